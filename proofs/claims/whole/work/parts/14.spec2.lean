/-! more numbers -/
theorem sml : ∀ n, n < 32 → ((nI n &&& 31).toBitVec.smod 32).toNat = n := by decide +kernel
theorem bit_b {w k : Nat} (hw : w < 2 ^ 31) (hk : k < 32) : (nI w >>> (nI k &&& 31)) &&& nI 1 = bI (w.testBit k) := by
  rw [pk_shrN hw _ k (sml k hk), pk_andN (Nat.lt_of_le_of_lt (Nat.div_le_self _ _) (by omega)) 1 (by decide), Nat.testBit_eq_decide_div_mod_eq]
  have h2 : w / 2 ^ k % 2 = 0 ∨ w / 2 ^ k % 2 = 1 := by omega
  rcases h2 with h | h <;> simp [h, bI] <;> rfl
def adf (a b : Nat) : Nat := if a < b then b - a else a - b
theorem adf_abs {a b : Nat} (ha : a < 2 ^ 30) (hb : b < 2 ^ 30) : (nI a - nI b < 0 ↔ a < b) ∧ (a < b → -(nI a - nI b) = nI (adf a b)) ∧ (¬ a < b → nI a - nI b = nI (adf a b)) := by
  have e := pk_sub_toInt (a := a) (b := b) ha hb
  refine ⟨?_, ?_, ?_⟩
  · rw [Int32.lt_iff_toInt_lt, e]
    show (a : Int) - b < 0 ↔ a < b
    omega
  · intro h
    apply Int32.toInt_inj.mp
    rw [Int32.toInt_neg, e, nI_toInt (by unfold adf; split <;> omega)]
    unfold adf
    rw [if_pos h]
    have : (-((a : Int) - b)).bmod (2 ^ 32) = -((a : Int) - b) := by
      apply Int.bmod_eq_of_le <;> omega
    rw [this]; omega
  · intro h
    apply Int32.toInt_inj.mp
    rw [e, nI_toInt (by unfold adf; split <;> omega)]
    unfold adf
    rw [if_neg h]; omega
def fitv (kind size psize honour child : Nat) : Bool := if kind = 2 then true else if kind = 3 then decide (adf size psize = 0) else decide (adf size psize ≤ 1) && (decide (kind ≠ 1) || decide (child = 1)) && (decide (kind ≠ 4) || decide (60 ≤ honour))
def MkI (I : HI) (a kind size : Nat) : Prop := I a 0 = nI kind ∧ I a 1 = nI size ∧ kind < 5 ∧ size < 10
def PsI (I : HI) (a size honour child habit works : Nat) : Prop := I a 0 = nI size ∧ I a 1 = nI honour ∧ I a 2 = nI child ∧ I a 3 = nI habit ∧ I a 4 = nI works ∧ size < 10 ∧ honour < 100 ∧ child < 2 ∧ habit < 5 ∧ works < 32
section
variable {y : MethodName} {cc : ByteArray} {nL : Nat} {ret : Option FieldType} {k : Nat} {Q : QT} {b : Nat} {ad : Nat → Nat} {pc : Nat} {lv : List (Option Value)} {rest : List Value} {I : HI} {L : HL} {R : HR}
theorem u_mabs {x : Int32} {idx : Nat} (hd : decode cc pc = .ok (.invokestatic idx, 3)) (hl : Cond.methodLink y.cls idx yJ9_abs_0f7a4 ∈ UU) (hk : 1 ≤ k) (hst : (rest.map fun v => v.category).sum ≤ 8) (h : VV y cc nL ret k Q b ad (pc + 3) lv (.int (if 0 ≤ x then x else 0 - x) :: rest) I L R) : VV y cc nL ret k Q b ad pc lv (.int x :: rest) I L R := by
  intro p l e s m args below meth c0 H locs D dA ls hc
  obtain ⟨h1, h2, h3, h4, h5, h6, h7, h8, h9, h10, h11, h12, h13, h14, h15⟩ := id hc
  obtain ⟨m1, m3, m4, m5, m6⟩ := ms_J9_abs_0f7a4
  exact va_mabs h1 h2 (h3.trans h15.1.1.symm) h7 (h8 _ hl) (h8 _ m1) (h8 _ m3) (h8 _ m4) hk (by show _ ≤ 100 * k; omega) (Nat.zero_le _) (Nat.zero_le _) hd (h p l e s m args below meth c0 H locs D dA ls hc)
theorem u_mmax {x z : Int32} {idx : Nat} (hd : decode cc pc = .ok (.invokestatic idx, 3)) (hl : Cond.methodLink y.cls idx yJ9_max_7cf53 ∈ UU) (hk : 1 ≤ k) (hst : (rest.map fun v => v.category).sum ≤ 8) (h : VV y cc nL ret k Q b ad (pc + 3) lv (.int (if x < z then z else x) :: rest) I L R) : VV y cc nL ret k Q b ad pc lv (.int z :: .int x :: rest) I L R := by
  intro p l e s m args below meth c0 H locs D dA ls hc
  obtain ⟨h1, h2, h3, h4, h5, h6, h7, h8, h9, h10, h11, h12, h13, h14, h15⟩ := id hc
  obtain ⟨m1, m3, m4, m5, m6⟩ := ms_J9_max_7cf53
  exact va_mmax h1 h2 (h3.trans h15.1.1.symm) h7 (h8 _ hl) (h8 _ m1) (h8 _ m3) (h8 _ m4) hk (by show _ ≤ 100 * k; omega) (Nat.zero_le _) (Nat.zero_le _) hd (h p l e s m args below meth c0 H locs D dA ls hc)
theorem u_mmin {x z : Int32} {idx : Nat} (hd : decode cc pc = .ok (.invokestatic idx, 3)) (hl : Cond.methodLink y.cls idx yJ9_min_7cf53 ∈ UU) (hk : 1 ≤ k) (hst : (rest.map fun v => v.category).sum ≤ 8) (h : VV y cc nL ret k Q b ad (pc + 3) lv (.int (if z < x then z else x) :: rest) I L R) : VV y cc nL ret k Q b ad pc lv (.int z :: .int x :: rest) I L R := by
  intro p l e s m args below meth c0 H locs D dA ls hc
  obtain ⟨h1, h2, h3, h4, h5, h6, h7, h8, h9, h10, h11, h12, h13, h14, h15⟩ := id hc
  obtain ⟨m1, m3, m4, m5, m6⟩ := ms_J9_min_7cf53
  exact va_mmin h1 h2 (h3.trans h15.1.1.symm) h7 (h8 _ hl) (h8 _ m1) (h8 _ m3) (h8 _ m4) hk (by show _ ≤ 100 * k; omega) (Nat.zero_le _) (Nat.zero_le _) hd (h p l e s m args below meth c0 H locs D dA ls hc)
theorem u_mabsd {s p : Nat} {idx : Nat} (hs : s < 2 ^ 30) (hp : p < 2 ^ 30) (hd : decode cc pc = .ok (.invokestatic idx, 3)) (hl : Cond.methodLink y.cls idx yJ9_abs_0f7a4 ∈ UU) (hk : 1 ≤ k) (hst : (rest.map fun v => v.category).sum ≤ 8) (h : VV y cc nL ret k Q b ad (pc + 3) lv (.int (nI (adf s p)) :: rest) I L R) : VV y cc nL ret k Q b ad pc lv (.int (nI s - nI p) :: rest) I L R := by
  refine u_mabs hd hl hk hst ?_
  obtain ⟨e1, e2, e3⟩ := adf_abs hs hp
  by_cases hlt : s < p
  · rw [if_neg (Int32.not_le.mpr (e1.mpr hlt)), Int32.zero_sub, e2 hlt]; exact h
  · rw [if_pos (Int32.not_lt.mp (fun z => hlt (e1.mp z))), e3 hlt]; exact h
end
