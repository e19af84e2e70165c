theorem ui_back (I : HI) (a k : Nat) (x : Int32) : ui (ui I a k x) a k (I a k) = I := by
  funext q j
  by_cases hq : q = a
  · subst hq
    by_cases hj : j = k
    · subst hj; rw [ui_s]
    · rw [ui_o hj, ui_o hj]
  · rw [ui_ne hq, ui_ne hq]
def upc (c : Nat → Nat) (m v : Nat) : Nat → Nat := fun x => if x = m then v else c x
def alw (F : bkF) (pg : Nat → Bool) (c : Nat → Nat) (m p : Nat) : Nat := if pg m = true then 0 else if (c m).testBit p = true then wys (F 3) pg (upc c m (2 ^ p)) (F 2) 0 0 else 0
theorem p2lt {p : Nat} (h : p < 6) : 2 ^ p < 64 := Nat.pow_lt_pow_right (n := 6) (by decide) h
theorem WcI.up {I : HI} {M m p : Nat} {pg : Nat → Bool} {c : Nat → Nat} (h : WcI I M pg c) (hp : p < 6) : WcI (ui I 154 m (nI (2 ^ p))) M pg (upc c m (2 ^ p)) := by
  refine ⟨fun x hx => by rw [ui_ne (by decide)]; exact h.1 x hx, fun x hx => ?_⟩
  by_cases e : x = m
  · subst e; rw [ui_s]; simp only [upc, if_true]; exact ⟨trivial, p2lt hp⟩
  · rw [ui_o e]; simp only [upc, if_neg e]; exact h.2 x hx
def lentP (n : Nat) (g : lends) (d m : Nat) : Option Nat := (fup (hitm g m d d) 0 n).map (fun i => (g i).2.1)
def wrb (F : bkF) (n : Nat) (g : lends) (d m : Nat) : Nat := match lentP n g d m with
  | none => bup (fun p => fitF F m p) 0 (F 3) 0
  | some p => 2 ^ p
def ofd (F : bkF) (d : Nat) : Nat := bup (fun s => decide (F (129 + 5 * s) = d)) 0 (F 5) 0
def rsb (F : bkF) (s : Nat) : Nat := bup (fun p => resF F s p) 0 (F 3) 0
def NtI (J : HI) (F : bkF) (n : Nat) (g : lends) (d : Nat) : Prop :=
  (∀ m, m < F 2 → J 151 m = eP (lentP n g d m) ∧ J 152 m = nI (wrb F n g d m)) ∧ J 150 2 = nI (ofd F d) ∧ (∀ s, s < F 5 → F (129 + 5 * s) = d → J 153 s = nI (rsb F s))
theorem lentP_lt {F : bkF} {n : Nat} {g : lends} {d m p : Nat} (hp : pers F n g) (h : lentP n g d m = some p) : p < F 3 := by
  unfold lentP at h
  cases hf : fup (hitm g m d d) 0 n with
  | none => rw [hf] at h; cases h
  | some i =>
    rw [hf] at h
    cases h
    have := fup_some hf
    exact (hp i (by omega)).2.1
theorem wrb_lt {F : bkF} {n : Nat} {g : lends} {d m : Nat} (hO : FOK F) (hp : pers F n g) : wrb F n g d m < 64 := by
  unfold wrb
  have h3 := hO.2.2.2.1
  cases h : lentP n g d m with
  | none => exact bup_lt (N := 6) (F 3) 0 0 (by decide) (by omega)
  | some p => exact p2lt (by have := lentP_lt hp h; omega)
def pgk (F : bkF) (n : Nat) (g : lends) (d r : Nat) : Nat → Nat → Bool
  | 0, m => (lentP n g d m).isNone
  | s + 1, m => if (r.testBit s && decide (F (128 + 5 * s) = m)) = true then false else pgk F n g d r s m
def cdk (F : bkF) (n : Nat) (g : lends) (d r : Nat) : Nat → Nat → Nat
  | 0, m => wrb F n g d m
  | s + 1, m => if (r.testBit s && decide (F (128 + 5 * s) = m)) = true then cdk F n g d r s m &&& rsb F s else cdk F n g d r s m
theorem cdk_lt {F : bkF} {n : Nat} {g : lends} {d r : Nat} (hO : FOK F) (hp : pers F n g) : ∀ s m, cdk F n g d r s m < 64
  | 0, m => wrb_lt hO hp
  | s + 1, m => by
    simp only [cdk]
    split
    · exact Nat.lt_of_le_of_lt Nat.and_le_left (cdk_lt hO hp s m)
    · exact cdk_lt hO hp s m
theorem eP_neg {o : Option Nat} (h : ∀ p, o = some p → p < 2 ^ 31) : eP o < 0 ↔ o = none := by
  cases o with
  | none => simp [eP]
  | some p => simp only [eP, reduceCtorEq, iff_false]; exact nI_pos (h p rfl)
