theorem dX7_needNewName_0 : decode cX7_needNewName 0 = .ok (.aload_n 0, 1) := by decide +kernel
theorem dX7_needNewName_1 : decode cX7_needNewName 1 = .ok (.invokevirtual 323, 3) := by decide +kernel
theorem dX7_needNewName_4 : decode cX7_needNewName 4 = .ok (.istore_n 3, 1) := by decide +kernel
theorem dX7_needNewName_5 : decode cX7_needNewName 5 = .ok (.aload_n 0, 1) := by decide +kernel
theorem dX7_needNewName_6 : decode cX7_needNewName 6 = .ok (.iload_n 3, 1) := by decide +kernel
theorem dX7_needNewName_7 : decode cX7_needNewName 7 = .ok (.invokevirtual 327, 3) := by decide +kernel
theorem dX7_needNewName_10 : decode cX7_needNewName 10 = .ok (.ifCond .ne 9, 3) := by decide +kernel
theorem dX7_needNewName_13 : decode cX7_needNewName 13 = .ok (.aload_n 0, 1) := by decide +kernel
theorem dX7_needNewName_14 : decode cX7_needNewName 14 = .ok (.iconst 1, 1) := by decide +kernel
theorem dX7_needNewName_15 : decode cX7_needNewName 15 = .ok (.invokevirtual 102, 3) := by decide +kernel
theorem dX7_needNewName_18 : decode cX7_needNewName 18 = .ok (.ireturn, 1) := by decide +kernel
theorem dX7_needNewName_19 : decode cX7_needNewName 19 = .ok (.iload_n 3, 1) := by decide +kernel
theorem dX7_needNewName_20 : decode cX7_needNewName 20 = .ok (.ifCond .lt 9, 3) := by decide +kernel
theorem dX7_needNewName_23 : decode cX7_needNewName 23 = .ok (.aload_n 0, 1) := by decide +kernel
theorem dX7_needNewName_24 : decode cX7_needNewName 24 = .ok (.iconst 3, 1) := by decide +kernel
theorem dX7_needNewName_25 : decode cX7_needNewName 25 = .ok (.invokevirtual 102, 3) := by decide +kernel
theorem dX7_needNewName_28 : decode cX7_needNewName 28 = .ok (.ireturn, 1) := by decide +kernel
theorem dX7_needNewName_29 : decode cX7_needNewName 29 = .ok (.aload_n 0, 1) := by decide +kernel
theorem dX7_needNewName_30 : decode cX7_needNewName 30 = .ok (.getfield 59, 3) := by decide +kernel
theorem dX7_needNewName_33 : decode cX7_needNewName 33 = .ok (.bipush 30, 2) := by decide +kernel
theorem dX7_needNewName_35 : decode cX7_needNewName 35 = .ok (.if_icmp .ge 49, 3) := by decide +kernel
theorem dX7_needNewName_38 : decode cX7_needNewName 38 = .ok (.aload_n 0, 1) := by decide +kernel
theorem dX7_needNewName_39 : decode cX7_needNewName 39 = .ok (.getfield 18, 3) := by decide +kernel
theorem dX7_needNewName_42 : decode cX7_needNewName 42 = .ok (.aload_n 0, 1) := by decide +kernel
theorem dX7_needNewName_43 : decode cX7_needNewName 43 = .ok (.getfield 59, 3) := by decide +kernel
theorem dX7_needNewName_46 : decode cX7_needNewName 46 = .ok (.aload_n 0, 1) := by decide +kernel
theorem dX7_needNewName_47 : decode cX7_needNewName 47 = .ok (.getfield 14, 3) := by decide +kernel
theorem dX7_needNewName_50 : decode cX7_needNewName 50 = .ok (.getfield 330, 3) := by decide +kernel
theorem dX7_needNewName_53 : decode cX7_needNewName 53 = .ok (.lastore, 1) := by decide +kernel
theorem dX7_needNewName_54 : decode cX7_needNewName 54 = .ok (.aload_n 0, 1) := by decide +kernel
theorem dX7_needNewName_55 : decode cX7_needNewName 55 = .ok (.getfield 22, 3) := by decide +kernel
theorem dX7_needNewName_58 : decode cX7_needNewName 58 = .ok (.aload_n 0, 1) := by decide +kernel
theorem dX7_needNewName_59 : decode cX7_needNewName 59 = .ok (.getfield 59, 3) := by decide +kernel
theorem dX7_needNewName_62 : decode cX7_needNewName 62 = .ok (.iload_n 1, 1) := by decide +kernel
theorem dX7_needNewName_63 : decode cX7_needNewName 63 = .ok (.iastore, 1) := by decide +kernel
theorem dX7_needNewName_64 : decode cX7_needNewName 64 = .ok (.aload_n 0, 1) := by decide +kernel
theorem dX7_needNewName_65 : decode cX7_needNewName 65 = .ok (.getfield 26, 3) := by decide +kernel
theorem dX7_needNewName_68 : decode cX7_needNewName 68 = .ok (.aload_n 0, 1) := by decide +kernel
theorem dX7_needNewName_69 : decode cX7_needNewName 69 = .ok (.getfield 59, 3) := by decide +kernel
theorem dX7_needNewName_72 : decode cX7_needNewName 72 = .ok (.iload_n 2, 1) := by decide +kernel
theorem dX7_needNewName_73 : decode cX7_needNewName 73 = .ok (.iastore, 1) := by decide +kernel
theorem dX7_needNewName_74 : decode cX7_needNewName 74 = .ok (.aload_n 0, 1) := by decide +kernel
theorem dX7_needNewName_75 : decode cX7_needNewName 75 = .ok (.dup, 1) := by decide +kernel
theorem dX7_needNewName_76 : decode cX7_needNewName 76 = .ok (.getfield 59, 3) := by decide +kernel
theorem dX7_needNewName_79 : decode cX7_needNewName 79 = .ok (.iconst 1, 1) := by decide +kernel
theorem dX7_needNewName_80 : decode cX7_needNewName 80 = .ok (.iadd, 1) := by decide +kernel
theorem dX7_needNewName_81 : decode cX7_needNewName 81 = .ok (.putfield 59, 3) := by decide +kernel
theorem dX7_needNewName_84 : decode cX7_needNewName 84 = .ok (.aload_n 0, 1) := by decide +kernel
theorem dX7_needNewName_85 : decode cX7_needNewName 85 = .ok (.getfield 14, 3) := by decide +kernel
theorem dX7_needNewName_88 : decode cX7_needNewName 88 = .ok (.invokevirtual 89, 3) := by decide +kernel
theorem dX7_needNewName_91 : decode cX7_needNewName 91 = .ok (.iconst 1, 1) := by decide +kernel
theorem dX7_needNewName_92 : decode cX7_needNewName 92 = .ok (.ireturn, 1) := by decide +kernel
theorem dX7_needTold_0 : decode cX7_needTold 0 = .ok (.aload_n 0, 1) := by decide +kernel
theorem dX7_needTold_1 : decode cX7_needTold 1 = .ok (.invokevirtual 323, 3) := by decide +kernel
theorem dX7_needTold_4 : decode cX7_needTold 4 = .ok (.istore_n 2, 1) := by decide +kernel
theorem dX7_needTold_5 : decode cX7_needTold 5 = .ok (.aload_n 0, 1) := by decide +kernel
theorem dX7_needTold_6 : decode cX7_needTold 6 = .ok (.iload_n 2, 1) := by decide +kernel
theorem dX7_needTold_7 : decode cX7_needTold 7 = .ok (.invokevirtual 327, 3) := by decide +kernel
theorem dX7_needTold_10 : decode cX7_needTold 10 = .ok (.ifCond .ne 9, 3) := by decide +kernel
theorem dX7_needTold_13 : decode cX7_needTold 13 = .ok (.aload_n 0, 1) := by decide +kernel
theorem dX7_needTold_14 : decode cX7_needTold 14 = .ok (.iconst 1, 1) := by decide +kernel
theorem dX7_needTold_15 : decode cX7_needTold 15 = .ok (.invokevirtual 102, 3) := by decide +kernel
theorem dX7_needTold_18 : decode cX7_needTold 18 = .ok (.ireturn, 1) := by decide +kernel
theorem dX7_needTold_19 : decode cX7_needTold 19 = .ok (.iload_n 2, 1) := by decide +kernel
theorem dX7_needTold_20 : decode cX7_needTold 20 = .ok (.ifCond .lt 13, 3) := by decide +kernel
theorem dX7_needTold_23 : decode cX7_needTold 23 = .ok (.aload_n 0, 1) := by decide +kernel
theorem dX7_needTold_24 : decode cX7_needTold 24 = .ok (.getfield 22, 3) := by decide +kernel
theorem dX7_needTold_27 : decode cX7_needTold 27 = .ok (.iload_n 2, 1) := by decide +kernel
theorem dX7_needTold_28 : decode cX7_needTold 28 = .ok (.iaload, 1) := by decide +kernel
theorem dX7_needTold_29 : decode cX7_needTold 29 = .ok (.iload_n 1, 1) := by decide +kernel
theorem dX7_needTold_30 : decode cX7_needTold 30 = .ok (.if_icmp .eq 9, 3) := by decide +kernel
theorem dX7_needTold_33 : decode cX7_needTold 33 = .ok (.aload_n 0, 1) := by decide +kernel
theorem dX7_needTold_34 : decode cX7_needTold 34 = .ok (.iconst 2, 1) := by decide +kernel
theorem dX7_needTold_35 : decode cX7_needTold 35 = .ok (.invokevirtual 102, 3) := by decide +kernel
theorem dX7_needTold_38 : decode cX7_needTold 38 = .ok (.ireturn, 1) := by decide +kernel
theorem dX7_needTold_39 : decode cX7_needTold 39 = .ok (.aload_n 0, 1) := by decide +kernel
theorem dX7_needTold_40 : decode cX7_needTold 40 = .ok (.aload_n 0, 1) := by decide +kernel
theorem dX7_needTold_41 : decode cX7_needTold 41 = .ok (.getfield 26, 3) := by decide +kernel
theorem dX7_needTold_44 : decode cX7_needTold 44 = .ok (.iload_n 2, 1) := by decide +kernel
theorem dX7_needTold_45 : decode cX7_needTold 45 = .ok (.iaload, 1) := by decide +kernel
theorem dX7_needTold_46 : decode cX7_needTold 46 = .ok (.putfield 154, 3) := by decide +kernel
theorem dX7_needTold_49 : decode cX7_needTold 49 = .ok (.aload_n 0, 1) := by decide +kernel
theorem dX7_needTold_50 : decode cX7_needTold 50 = .ok (.getfield 14, 3) := by decide +kernel
theorem dX7_needTold_53 : decode cX7_needTold 53 = .ok (.invokevirtual 89, 3) := by decide +kernel
theorem dX7_needTold_56 : decode cX7_needTold 56 = .ok (.iconst 1, 1) := by decide +kernel
theorem dX7_needTold_57 : decode cX7_needTold 57 = .ok (.ireturn, 1) := by decide +kernel
theorem dX7_isName_0 : decode cX7_isName 0 = .ok (.aload_n 0, 1) := by decide +kernel
theorem dX7_isName_1 : decode cX7_isName 1 = .ok (.getfield 14, 3) := by decide +kernel
theorem dX7_isName_4 : decode cX7_isName 4 = .ok (.getfield 96, 3) := by decide +kernel
theorem dX7_isName_7 : decode cX7_isName 7 = .ok (.iconst 1, 1) := by decide +kernel
theorem dX7_isName_8 : decode cX7_isName 8 = .ok (.if_icmp .ne 21, 3) := by decide +kernel
theorem dX7_isName_11 : decode cX7_isName 11 = .ok (.iload_n 1, 1) := by decide +kernel
theorem dX7_isName_12 : decode cX7_isName 12 = .ok (.ifCond .lt 13, 3) := by decide +kernel
theorem dX7_isName_15 : decode cX7_isName 15 = .ok (.aload_n 0, 1) := by decide +kernel
theorem dX7_isName_16 : decode cX7_isName 16 = .ok (.getfield 22, 3) := by decide +kernel
theorem dX7_isName_19 : decode cX7_isName 19 = .ok (.iload_n 1, 1) := by decide +kernel
theorem dX7_isName_20 : decode cX7_isName 20 = .ok (.iaload, 1) := by decide +kernel
theorem dX7_isName_21 : decode cX7_isName 21 = .ok (.iconst 3, 1) := by decide +kernel
theorem dX7_isName_22 : decode cX7_isName 22 = .ok (.if_icmp .eq 7, 3) := by decide +kernel
theorem dX7_isName_25 : decode cX7_isName 25 = .ok (.iconst 1, 1) := by decide +kernel
theorem dX7_isName_26 : decode cX7_isName 26 = .ok (.goto 4, 3) := by decide +kernel
theorem dX7_isName_29 : decode cX7_isName 29 = .ok (.iconst 0, 1) := by decide +kernel
theorem dX7_isName_30 : decode cX7_isName 30 = .ok (.ireturn, 1) := by decide +kernel
theorem dX7_findName_0 : decode cX7_findName 0 = .ok (.iconst 0, 1) := by decide +kernel
theorem dX7_findName_1 : decode cX7_findName 1 = .ok (.istore_n 1, 1) := by decide +kernel
theorem dX7_findName_2 : decode cX7_findName 2 = .ok (.iload_n 1, 1) := by decide +kernel
theorem dX7_findName_3 : decode cX7_findName 3 = .ok (.aload_n 0, 1) := by decide +kernel
theorem dX7_findName_4 : decode cX7_findName 4 = .ok (.getfield 59, 3) := by decide +kernel
theorem dX7_findName_7 : decode cX7_findName 7 = .ok (.if_icmp .ge 28, 3) := by decide +kernel
theorem dX7_findName_10 : decode cX7_findName 10 = .ok (.aload_n 0, 1) := by decide +kernel
theorem dX7_findName_11 : decode cX7_findName 11 = .ok (.getfield 18, 3) := by decide +kernel
theorem dX7_findName_14 : decode cX7_findName 14 = .ok (.iload_n 1, 1) := by decide +kernel
theorem dX7_findName_15 : decode cX7_findName 15 = .ok (.laload, 1) := by decide +kernel
theorem dX7_findName_16 : decode cX7_findName 16 = .ok (.aload_n 0, 1) := by decide +kernel
theorem dX7_findName_17 : decode cX7_findName 17 = .ok (.getfield 14, 3) := by decide +kernel
theorem dX7_findName_20 : decode cX7_findName 20 = .ok (.getfield 330, 3) := by decide +kernel
theorem dX7_findName_23 : decode cX7_findName 23 = .ok (.lcmp, 1) := by decide +kernel
theorem dX7_findName_24 : decode cX7_findName 24 = .ok (.ifCond .ne 5, 3) := by decide +kernel
theorem dX7_findName_27 : decode cX7_findName 27 = .ok (.iload_n 1, 1) := by decide +kernel
theorem dX7_findName_28 : decode cX7_findName 28 = .ok (.ireturn, 1) := by decide +kernel
theorem dX7_findName_29 : decode cX7_findName 29 = .ok (.iinc 1 1, 3) := by decide +kernel
theorem dX7_findName_32 : decode cX7_findName 32 = .ok (.goto (-30), 3) := by decide +kernel
theorem dX7_findName_35 : decode cX7_findName 35 = .ok (.iconst (-1), 1) := by decide +kernel
theorem dX7_findName_36 : decode cX7_findName 36 = .ok (.ireturn, 1) := by decide +kernel
/-- the sort and the number of a slot -/
def sof (n : Nat) : Nat := if n < 5 then 0 else if n < 11 then 1 else 2
def nof (n : Nat) : Nat := if n < 5 then n else if n < 11 then n - 5 else n - 11
theorem sof_bas : ∀ n, n < 17 → ∀ t, t < 3 → (sof n = t ↔ bas t ≤ n ∧ n < bas t + rom t) ∧ (sof n = t → nof n = n - bas t) ∧ sof n < 3 ∧ nof n < 6 := by decide +kernel
/-- the table: thirteen words that are barred, then cnt names, the i-th of slot sl i -/
def NmT (I : HI) (L : HL) (F : bkF) (cnt : Nat) (sl : Nat → Nat) : Prop := I 88 7 = nI (13 + cnt) ∧ cnt ≤ 17 ∧ (∀ i, i < 13 → L 91 i = rsv i ∧ I 92 i = nI 3) ∧ (∀ i, i < cnt → sl i < 17 ∧ L 91 (13 + i) = l64 (nmF F (sl i)) 0 ∧ I 92 (13 + i) = nI (sof (sl i)) ∧ I 93 (13 + i) = nI (nof (sl i)))
def TnC (F : bkF) (cnt : Nat) (sl : Nat → Nat) : Prop := (∀ i, i < cnt → tn F (sl i)) ∧ (∀ n, n < 17 → tn F n → ∃ i, i < cnt ∧ sl i = n) ∧ cnt = F 1 + F 2 + F 3
/-- where the word's number stands first in the table -/
def fnm (L : HL) (cnt : Nat) : Option Nat := fup (fun i => decide (L 91 i = L 89 7)) 0 (13 + cnt)
theorem fup_is {p : Nat → Bool} {n k : Nat} (hk : k < n) (hp : p k = true) (hm : ∀ j, j < k → p j = false) : fup p 0 n = some k := by
  cases h : fup p 0 n with
  | none => have := fup_none h k (Nat.zero_le _) (by omega); rw [hp] at this; cases this
  | some q =>
    obtain ⟨-, h2, h3⟩ := fup_some h
    have e1 : ¬ q < k := fun z => by rw [hm q z] at h3; cases h3
    by_cases e2 : k < q
    · exfalso
      have key : ∀ (n i : Nat), i ≤ k → k < i + n → ∀ r, fup p i n = some r → r ≤ k := by
        intro n
        induction n with
        | zero => intro i _ _ r hr; cases hr
        | succ n ih =>
          intro i h1 h2 r hr
          by_cases hi : p i = true
          · rw [fup_t hi] at hr; cases hr; exact h1
          · rw [fup_f (by simpa using hi)] at hr
            have : i ≠ k := fun z => hi (z ▸ hp)
            exact ih (i + 1) (by omega) (by omega) r hr
      have := key n 0 (Nat.zero_le _) (by omega) q h
      omega
    · rw [show q = k by omega]
theorem fup_no {p : Nat → Bool} {n : Nat} (h : ∀ j, j < n → p j = false) : fup p 0 n = none := by
  cases q : fup p 0 n with
  | none => rfl
  | some k => obtain ⟨-, h2, h3⟩ := fup_some q; rw [h k (by omega)] at h3; cases h3
theorem lg_cmp1 {x z : Int64} (h : x = z) : lg_cmp x z = 0 := by subst h; unfold lg_cmp; simp
theorem lg_cmp0 {x z : Int64} (h : lg_cmp x z = 0) : x = z := by
  unfold lg_cmp at h
  by_cases h1 : z < x
  · rw [if_pos h1] at h; exact absurd h (by decide)
  · by_cases h2 : x = z
    · exact h2
    · rw [if_neg h1, if_neg h2] at h; exact absurd h (by decide)
section
variable {b : Nat} {ad : Nat → Nat} {I J : HI} {L M : HL} {R : HR} {Q : QT} {tp : Nat → Nat} {sz k e bf : Nat} {s : PS} {F : bkF} {cnt : Nat} {sl : Nat → Nat}
theorem isR_iff : isR tp sz e = true ↔ ∃ i, i < 13 ∧ tK tp sz e = 2 ∧ tL tp sz e = rsvW.getD i [] := by
  unfold isR
  rw [oup_iff]
  constructor
  · rintro ⟨i, -, h2, h3⟩
    unfold isW at h3
    rw [Bool.and_eq_true, decide_eq_true_eq, decide_eq_true_eq] at h3
    exact ⟨i, by omega, h3.1, h3.2⟩
  · rintro ⟨i, h1, h2, h3⟩
    exact ⟨i, Nat.zero_le _, by omega, isW_t h2 h3⟩
/-- what the table says of a word, told by the slots -/
theorem fnm_ok (hN : NmT I L F cnt sl) (hC : TnC F cnt sl) (hK : NmK F) (hT : TkI I L R tp sz e bf) (h2 : tK tp sz e = 2) : (isR tp sz e = true → ∃ i, i < 13 ∧ fnm L cnt = some i) ∧ (isR tp sz e = false → (fnd tp sz F e = none → fnm L cnt = none) ∧ (∀ n, fnd tp sz F e = some n → ∃ i, i < cnt ∧ sl i = n ∧ fnm L cnt = some (13 + i))) := by
  obtain ⟨-, -, n3, n4⟩ := hN
  obtain ⟨c1, c2, -⟩ := hC
  have hw := (tL_wok hT.by hT.2.1 h2).1
  have hl := hT.2.2.2.2.2.2 h2
  have er : ∀ i, i < 13 → (L 91 i = L 89 7 ↔ tL tp sz e = rsvW.getD i []) := fun i hi => by
    rw [(n3 i hi).1, rsv_l64 hi, hl]
    exact ⟨fun q => (l64_inj ⟨(rsv_wok i hi).1, (rsv_wok i hi).2.1⟩ hw q).symm, fun q => by rw [q]⟩
  have en : ∀ i, i < cnt → (L 91 (13 + i) = L 89 7 ↔ nmF F (sl i) = tL tp sz e) := fun i hi => by
    rw [(n4 i hi).2.1, hl]
    exact ⟨fun q => l64_inj (hK.2.1 _ (n4 i hi).1 (c1 i hi)) hw q, fun q => by rw [q]⟩
  refine ⟨fun hr => ?_, fun hr => ?_⟩
  · obtain ⟨i, hi, -, h3⟩ := isR_iff.mp hr
    cases hf : fnm L cnt with
    | none =>
      have := fup_none hf i (Nat.zero_le _) (by omega)
      rw [decide_eq_true ((er i hi).mpr h3)] at this
      cases this
    | some q =>
      refine ⟨q, ?_, rfl⟩
      have key : ∀ (n j : Nat), j ≤ i → i < j + n → ∀ r, fup (fun i => decide (L 91 i = L 89 7)) j n = some r → r ≤ i := by
        intro n
        induction n with
        | zero => intro j _ _ r hr; cases hr
        | succ n ih =>
          intro j h1 h2 r hr
          by_cases hj : L 91 j = L 89 7
          · rw [fup_t (decide_eq_true hj)] at hr; cases hr; exact h1
          · rw [fup_f (decide_eq_false hj)] at hr
            have : j ≠ i := fun z => hj (z ▸ (er i hi).mpr h3)
            exact ih (j + 1) (by omega) (by omega) r hr
      have := key (13 + cnt) 0 (Nat.zero_le _) (by omega) q hf
      omega
  · have hno : ∀ i, i < 13 → ¬ L 91 i = L 89 7 := fun i hi q => by
      rw [isR_iff.mpr ⟨i, hi, h2, (er i hi).mp q⟩] at hr; cases hr
    refine ⟨fun hf => fup_no (fun j hj => decide_eq_false (fun q => ?_)), fun n hf => ?_⟩
    · by_cases h13 : j < 13
      · exact hno j h13 q
      · obtain ⟨i, rfl⟩ : ∃ i, j = 13 + i := ⟨j - 13, by omega⟩
        have hi : i < cnt := by omega
        have := fup_none hf (sl i) (Nat.zero_le _) (by have := (n4 i hi).1; omega)
        rw [decide_eq_true ((hK.1 _ (n4 i hi).1).mpr (c1 i hi)), decide_eq_true ((en i hi).mp q)] at this
        cases this
    · obtain ⟨q1, q2, q3⟩ := fnd_tn hK hf
      obtain ⟨i, hi, hsi⟩ := c2 n q1 q2
      have hp : L 91 (13 + i) = L 89 7 := (en i hi).mpr (by rw [hsi]; exact q3)
      -- the first such place
      cases hg : fnm L cnt with
      | none =>
        have := fup_none hg (13 + i) (Nat.zero_le _) (by omega)
        rw [decide_eq_true hp] at this; cases this
      | some r =>
        obtain ⟨-, r2, r3⟩ := fup_some hg
        have r3 := of_decide_eq_true r3
        by_cases h13 : r < 13
        · exact absurd r3 (hno r h13)
        · obtain ⟨z, rfl⟩ : ∃ z, r = 13 + z := ⟨r - 13, by omega⟩
          have hz : z < cnt := by omega
          have ez := (en z hz).mp r3
          exact ⟨z, hz, hK.2.2 _ _ (n4 z hz).1 q1 (c1 z hz) q2 (ez.trans q3.symm), rfl⟩
theorem c_X7_findName {n : Nat} (hR : RO R) (hn : I 88 7 = nI n) (hn30 : n ≤ 30) (hQ : Q (some (.int (eO (fup (fun i => decide (L 91 i = L 89 7)) 0 n)))) SH I L R) : KK 0 mX7_findName b ad [.ref (b + 88)] I L R Q := by
  have loop : ∀ (m j : Nat), j + m = n → fup (fun i => decide (L 91 i = L 89 7)) j m = fup (fun i => decide (L 91 i = L 89 7)) 0 n → VV yX7_findName cX7_findName 2 (some .int) 0 Q b ad 2 [some (.ref (b + 88)), some (.int (nI j))] [] I L R := by
    intro m
    induction m with
    | zero =>
      intro j hm he
      refine v_iload_1 dX7_findName_2 ?_
      refine v_aload_0 dX7_findName_3 ?_
      refine u_getI dX7_findName_4 gf_X7_59 (by first | assumption | rfl | exact led_1 (by assumption) | exact led_2 (by assumption) | exact bk_m (by assumption) (by first | assumption | omega) | exact bk_p (by assumption) (by first | assumption | omega) | exact bk_o (by assumption) (by first | assumption | omega) | exact bk_s (by assumption) (by first | assumption | omega) | exact bk_1 (by assumption) | exact bk_2 (by assumption) | exact bk_3 (by assumption) | exact bk_4 (by assumption) | exact bk_5 (by assumption) | exact bk_6 (by assumption) | exact bk_7 (by assumption) | exact bk_8 (by assumption) | exact sh_ring _ (by first | assumption | omega) | exact sh_imgs _ (by first | assumption | omega)) ?_
      rw [hn]
      refine v_icmp_ge (tgt := 35) dX7_findName_7 (by decide) (fun hc7 => ?_) (fun hc7 => ?_)
      · (try rw [nI_leI (by omega) (by omega)] at hc7)
        refine v_iconst (v := -1) dX7_findName_35 (by decide) ?_
        refine v_iret dX7_findName_36 rfl rfl rfl rfl ?_
        rw [← he] at hQ
        exact hQ
      · exact absurd (nI_le (by omega) (by omega)) hc7
    | succ m ih =>
      intro j hm he
      refine v_iload_1 dX7_findName_2 ?_
      refine v_aload_0 dX7_findName_3 ?_
      refine u_getI dX7_findName_4 gf_X7_59 (by first | assumption | rfl | exact led_1 (by assumption) | exact led_2 (by assumption) | exact bk_m (by assumption) (by first | assumption | omega) | exact bk_p (by assumption) (by first | assumption | omega) | exact bk_o (by assumption) (by first | assumption | omega) | exact bk_s (by assumption) (by first | assumption | omega) | exact bk_1 (by assumption) | exact bk_2 (by assumption) | exact bk_3 (by assumption) | exact bk_4 (by assumption) | exact bk_5 (by assumption) | exact bk_6 (by assumption) | exact bk_7 (by assumption) | exact bk_8 (by assumption) | exact sh_ring _ (by first | assumption | omega) | exact sh_imgs _ (by first | assumption | omega)) ?_
      rw [hn]
      refine v_icmp_ge (tgt := 35) dX7_findName_7 (by decide) (fun hc7 => ?_) (fun hc7 => ?_)
      · exact absurd hc7 (nI_ge (by omega) (by omega))
      · (try rw [nI_leI (by omega) (by omega)] at hc7)
        refine v_aload_0 dX7_findName_10 ?_
        refine u_getR dX7_findName_11 gf_X7_18 (by first | assumption | rfl | exact led_1 (by assumption) | exact led_2 (by assumption) | exact bk_m (by assumption) (by first | assumption | omega) | exact bk_p (by assumption) (by first | assumption | omega) | exact bk_o (by assumption) (by first | assumption | omega) | exact bk_s (by assumption) (by first | assumption | omega) | exact bk_1 (by assumption) | exact bk_2 (by assumption) | exact bk_3 (by assumption) | exact bk_4 (by assumption) | exact bk_5 (by assumption) | exact bk_6 (by assumption) | exact bk_7 (by assumption) | exact bk_8 (by assumption) | exact sh_ring _ (by first | assumption | omega) | exact sh_imgs _ (by first | assumption | omega)) (ro_X7_4 (by assumption)) ?_
        refine v_iload_1 dX7_findName_14 ?_
        refine u_lald dX7_findName_15 (by first | assumption | rfl | exact led_1 (by assumption) | exact led_2 (by assumption) | exact bk_m (by assumption) (by first | assumption | omega) | exact bk_p (by assumption) (by first | assumption | omega) | exact bk_o (by assumption) (by first | assumption | omega) | exact bk_s (by assumption) (by first | assumption | omega) | exact bk_1 (by assumption) | exact bk_2 (by assumption) | exact bk_3 (by assumption) | exact bk_4 (by assumption) | exact bk_5 (by assumption) | exact bk_6 (by assumption) | exact bk_7 (by assumption) | exact bk_8 (by assumption) | exact sh_ring _ (by first | assumption | omega) | exact sh_imgs _ (by first | assumption | omega)) (by first | with_reducible rfl | (simp only [nlit, nI_add, pk_mul]; with_reducible rfl) | rfl) (by first | assumption | omega) (by first | assumption | decide) ?_
        refine v_aload_0 dX7_findName_16 ?_
        refine u_getR dX7_findName_17 gf_X7_14 (by first | assumption | rfl | exact led_1 (by assumption) | exact led_2 (by assumption) | exact bk_m (by assumption) (by first | assumption | omega) | exact bk_p (by assumption) (by first | assumption | omega) | exact bk_o (by assumption) (by first | assumption | omega) | exact bk_s (by assumption) (by first | assumption | omega) | exact bk_1 (by assumption) | exact bk_2 (by assumption) | exact bk_3 (by assumption) | exact bk_4 (by assumption) | exact bk_5 (by assumption) | exact bk_6 (by assumption) | exact bk_7 (by assumption) | exact bk_8 (by assumption) | exact sh_ring _ (by first | assumption | omega) | exact sh_imgs _ (by first | assumption | omega)) (ro_X7_3 (by assumption)) ?_
        refine u_getL dX7_findName_20 gf_X7_330 (by first | assumption | rfl | exact led_1 (by assumption) | exact led_2 (by assumption) | exact bk_m (by assumption) (by first | assumption | omega) | exact bk_p (by assumption) (by first | assumption | omega) | exact bk_o (by assumption) (by first | assumption | omega) | exact bk_s (by assumption) (by first | assumption | omega) | exact bk_1 (by assumption) | exact bk_2 (by assumption) | exact bk_3 (by assumption) | exact bk_4 (by assumption) | exact bk_5 (by assumption) | exact bk_6 (by assumption) | exact bk_7 (by assumption) | exact bk_8 (by assumption) | exact sh_ring _ (by first | assumption | omega) | exact sh_imgs _ (by first | assumption | omega)) ?_
        refine v_lcmp dX7_findName_23 ?_
        refine v_if_ne (tgt := 29) dX7_findName_24 (by decide) (fun hc24 => ?_) (fun hc24 => ?_)
        · skip
          refine v_iinc_1 (v := 1) rfl dX7_findName_29 (by decide) ?_
          rw [show nI j + 1 = nI (j + 1) from nI_1 j]
          refine v_goto (tgt := 2) dX7_findName_32 (by decide) ?_
          refine ih (j + 1) (by omega) ?_
          rw [← he, fup_f (decide_eq_false (fun q => hc24 (lg_cmp1 q)))]
        · skip
          refine v_iload_1 dX7_findName_27 ?_
          refine v_iret dX7_findName_28 rfl rfl rfl rfl ?_
          have e1 : L 91 j = L 89 7 := lg_cmp0 hc24
          rw [← he, fup_t (decide_eq_true e1)] at hQ
          exact hQ
  refine K.of (M := mX7_findName) (lv := [some (.ref (b + 88)), none]) (by decide) (Nat.le_of_ble_eq_true rfl) rfl ?_
  refine v_iconst (v := nI 0) dX7_findName_0 (by decide) ?_
  refine v_istore_1 rfl dX7_findName_1 ?_
  exact loop n 0 (by omega) rfl
def isN (I : HI) (k : Nat) (o : Option Nat) : Bool := decide (k = 2) && (match o with
  | none => true
  | some i => decide (I 92 i ≠ nI 3))
theorem isN_s {I : HI} {k i : Nat} : isN I k (some i) = (decide (k = 2) && decide (I 92 i ≠ nI 3)) := rfl
theorem c_X7_isName {o : Option Nat} (hR : RO R) (hT : TkI I L R tp sz e bf) (ho : ∀ i, o = some i → i < 30) (hQ : Q (some (.int (bI (isN I (tK tp sz e) o)))) SH I L R) : KK 0 mX7_isName b ad [.ref (b + 88), .int (eO o)] I L R Q := by
  have hsb := srt_b (tK tp sz e)
  cases o with
  | none =>
    refine K.of (M := mX7_isName) (lv := [some (.ref (b + 88)), some (.int (-1))]) (by decide) (Nat.le_of_ble_eq_true rfl) rfl ?_
    refine v_aload_0 dX7_isName_0 ?_
    refine u_getR dX7_isName_1 gf_X7_14 (by first | assumption | rfl | exact led_1 (by assumption) | exact led_2 (by assumption) | exact bk_m (by assumption) (by first | assumption | omega) | exact bk_p (by assumption) (by first | assumption | omega) | exact bk_o (by assumption) (by first | assumption | omega) | exact bk_s (by assumption) (by first | assumption | omega) | exact bk_1 (by assumption) | exact bk_2 (by assumption) | exact bk_3 (by assumption) | exact bk_4 (by assumption) | exact bk_5 (by assumption) | exact bk_6 (by assumption) | exact bk_7 (by assumption) | exact bk_8 (by assumption) | exact sh_ring _ (by first | assumption | omega) | exact sh_imgs _ (by first | assumption | omega)) (ro_X7_3 (by assumption)) ?_
    refine u_getI dX7_isName_4 gf_X7_96 (by first | assumption | rfl | exact led_1 (by assumption) | exact led_2 (by assumption) | exact bk_m (by assumption) (by first | assumption | omega) | exact bk_p (by assumption) (by first | assumption | omega) | exact bk_o (by assumption) (by first | assumption | omega) | exact bk_s (by assumption) (by first | assumption | omega) | exact bk_1 (by assumption) | exact bk_2 (by assumption) | exact bk_3 (by assumption) | exact bk_4 (by assumption) | exact bk_5 (by assumption) | exact bk_6 (by assumption) | exact bk_7 (by assumption) | exact bk_8 (by assumption) | exact sh_ring _ (by first | assumption | omega) | exact sh_imgs _ (by first | assumption | omega)) ?_
    rw [hT.2.2.1]
    refine v_iconst (v := nI 1) dX7_isName_7 (by decide) ?_
    refine v_icmp_ne (tgt := 29) dX7_isName_8 (by decide) (fun hc8 => ?_) (fun hc8 => ?_)
    · rw [nI_eq (by omega) (by decide), srt_1] at hc8
      refine v_iconst (v := nI 0) dX7_isName_29 (by decide) ?_
      refine v_zret dX7_isName_30 (by first | rfl | exact bI_n _) rfl rfl rfl rfl ?_
      first
        | (rw [show isN I (tK tp sz e) _ = false from by unfold isN; rw [decide_eq_false hc8]; rfl] at hQ; exact hQ)
        | (rw [show isN I (tK tp sz e) none = true from by unfold isN; rw [decide_eq_true hc8]; rfl] at hQ; exact hQ)
        | (rw [show isN I (tK tp sz e) (some i) = true from by rw [isN_s, decide_eq_true hc8, decide_eq_true (show I 92 i ≠ nI 3 from hc22)]; rfl] at hQ; exact hQ)
        | (rw [show isN I (tK tp sz e) (some i) = false from by rw [isN_s, decide_eq_false (show ¬ I 92 i ≠ nI 3 from fun q => q hc22), Bool.and_false]] at hQ; exact hQ)
    · rw [nI_eq (by omega) (by decide), srt_1] at hc8
      refine v_iload_1 dX7_isName_11 ?_
      refine v_if_lt (tgt := 25) dX7_isName_12 (by decide) (fun hc12 => ?_) (fun hc12 => ?_)
      · (first | rw [show (0 : Int32) = nI 0 from rfl, nI_ltI (by omega) (by omega)] at hc12 | rw [show (0 : Int32) = nI 0 from rfl, nI_leI (by omega) (by omega)] at hc12 | skip)
        refine v_iconst (v := nI 1) dX7_isName_25 (by decide) ?_
        refine v_goto (tgt := 30) dX7_isName_26 (by decide) ?_
        refine v_zret dX7_isName_30 (by first | rfl | exact bI_n _) rfl rfl rfl rfl ?_
        first
          | (rw [show isN I (tK tp sz e) _ = false from by unfold isN; rw [decide_eq_false hc8]; rfl] at hQ; exact hQ)
          | (rw [show isN I (tK tp sz e) none = true from by unfold isN; rw [decide_eq_true hc8]; rfl] at hQ; exact hQ)
          | (rw [show isN I (tK tp sz e) (some i) = true from by rw [isN_s, decide_eq_true hc8, decide_eq_true (show I 92 i ≠ nI 3 from hc22)]; rfl] at hQ; exact hQ)
          | (rw [show isN I (tK tp sz e) (some i) = false from by rw [isN_s, decide_eq_false (show ¬ I 92 i ≠ nI 3 from fun q => q hc22), Bool.and_false]] at hQ; exact hQ)
      · exact absurd (by decide) hc12
  | some i =>
    have hi := ho i rfl
    refine K.of (M := mX7_isName) (lv := [some (.ref (b + 88)), some (.int (nI i))]) (by decide) (Nat.le_of_ble_eq_true rfl) rfl ?_
    refine v_aload_0 dX7_isName_0 ?_
    refine u_getR dX7_isName_1 gf_X7_14 (by first | assumption | rfl | exact led_1 (by assumption) | exact led_2 (by assumption) | exact bk_m (by assumption) (by first | assumption | omega) | exact bk_p (by assumption) (by first | assumption | omega) | exact bk_o (by assumption) (by first | assumption | omega) | exact bk_s (by assumption) (by first | assumption | omega) | exact bk_1 (by assumption) | exact bk_2 (by assumption) | exact bk_3 (by assumption) | exact bk_4 (by assumption) | exact bk_5 (by assumption) | exact bk_6 (by assumption) | exact bk_7 (by assumption) | exact bk_8 (by assumption) | exact sh_ring _ (by first | assumption | omega) | exact sh_imgs _ (by first | assumption | omega)) (ro_X7_3 (by assumption)) ?_
    refine u_getI dX7_isName_4 gf_X7_96 (by first | assumption | rfl | exact led_1 (by assumption) | exact led_2 (by assumption) | exact bk_m (by assumption) (by first | assumption | omega) | exact bk_p (by assumption) (by first | assumption | omega) | exact bk_o (by assumption) (by first | assumption | omega) | exact bk_s (by assumption) (by first | assumption | omega) | exact bk_1 (by assumption) | exact bk_2 (by assumption) | exact bk_3 (by assumption) | exact bk_4 (by assumption) | exact bk_5 (by assumption) | exact bk_6 (by assumption) | exact bk_7 (by assumption) | exact bk_8 (by assumption) | exact sh_ring _ (by first | assumption | omega) | exact sh_imgs _ (by first | assumption | omega)) ?_
    rw [hT.2.2.1]
    refine v_iconst (v := nI 1) dX7_isName_7 (by decide) ?_
    refine v_icmp_ne (tgt := 29) dX7_isName_8 (by decide) (fun hc8 => ?_) (fun hc8 => ?_)
    · rw [nI_eq (by omega) (by decide), srt_1] at hc8
      refine v_iconst (v := nI 0) dX7_isName_29 (by decide) ?_
      refine v_zret dX7_isName_30 (by first | rfl | exact bI_n _) rfl rfl rfl rfl ?_
      first
        | (rw [show isN I (tK tp sz e) _ = false from by unfold isN; rw [decide_eq_false hc8]; rfl] at hQ; exact hQ)
        | (rw [show isN I (tK tp sz e) none = true from by unfold isN; rw [decide_eq_true hc8]; rfl] at hQ; exact hQ)
        | (rw [show isN I (tK tp sz e) (some i) = true from by rw [isN_s, decide_eq_true hc8, decide_eq_true (show I 92 i ≠ nI 3 from hc22)]; rfl] at hQ; exact hQ)
        | (rw [show isN I (tK tp sz e) (some i) = false from by rw [isN_s, decide_eq_false (show ¬ I 92 i ≠ nI 3 from fun q => q hc22), Bool.and_false]] at hQ; exact hQ)
    · rw [nI_eq (by omega) (by decide), srt_1] at hc8
      refine v_iload_1 dX7_isName_11 ?_
      refine v_if_lt (tgt := 25) dX7_isName_12 (by decide) (fun hc12 => ?_) (fun hc12 => ?_)
      · exact absurd hc12 (nI_pos (by omega))
      · (first | rw [show (0 : Int32) = nI 0 from rfl, nI_ltI (by omega) (by omega)] at hc12 | rw [show (0 : Int32) = nI 0 from rfl, nI_leI (by omega) (by omega)] at hc12 | skip)
        refine v_aload_0 dX7_isName_15 ?_
        refine u_getR dX7_isName_16 gf_X7_22 (by first | assumption | rfl | exact led_1 (by assumption) | exact led_2 (by assumption) | exact bk_m (by assumption) (by first | assumption | omega) | exact bk_p (by assumption) (by first | assumption | omega) | exact bk_o (by assumption) (by first | assumption | omega) | exact bk_s (by assumption) (by first | assumption | omega) | exact bk_1 (by assumption) | exact bk_2 (by assumption) | exact bk_3 (by assumption) | exact bk_4 (by assumption) | exact bk_5 (by assumption) | exact bk_6 (by assumption) | exact bk_7 (by assumption) | exact bk_8 (by assumption) | exact sh_ring _ (by first | assumption | omega) | exact sh_imgs _ (by first | assumption | omega)) (ro_X7_5 (by assumption)) ?_
        refine v_iload_1 dX7_isName_19 ?_
        refine u_iald dX7_isName_20 (by first | assumption | rfl | exact led_1 (by assumption) | exact led_2 (by assumption) | exact bk_m (by assumption) (by first | assumption | omega) | exact bk_p (by assumption) (by first | assumption | omega) | exact bk_o (by assumption) (by first | assumption | omega) | exact bk_s (by assumption) (by first | assumption | omega) | exact bk_1 (by assumption) | exact bk_2 (by assumption) | exact bk_3 (by assumption) | exact bk_4 (by assumption) | exact bk_5 (by assumption) | exact bk_6 (by assumption) | exact bk_7 (by assumption) | exact bk_8 (by assumption) | exact sh_ring _ (by first | assumption | omega) | exact sh_imgs _ (by first | assumption | omega)) (by first | with_reducible rfl | (simp only [nlit, nI_add, pk_mul]; with_reducible rfl) | rfl) (by first | assumption | omega) (by first | assumption | decide) ?_
        refine v_iconst (v := nI 3) dX7_isName_21 (by decide) ?_
        refine v_icmp_eq (tgt := 29) dX7_isName_22 (by decide) (fun hc22 => ?_) (fun hc22 => ?_)
        · skip
          refine v_iconst (v := nI 0) dX7_isName_29 (by decide) ?_
          refine v_zret dX7_isName_30 (by first | rfl | exact bI_n _) rfl rfl rfl rfl ?_
          first
            | (rw [show isN I (tK tp sz e) _ = false from by unfold isN; rw [decide_eq_false hc8]; rfl] at hQ; exact hQ)
            | (rw [show isN I (tK tp sz e) none = true from by unfold isN; rw [decide_eq_true hc8]; rfl] at hQ; exact hQ)
            | (rw [show isN I (tK tp sz e) (some i) = true from by rw [isN_s, decide_eq_true hc8, decide_eq_true (show I 92 i ≠ nI 3 from hc22)]; rfl] at hQ; exact hQ)
            | (rw [show isN I (tK tp sz e) (some i) = false from by rw [isN_s, decide_eq_false (show ¬ I 92 i ≠ nI 3 from fun q => q hc22), Bool.and_false]] at hQ; exact hQ)
        · skip
          refine v_iconst (v := nI 1) dX7_isName_25 (by decide) ?_
          refine v_goto (tgt := 30) dX7_isName_26 (by decide) ?_
          refine v_zret dX7_isName_30 (by first | rfl | exact bI_n _) rfl rfl rfl rfl ?_
          first
            | (rw [show isN I (tK tp sz e) _ = false from by unfold isN; rw [decide_eq_false hc8]; rfl] at hQ; exact hQ)
            | (rw [show isN I (tK tp sz e) none = true from by unfold isN; rw [decide_eq_true hc8]; rfl] at hQ; exact hQ)
            | (rw [show isN I (tK tp sz e) (some i) = true from by rw [isN_s, decide_eq_true hc8, decide_eq_true (show I 92 i ≠ nI 3 from hc22)]; rfl] at hQ; exact hQ)
            | (rw [show isN I (tK tp sz e) (some i) = false from by rw [isN_s, decide_eq_false (show ¬ I 92 i ≠ nI 3 from fun q => q hc22), Bool.and_false]] at hQ; exact hQ)
theorem nmok_f (h : ¬ nmok tp sz e = true) : tK tp sz e ≠ 2 ∨ (tK tp sz e = 2 ∧ isR tp sz e = true) := by
  by_cases q : tK tp sz e = 2
  · refine Or.inr ⟨q, ?_⟩
    cases hr : isR tp sz e with
    | true => rfl
    | false => exact absurd (by unfold nmok; rw [decide_eq_true q, hr]; rfl) h
  · exact Or.inl q
theorem fnm_lt {i : Nat} (h : fnm L cnt = some i) : i < 13 + cnt := by obtain ⟨-, h2, -⟩ := fup_some h; omega
/-- isName and the table, by the slots -/
theorem isN_ok (hN : NmT I L F cnt sl) (hC : TnC F cnt sl) (hK : NmK F) (hT : TkI I L R tp sz e bf) : isN I (tK tp sz e) (fnm L cnt) = nmok tp sz e := by
  obtain ⟨n1, n2, n3, n4⟩ := id hN
  unfold isN
  by_cases h2 : tK tp sz e = 2
  · obtain ⟨f1, f2⟩ := fnm_ok hN hC hK hT h2
    unfold nmok
    rw [decide_eq_true h2]
    cases hr : isR tp sz e with
    | true =>
      obtain ⟨i, hi, hf⟩ := f1 hr
      rw [hf]
      show (true && decide (I 92 i ≠ nI 3)) = (true && !true)
      rw [(n3 i hi).2]; simp
    | false =>
      obtain ⟨g1, g2⟩ := f2 hr
      cases hf : fnd tp sz F e with
      | none => rw [g1 hf]; rfl
      | some n =>
        obtain ⟨i, hi, hs, hf2⟩ := g2 n hf
        rw [hf2]
        show (true && decide (I 92 (13 + i) ≠ nI 3)) = (true && !false)
        rw [(n4 i hi).2.2.1]
        have h3 := (sof_bas (sl i) (n4 i hi).1 0 (by decide)).2.2.1
        rw [decide_eq_true (show nI (sof (sl i)) ≠ nI 3 from fun q => by rw [nI_eq (by omega) (by decide)] at q; omega)]
        rfl
  · unfold nmok
    rw [decide_eq_false h2]; rfl
theorem c_X7_needTold {t : Nat} (ht : t < 3) (hR : RO R) (hN : NmT I L s.2.1 cnt sl) (hC : TnC s.2.1 cnt sl) (hK : NmK s.2.1) (hT : TkI I L R tp sz s.1 bf) (hQ0 : ∀ f p, qTold tp sz t 0 s = .inl (f, p) → ∀ (J : HI) (M : HL), J 88 0 = nI f → J 88 1 = nI p → Fr9 false I J L M → Q (some (.int 0)) SH J M R) (hQ1 : ∀ v u, qTold tp sz t 0 s = .inr (v, u) → u = nx tp sz s → v < 6 → ∀ (J : HI) (M : HL), TkI J M R tp sz u.1 (tA tp sz s.1) → J 88 9 = nI v → Fr9 true I J L M → Q (some (.int 1)) SH J M R) : KK 2 mX7_needTold b ad [.ref (b + 88), .int (nI t)] I L R Q := by
  have n1 := hN.1
  have n17 := hN.2.1
  have hN3 := hN.2.2.1
  have hN4 := hN.2.2.2
  have hi := isN_ok hN hC hK hT
  refine K.of (M := mX7_needTold) (lv := [some (.ref (b + 88)), some (.int (nI t)), none]) (by decide) (Nat.le_of_ble_eq_true rfl) rfl ?_
  refine v_aload_0 dX7_needTold_0 ?_
  refine u_callV_0 dX7_needTold_1 ml_X7_323 mv_X7_findName (by first | assumption | rfl | exact led_1 (by assumption) | exact led_2 (by assumption) | exact bk_m (by assumption) (by first | assumption | omega) | exact bk_p (by assumption) (by first | assumption | omega) | exact bk_o (by assumption) (by first | assumption | omega) | exact bk_s (by assumption) (by first | assumption | omega) | exact bk_1 (by assumption) | exact bk_2 (by assumption) | exact bk_3 (by assumption) | exact bk_4 (by assumption) | exact bk_5 (by assumption) | exact bk_6 (by assumption) | exact bk_7 (by assumption) | exact bk_8 (by assumption) | exact sh_ring _ (by first | assumption | omega) | exact sh_imgs _ (by first | assumption | omega)) (by decide) rfl (by decide) (Nat.le_of_ble_eq_true rfl) (c_X7_findName (n := 13 + cnt) hR n1 (by omega) ?_)
  refine v_istore_2 rfl dX7_needTold_4 ?_
  refine v_aload_0 dX7_needTold_5 ?_
  refine v_iload_2 dX7_needTold_6 ?_
  refine u_callV_1 dX7_needTold_7 ml_X7_327 mv_X7_isName (by first | assumption | rfl | exact led_1 (by assumption) | exact led_2 (by assumption) | exact bk_m (by assumption) (by first | assumption | omega) | exact bk_p (by assumption) (by first | assumption | omega) | exact bk_o (by assumption) (by first | assumption | omega) | exact bk_s (by assumption) (by first | assumption | omega) | exact bk_1 (by assumption) | exact bk_2 (by assumption) | exact bk_3 (by assumption) | exact bk_4 (by assumption) | exact bk_5 (by assumption) | exact bk_6 (by assumption) | exact bk_7 (by assumption) | exact bk_8 (by assumption) | exact sh_ring _ (by first | assumption | omega) | exact sh_imgs _ (by first | assumption | omega)) (by decide) rfl (by decide) (Nat.le_of_ble_eq_true rfl) (c_X7_isName (o := fnm L cnt) hR hT (fun i q => by have := fnm_lt q; omega) ?_)
  rw [hi]
  refine v_if_ne (tgt := 19) dX7_needTold_10 (by decide) (fun hc10 => ?_) (fun hc10 => ?_)
  · (first | rw [bI_0, Bool.not_eq_false] at hc10 | rw [bI_0] at hc10 | rw [show (0 : Int32) = nI 0 from rfl, nI_eq (by omega) (by omega)] at hc10 | skip)
    have h2 := nmok_2 hc10
    have hr : isR tp sz s.1 = false := by
      have q := hc10
      unfold nmok at q
      rw [Bool.and_eq_true] at q
      simpa using q.2
    obtain ⟨g1, g2⟩ := (fnm_ok hN hC hK hT h2).2 hr
    cases hf : fnd tp sz s.2.1 s.1 with
    | none =>
      have e1 : fup (fun i => decide (L 91 i = L 89 7)) 0 (13 + cnt) = none := g1 hf
      rw [e1]
      show VV _ _ _ _ _ _ _ _ _ [some (.ref (b + 88)), some (.int (nI t)), some (.int (-1))] _ _ _ _
      refine v_iload_2 dX7_needTold_19 ?_
      refine v_if_lt (tgt := 33) dX7_needTold_20 (by decide) (fun hc20 => ?_) (fun hc20 => ?_)
      · (first | rw [show (0 : Int32) = nI 0 from rfl, nI_ltI (by omega) (by omega)] at hc20 | rw [show (0 : Int32) = nI 0 from rfl, nI_leI (by omega) (by omega)] at hc20 | skip)
        refine v_aload_0 dX7_needTold_33 ?_
        refine v_iconst (v := nI 2) dX7_needTold_34 (by decide) ?_
        refine u_callV_1 dX7_needTold_35 ml_X7_102 mv_X7_failHere (by first | assumption | rfl | exact led_1 (by assumption) | exact led_2 (by assumption) | exact bk_m (by assumption) (by first | assumption | omega) | exact bk_p (by assumption) (by first | assumption | omega) | exact bk_o (by assumption) (by first | assumption | omega) | exact bk_s (by assumption) (by first | assumption | omega) | exact bk_1 (by assumption) | exact bk_2 (by assumption) | exact bk_3 (by assumption) | exact bk_4 (by assumption) | exact bk_5 (by assumption) | exact bk_6 (by assumption) | exact bk_7 (by assumption) | exact bk_8 (by assumption) | exact sh_ring _ (by first | assumption | omega) | exact sh_imgs _ (by first | assumption | omega)) (by decide) rfl (by decide) (Nat.le_of_ble_eq_true rfl) (c_X7_failHere hR hT (fun K p1 p2 p3 p4 => ?_))
        refine v_zret dX7_needTold_38 (by first | rfl | exact bI_n _) rfl rfl rfl rfl ?_
        exact hQ0 2 _ (by unfold qTold; rw [if_pos hc10, hf]) _ _ p1 p2 p3
      · exact absurd (by decide) hc20
    | some n =>
      obtain ⟨i, hi2, hs, e0⟩ := g2 n hf
      have e1 : fup (fun i => decide (L 91 i = L 89 7)) 0 (13 + cnt) = some (13 + i) := e0
      rw [e1]
      obtain ⟨z1, z2, z3, z4⟩ := hN4 i hi2
      have hsb := sof_bas (sl i) z1 t ht
      have hq : qTold tp sz t 0 s = (if bas t ≤ n ∧ n < bas t + rom t then .inr (n - bas t, nx tp sz s) else .inl (2, tA tp sz s.1)) := by
        unfold qTold; rw [if_pos hc10, hf]; simp only [Nat.zero_testBit, Bool.false_eq_true, if_false]
      show VV _ _ _ _ _ _ _ _ _ [some (.ref (b + 88)), some (.int (nI t)), some (.int (nI (13 + i)))] _ _ _ _
      refine v_iload_2 dX7_needTold_19 ?_
      refine v_if_lt (tgt := 33) dX7_needTold_20 (by decide) (fun hc20 => ?_) (fun hc20 => ?_)
      · exact absurd hc20 (nI_pos (by omega))
      · (first | rw [show (0 : Int32) = nI 0 from rfl, nI_ltI (by omega) (by omega)] at hc20 | rw [show (0 : Int32) = nI 0 from rfl, nI_leI (by omega) (by omega)] at hc20 | skip)
        refine v_aload_0 dX7_needTold_23 ?_
        refine u_getR dX7_needTold_24 gf_X7_22 (by first | assumption | rfl | exact led_1 (by assumption) | exact led_2 (by assumption) | exact bk_m (by assumption) (by first | assumption | omega) | exact bk_p (by assumption) (by first | assumption | omega) | exact bk_o (by assumption) (by first | assumption | omega) | exact bk_s (by assumption) (by first | assumption | omega) | exact bk_1 (by assumption) | exact bk_2 (by assumption) | exact bk_3 (by assumption) | exact bk_4 (by assumption) | exact bk_5 (by assumption) | exact bk_6 (by assumption) | exact bk_7 (by assumption) | exact bk_8 (by assumption) | exact sh_ring _ (by first | assumption | omega) | exact sh_imgs _ (by first | assumption | omega)) (ro_X7_5 (by assumption)) ?_
        refine v_iload_2 dX7_needTold_27 ?_
        refine u_iald dX7_needTold_28 (by first | assumption | rfl | exact led_1 (by assumption) | exact led_2 (by assumption) | exact bk_m (by assumption) (by first | assumption | omega) | exact bk_p (by assumption) (by first | assumption | omega) | exact bk_o (by assumption) (by first | assumption | omega) | exact bk_s (by assumption) (by first | assumption | omega) | exact bk_1 (by assumption) | exact bk_2 (by assumption) | exact bk_3 (by assumption) | exact bk_4 (by assumption) | exact bk_5 (by assumption) | exact bk_6 (by assumption) | exact bk_7 (by assumption) | exact bk_8 (by assumption) | exact sh_ring _ (by first | assumption | omega) | exact sh_imgs _ (by first | assumption | omega)) (by first | with_reducible rfl | (simp only [nlit, nI_add, pk_mul]; with_reducible rfl) | rfl) (by first | assumption | omega) (by first | assumption | decide) ?_
        rw [z3]
        refine v_iload_1 dX7_needTold_29 ?_
        refine v_icmp_eq (tgt := 39) dX7_needTold_30 (by decide) (fun hc30 => ?_) (fun hc30 => ?_)
        · rw [nI_eq (by have := hsb.2.2.1; omega) (by omega)] at hc30
          refine v_aload_0 dX7_needTold_39 ?_
          refine v_aload_0 dX7_needTold_40 ?_
          refine u_getR dX7_needTold_41 gf_X7_26 (by first | assumption | rfl | exact led_1 (by assumption) | exact led_2 (by assumption) | exact bk_m (by assumption) (by first | assumption | omega) | exact bk_p (by assumption) (by first | assumption | omega) | exact bk_o (by assumption) (by first | assumption | omega) | exact bk_s (by assumption) (by first | assumption | omega) | exact bk_1 (by assumption) | exact bk_2 (by assumption) | exact bk_3 (by assumption) | exact bk_4 (by assumption) | exact bk_5 (by assumption) | exact bk_6 (by assumption) | exact bk_7 (by assumption) | exact bk_8 (by assumption) | exact sh_ring _ (by first | assumption | omega) | exact sh_imgs _ (by first | assumption | omega)) (ro_X7_6 (by assumption)) ?_
          refine v_iload_2 dX7_needTold_44 ?_
          refine u_iald dX7_needTold_45 (by first | assumption | rfl | exact led_1 (by assumption) | exact led_2 (by assumption) | exact bk_m (by assumption) (by first | assumption | omega) | exact bk_p (by assumption) (by first | assumption | omega) | exact bk_o (by assumption) (by first | assumption | omega) | exact bk_s (by assumption) (by first | assumption | omega) | exact bk_1 (by assumption) | exact bk_2 (by assumption) | exact bk_3 (by assumption) | exact bk_4 (by assumption) | exact bk_5 (by assumption) | exact bk_6 (by assumption) | exact bk_7 (by assumption) | exact bk_8 (by assumption) | exact sh_ring _ (by first | assumption | omega) | exact sh_imgs _ (by first | assumption | omega)) (by first | with_reducible rfl | (simp only [nlit, nI_add, pk_mul]; with_reducible rfl) | rfl) (by first | assumption | omega) (by first | assumption | decide) ?_
          rw [z4]
          refine u_putI dX7_needTold_46 gf_X7_154 (by first | assumption | rfl | exact led_1 (by assumption) | exact led_2 (by assumption) | exact bk_m (by assumption) (by first | assumption | omega) | exact bk_p (by assumption) (by first | assumption | omega) | exact bk_o (by assumption) (by first | assumption | omega) | exact bk_s (by assumption) (by first | assumption | omega) | exact bk_1 (by assumption) | exact bk_2 (by assumption) | exact bk_3 (by assumption) | exact bk_4 (by assumption) | exact bk_5 (by assumption) | exact bk_6 (by assumption) | exact bk_7 (by assumption) | exact bk_8 (by assumption) | exact sh_ring _ (by first | assumption | omega) | exact sh_imgs _ (by first | assumption | omega)) rfl rfl rfl ?_
          refine v_aload_0 dX7_needTold_49 ?_
          refine u_getR dX7_needTold_50 gf_X7_14 (by first | assumption | rfl | exact led_1 (by assumption) | exact led_2 (by assumption) | exact bk_m (by assumption) (by first | assumption | omega) | exact bk_p (by assumption) (by first | assumption | omega) | exact bk_o (by assumption) (by first | assumption | omega) | exact bk_s (by assumption) (by first | assumption | omega) | exact bk_1 (by assumption) | exact bk_2 (by assumption) | exact bk_3 (by assumption) | exact bk_4 (by assumption) | exact bk_5 (by assumption) | exact bk_6 (by assumption) | exact bk_7 (by assumption) | exact bk_8 (by assumption) | exact sh_ring _ (by first | assumption | omega) | exact sh_imgs _ (by first | assumption | omega)) (ro_X7_3 (by assumption)) ?_
          refine u_callV_0 dX7_needTold_53 ml_X7_89 mv_X9_advance (by first | assumption | rfl | exact led_1 (by assumption) | exact led_2 (by assumption) | exact bk_m (by assumption) (by first | assumption | omega) | exact bk_p (by assumption) (by first | assumption | omega) | exact bk_o (by assumption) (by first | assumption | omega) | exact bk_s (by assumption) (by first | assumption | omega) | exact bk_1 (by assumption) | exact bk_2 (by assumption) | exact bk_3 (by assumption) | exact bk_4 (by assumption) | exact bk_5 (by assumption) | exact bk_6 (by assumption) | exact bk_7 (by assumption) | exact bk_8 (by assumption) | exact sh_ring _ (by first | assumption | omega) | exact sh_imgs _ (by first | assumption | omega)) (by decide) rfl (by decide) (Nat.le_of_ble_eq_true rfl) (c_X9_advance hR hT.up.1 hT.up.2.2.2.1 (fun K N p1 p2 p3 => ?_))
          refine v_iconst (v := nI 1) dX7_needTold_56 (by decide) ?_
          refine v_zret dX7_needTold_57 (by first | rfl | exact bI_n _) rfl rfl rfl rfl ?_
          exact hQ1 _ _ (by rw [hq, if_pos (by rw [← hs]; exact hsb.1.mp hc30)]) rfl (by have := hsb.2.2.2; have := hsb.2.1 hc30; rw [← hs]; omega) _ _ p1 (by rw [p2 88 (by decide), ui_s, hsb.2.1 hc30, hs]) ((Fr9.refl.up9).trans (Fr9.tk p2 p3))
        · rw [nI_eq (by have := hsb.2.2.1; omega) (by omega)] at hc30
          refine v_aload_0 dX7_needTold_33 ?_
          refine v_iconst (v := nI 2) dX7_needTold_34 (by decide) ?_
          refine u_callV_1 dX7_needTold_35 ml_X7_102 mv_X7_failHere (by first | assumption | rfl | exact led_1 (by assumption) | exact led_2 (by assumption) | exact bk_m (by assumption) (by first | assumption | omega) | exact bk_p (by assumption) (by first | assumption | omega) | exact bk_o (by assumption) (by first | assumption | omega) | exact bk_s (by assumption) (by first | assumption | omega) | exact bk_1 (by assumption) | exact bk_2 (by assumption) | exact bk_3 (by assumption) | exact bk_4 (by assumption) | exact bk_5 (by assumption) | exact bk_6 (by assumption) | exact bk_7 (by assumption) | exact bk_8 (by assumption) | exact sh_ring _ (by first | assumption | omega) | exact sh_imgs _ (by first | assumption | omega)) (by decide) rfl (by decide) (Nat.le_of_ble_eq_true rfl) (c_X7_failHere hR hT (fun K p1 p2 p3 p4 => ?_))
          refine v_zret dX7_needTold_38 (by first | rfl | exact bI_n _) rfl rfl rfl rfl ?_
          exact hQ0 2 _ (by rw [hq, if_neg (fun q => hc30 (hsb.1.mpr (by rw [hs]; exact q)))]) _ _ p1 p2 p3
  · (first | rw [bI_0, Bool.not_eq_false] at hc10 | rw [bI_0] at hc10 | rw [show (0 : Int32) = nI 0 from rfl, nI_eq (by omega) (by omega)] at hc10 | skip)
    refine v_aload_0 dX7_needTold_13 ?_
    refine v_iconst (v := nI 1) dX7_needTold_14 (by decide) ?_
    refine u_callV_1 dX7_needTold_15 ml_X7_102 mv_X7_failHere (by first | assumption | rfl | exact led_1 (by assumption) | exact led_2 (by assumption) | exact bk_m (by assumption) (by first | assumption | omega) | exact bk_p (by assumption) (by first | assumption | omega) | exact bk_o (by assumption) (by first | assumption | omega) | exact bk_s (by assumption) (by first | assumption | omega) | exact bk_1 (by assumption) | exact bk_2 (by assumption) | exact bk_3 (by assumption) | exact bk_4 (by assumption) | exact bk_5 (by assumption) | exact bk_6 (by assumption) | exact bk_7 (by assumption) | exact bk_8 (by assumption) | exact sh_ring _ (by first | assumption | omega) | exact sh_imgs _ (by first | assumption | omega)) (by decide) rfl (by decide) (Nat.le_of_ble_eq_true rfl) (c_X7_failHere hR hT (fun K p1 p2 p3 p4 => ?_))
    refine v_zret dX7_needTold_18 (by first | rfl | exact bI_n _) rfl rfl rfl rfl ?_
    exact hQ0 1 _ (by unfold qTold; rw [if_neg (by rw [hc10]; decide)]) _ _ p1 p2 p3
/-- only the tokens, the table and the reader's numbers have changed -/
def Fr7 (I J : HI) (L M : HL) : Prop := (∀ x, x ≠ 88 → x ≠ 89 → x ≠ 92 → x ≠ 93 → J x = I x) ∧ J 88 8 = I 88 8 ∧ (∀ x, x ≠ 89 → x ≠ 91 → M x = L x) ∧ (∀ i, i < 13 → M 91 i = L 91 i ∧ J 92 i = I 92 i) ∧ J 88 0 = I 88 0
theorem Fr9.to7 (h : Fr9 true I J L M) : Fr7 I J L M := ⟨fun x a c _ _ => h.1 x a c, h.2.1 8 (by decide) (by decide), fun x a _ => h.2.2.1 x a, fun i _ => ⟨by rw [h.2.2.1 91 (by decide)], by rw [h.1 92 (by decide) (by decide)]⟩, h.2.2.2 rfl⟩
theorem c_X7_needNewName {t m : Nat} (ht : t < 3) (hm : m < rom t ∨ cnt = 17 ∨ t = 0) (hm9 : m < 2 ^ 31) (hR : RO R) (hN : NmT I L s.2.1 cnt sl) (hC : TnC s.2.1 cnt sl) (hK : NmK s.2.1) (hT : TkI I L R tp sz s.1 bf) (hQ0 : ∀ f p, qNew tp sz s = .inl (f, p) → ∀ (J : HI) (M : HL), J 88 0 = nI f → J 88 1 = nI p → Fr9 false I J L M → Q (some (.int 0)) SH J M R) (hQ1 : qNew tp sz s = .inr s → ∀ (J : HI) (M : HL), TkI J M R tp sz (tE tp sz s.1) (tA tp sz s.1) → Fr7 I J L M → (m < rom t → cnt < 17 → ¬ tn s.2.1 (bas t + m) → NmT J M (keepF tp sz s.2.1 s.1 (bas t + m)) (cnt + 1) (fun i => if i = cnt then bas t + m else sl i)) → Q (some (.int 1)) SH J M R) : KK 2 mX7_needNewName b ad [.ref (b + 88), .int (nI t), .int (nI m)] I L R Q := by
  have n1 := hN.1
  have n17 := hN.2.1
  have hN3 := hN.2.2.1
  have hN4 := hN.2.2.2
  have hi := isN_ok hN hC hK hT
  refine K.of (M := mX7_needNewName) (lv := [some (.ref (b + 88)), some (.int (nI t)), some (.int (nI m)), none]) (by decide) (Nat.le_of_ble_eq_true rfl) rfl ?_
  refine v_aload_0 dX7_needNewName_0 ?_
  refine u_callV_0 dX7_needNewName_1 ml_X7_323 mv_X7_findName (by first | assumption | rfl | exact led_1 (by assumption) | exact led_2 (by assumption) | exact bk_m (by assumption) (by first | assumption | omega) | exact bk_p (by assumption) (by first | assumption | omega) | exact bk_o (by assumption) (by first | assumption | omega) | exact bk_s (by assumption) (by first | assumption | omega) | exact bk_1 (by assumption) | exact bk_2 (by assumption) | exact bk_3 (by assumption) | exact bk_4 (by assumption) | exact bk_5 (by assumption) | exact bk_6 (by assumption) | exact bk_7 (by assumption) | exact bk_8 (by assumption) | exact sh_ring _ (by first | assumption | omega) | exact sh_imgs _ (by first | assumption | omega)) (by decide) rfl (by decide) (Nat.le_of_ble_eq_true rfl) (c_X7_findName (n := 13 + cnt) hR n1 (by omega) ?_)
  refine v_istore_3 rfl dX7_needNewName_4 ?_
  refine v_aload_0 dX7_needNewName_5 ?_
  refine v_iload_3 dX7_needNewName_6 ?_
  refine u_callV_1 dX7_needNewName_7 ml_X7_327 mv_X7_isName (by first | assumption | rfl | exact led_1 (by assumption) | exact led_2 (by assumption) | exact bk_m (by assumption) (by first | assumption | omega) | exact bk_p (by assumption) (by first | assumption | omega) | exact bk_o (by assumption) (by first | assumption | omega) | exact bk_s (by assumption) (by first | assumption | omega) | exact bk_1 (by assumption) | exact bk_2 (by assumption) | exact bk_3 (by assumption) | exact bk_4 (by assumption) | exact bk_5 (by assumption) | exact bk_6 (by assumption) | exact bk_7 (by assumption) | exact bk_8 (by assumption) | exact sh_ring _ (by first | assumption | omega) | exact sh_imgs _ (by first | assumption | omega)) (by decide) rfl (by decide) (Nat.le_of_ble_eq_true rfl) (c_X7_isName (o := fnm L cnt) hR hT (fun i q => by have := fnm_lt q; omega) ?_)
  rw [hi]
  refine v_if_ne (tgt := 19) dX7_needNewName_10 (by decide) (fun hc10 => ?_) (fun hc10 => ?_)
  · (first | rw [bI_0, Bool.not_eq_false] at hc10 | rw [bI_0] at hc10 | rw [show (0 : Int32) = nI 0 from rfl, nI_eq (by omega) (by omega)] at hc10 | skip)
    have h2 := nmok_2 hc10
    have hr : isR tp sz s.1 = false := by
      have q := hc10
      unfold nmok at q
      rw [Bool.and_eq_true] at q
      simpa using q.2
    obtain ⟨g1, g2⟩ := (fnm_ok hN hC hK hT h2).2 hr
    have hl7 := hT.2.2.2.2.2.2 h2
    cases hf : fnd tp sz s.2.1 s.1 with
    | some n =>
      obtain ⟨i, hi2, hs, e0⟩ := g2 n hf
      have e1 : fup (fun i => decide (L 91 i = L 89 7)) 0 (13 + cnt) = some (13 + i) := e0
      rw [e1]
      show VV _ _ _ _ _ _ _ _ _ [some (.ref (b + 88)), some (.int (nI t)), some (.int (nI m)), some (.int (nI (13 + i)))] _ _ _ _
      refine v_iload_3 dX7_needNewName_19 ?_
      refine v_if_lt (tgt := 29) dX7_needNewName_20 (by decide) (fun hc20 => ?_) (fun hc20 => ?_)
      · exact absurd hc20 (nI_pos (by omega))
      · (first | rw [show (0 : Int32) = nI 0 from rfl, nI_ltI (by omega) (by omega)] at hc20 | rw [show (0 : Int32) = nI 0 from rfl, nI_leI (by omega) (by omega)] at hc20 | skip)
        refine v_aload_0 dX7_needNewName_23 ?_
        refine v_iconst (v := nI 3) dX7_needNewName_24 (by decide) ?_
        refine u_callV_1 dX7_needNewName_25 ml_X7_102 mv_X7_failHere (by first | assumption | rfl | exact led_1 (by assumption) | exact led_2 (by assumption) | exact bk_m (by assumption) (by first | assumption | omega) | exact bk_p (by assumption) (by first | assumption | omega) | exact bk_o (by assumption) (by first | assumption | omega) | exact bk_s (by assumption) (by first | assumption | omega) | exact bk_1 (by assumption) | exact bk_2 (by assumption) | exact bk_3 (by assumption) | exact bk_4 (by assumption) | exact bk_5 (by assumption) | exact bk_6 (by assumption) | exact bk_7 (by assumption) | exact bk_8 (by assumption) | exact sh_ring _ (by first | assumption | omega) | exact sh_imgs _ (by first | assumption | omega)) (by decide) rfl (by decide) (Nat.le_of_ble_eq_true rfl) (c_X7_failHere hR hT (fun K p1 p2 p3 p4 => ?_))
        refine v_zret dX7_needNewName_28 (by first | rfl | exact bI_n _) rfl rfl rfl rfl ?_
        exact hQ0 3 _ (by unfold qNew; rw [if_pos hc10, hf]) _ _ p1 p2 p3
    | none =>
      have e1 : fup (fun i => decide (L 91 i = L 89 7)) 0 (13 + cnt) = none := g1 hf
      rw [e1]
      have hq : qNew tp sz s = .inr s := by unfold qNew; rw [if_pos hc10, hf]
      show VV _ _ _ _ _ _ _ _ _ [some (.ref (b + 88)), some (.int (nI t)), some (.int (nI m)), some (.int (-1))] _ _ _ _
      refine v_iload_3 dX7_needNewName_19 ?_
      refine v_if_lt (tgt := 29) dX7_needNewName_20 (by decide) (fun hc20 => ?_) (fun hc20 => ?_)
      · (first | rw [show (0 : Int32) = nI 0 from rfl, nI_ltI (by omega) (by omega)] at hc20 | rw [show (0 : Int32) = nI 0 from rfl, nI_leI (by omega) (by omega)] at hc20 | skip)
        refine v_aload_0 dX7_needNewName_29 ?_
        refine u_getI dX7_needNewName_30 gf_X7_59 (by first | assumption | rfl | exact led_1 (by assumption) | exact led_2 (by assumption) | exact bk_m (by assumption) (by first | assumption | omega) | exact bk_p (by assumption) (by first | assumption | omega) | exact bk_o (by assumption) (by first | assumption | omega) | exact bk_s (by assumption) (by first | assumption | omega) | exact bk_1 (by assumption) | exact bk_2 (by assumption) | exact bk_3 (by assumption) | exact bk_4 (by assumption) | exact bk_5 (by assumption) | exact bk_6 (by assumption) | exact bk_7 (by assumption) | exact bk_8 (by assumption) | exact sh_ring _ (by first | assumption | omega) | exact sh_imgs _ (by first | assumption | omega)) ?_
        rw [n1]
        refine v_bipush (v := nI 30) dX7_needNewName_33 (by decide) ?_
        refine v_icmp_ge (tgt := 84) dX7_needNewName_35 (by decide) (fun hc35 => ?_) (fun hc35 => ?_)
        · (try rw [nI_leI (by omega) (by omega)] at hc35)
          refine v_aload_0 dX7_needNewName_84 ?_
          refine u_getR dX7_needNewName_85 gf_X7_14 (by first | assumption | rfl | exact led_1 (by assumption) | exact led_2 (by assumption) | exact bk_m (by assumption) (by first | assumption | omega) | exact bk_p (by assumption) (by first | assumption | omega) | exact bk_o (by assumption) (by first | assumption | omega) | exact bk_s (by assumption) (by first | assumption | omega) | exact bk_1 (by assumption) | exact bk_2 (by assumption) | exact bk_3 (by assumption) | exact bk_4 (by assumption) | exact bk_5 (by assumption) | exact bk_6 (by assumption) | exact bk_7 (by assumption) | exact bk_8 (by assumption) | exact sh_ring _ (by first | assumption | omega) | exact sh_imgs _ (by first | assumption | omega)) (ro_X7_3 (by assumption)) ?_
          refine u_callV_0 dX7_needNewName_88 ml_X7_89 mv_X9_advance (by first | assumption | rfl | exact led_1 (by assumption) | exact led_2 (by assumption) | exact bk_m (by assumption) (by first | assumption | omega) | exact bk_p (by assumption) (by first | assumption | omega) | exact bk_o (by assumption) (by first | assumption | omega) | exact bk_s (by assumption) (by first | assumption | omega) | exact bk_1 (by assumption) | exact bk_2 (by assumption) | exact bk_3 (by assumption) | exact bk_4 (by assumption) | exact bk_5 (by assumption) | exact bk_6 (by assumption) | exact bk_7 (by assumption) | exact bk_8 (by assumption) | exact sh_ring _ (by first | assumption | omega) | exact sh_imgs _ (by first | assumption | omega)) (by decide) rfl (by decide) (Nat.le_of_ble_eq_true rfl) (c_X9_advance hR hT.1 hT.2.2.2.1 (fun K N p1 p2 p3 => ?_))
          refine v_iconst (v := nI 1) dX7_needNewName_91 (by decide) ?_
          refine v_zret dX7_needNewName_92 (by first | rfl | exact bI_n _) rfl rfl rfl rfl ?_
          exact hQ1 hq _ _ p1 (Fr9.tk p2 p3).to7 (fun hm1 hc17 => by omega)
        · (try rw [nI_leI (by omega) (by omega)] at hc35)
          refine v_aload_0 dX7_needNewName_38 ?_
          refine u_getR dX7_needNewName_39 gf_X7_18 (by first | assumption | rfl | exact led_1 (by assumption) | exact led_2 (by assumption) | exact bk_m (by assumption) (by first | assumption | omega) | exact bk_p (by assumption) (by first | assumption | omega) | exact bk_o (by assumption) (by first | assumption | omega) | exact bk_s (by assumption) (by first | assumption | omega) | exact bk_1 (by assumption) | exact bk_2 (by assumption) | exact bk_3 (by assumption) | exact bk_4 (by assumption) | exact bk_5 (by assumption) | exact bk_6 (by assumption) | exact bk_7 (by assumption) | exact bk_8 (by assumption) | exact sh_ring _ (by first | assumption | omega) | exact sh_imgs _ (by first | assumption | omega)) (ro_X7_4 (by assumption)) ?_
          refine v_aload_0 dX7_needNewName_42 ?_
          refine u_getI dX7_needNewName_43 gf_X7_59 (by first | assumption | rfl | exact led_1 (by assumption) | exact led_2 (by assumption) | exact bk_m (by assumption) (by first | assumption | omega) | exact bk_p (by assumption) (by first | assumption | omega) | exact bk_o (by assumption) (by first | assumption | omega) | exact bk_s (by assumption) (by first | assumption | omega) | exact bk_1 (by assumption) | exact bk_2 (by assumption) | exact bk_3 (by assumption) | exact bk_4 (by assumption) | exact bk_5 (by assumption) | exact bk_6 (by assumption) | exact bk_7 (by assumption) | exact bk_8 (by assumption) | exact sh_ring _ (by first | assumption | omega) | exact sh_imgs _ (by first | assumption | omega)) ?_
          rw [n1]
          refine v_aload_0 dX7_needNewName_46 ?_
          refine u_getR dX7_needNewName_47 gf_X7_14 (by first | assumption | rfl | exact led_1 (by assumption) | exact led_2 (by assumption) | exact bk_m (by assumption) (by first | assumption | omega) | exact bk_p (by assumption) (by first | assumption | omega) | exact bk_o (by assumption) (by first | assumption | omega) | exact bk_s (by assumption) (by first | assumption | omega) | exact bk_1 (by assumption) | exact bk_2 (by assumption) | exact bk_3 (by assumption) | exact bk_4 (by assumption) | exact bk_5 (by assumption) | exact bk_6 (by assumption) | exact bk_7 (by assumption) | exact bk_8 (by assumption) | exact sh_ring _ (by first | assumption | omega) | exact sh_imgs _ (by first | assumption | omega)) (ro_X7_3 (by assumption)) ?_
          refine u_getL dX7_needNewName_50 gf_X7_330 (by first | assumption | rfl | exact led_1 (by assumption) | exact led_2 (by assumption) | exact bk_m (by assumption) (by first | assumption | omega) | exact bk_p (by assumption) (by first | assumption | omega) | exact bk_o (by assumption) (by first | assumption | omega) | exact bk_s (by assumption) (by first | assumption | omega) | exact bk_1 (by assumption) | exact bk_2 (by assumption) | exact bk_3 (by assumption) | exact bk_4 (by assumption) | exact bk_5 (by assumption) | exact bk_6 (by assumption) | exact bk_7 (by assumption) | exact bk_8 (by assumption) | exact sh_ring _ (by first | assumption | omega) | exact sh_imgs _ (by first | assumption | omega)) ?_
          refine u_last dX7_needNewName_53 (by first | assumption | rfl | exact led_1 (by assumption) | exact led_2 (by assumption) | exact bk_m (by assumption) (by first | assumption | omega) | exact bk_p (by assumption) (by first | assumption | omega) | exact bk_o (by assumption) (by first | assumption | omega) | exact bk_s (by assumption) (by first | assumption | omega) | exact bk_1 (by assumption) | exact bk_2 (by assumption) | exact bk_3 (by assumption) | exact bk_4 (by assumption) | exact bk_5 (by assumption) | exact bk_6 (by assumption) | exact bk_7 (by assumption) | exact bk_8 (by assumption) | exact sh_ring _ (by first | assumption | omega) | exact sh_imgs _ (by first | assumption | omega)) (by first | with_reducible rfl | (simp only [nlit, nI_add, pk_mul]; with_reducible rfl) | rfl) (by first | assumption | omega) (by first | assumption | decide) ?_
          refine v_aload_0 dX7_needNewName_54 ?_
          refine u_getR dX7_needNewName_55 gf_X7_22 (by first | assumption | rfl | exact led_1 (by assumption) | exact led_2 (by assumption) | exact bk_m (by assumption) (by first | assumption | omega) | exact bk_p (by assumption) (by first | assumption | omega) | exact bk_o (by assumption) (by first | assumption | omega) | exact bk_s (by assumption) (by first | assumption | omega) | exact bk_1 (by assumption) | exact bk_2 (by assumption) | exact bk_3 (by assumption) | exact bk_4 (by assumption) | exact bk_5 (by assumption) | exact bk_6 (by assumption) | exact bk_7 (by assumption) | exact bk_8 (by assumption) | exact sh_ring _ (by first | assumption | omega) | exact sh_imgs _ (by first | assumption | omega)) (ro_X7_5 (by assumption)) ?_
          refine v_aload_0 dX7_needNewName_58 ?_
          refine u_getI dX7_needNewName_59 gf_X7_59 (by first | assumption | rfl | exact led_1 (by assumption) | exact led_2 (by assumption) | exact bk_m (by assumption) (by first | assumption | omega) | exact bk_p (by assumption) (by first | assumption | omega) | exact bk_o (by assumption) (by first | assumption | omega) | exact bk_s (by assumption) (by first | assumption | omega) | exact bk_1 (by assumption) | exact bk_2 (by assumption) | exact bk_3 (by assumption) | exact bk_4 (by assumption) | exact bk_5 (by assumption) | exact bk_6 (by assumption) | exact bk_7 (by assumption) | exact bk_8 (by assumption) | exact sh_ring _ (by first | assumption | omega) | exact sh_imgs _ (by first | assumption | omega)) ?_
          rw [n1]
          refine v_iload_1 dX7_needNewName_62 ?_
          refine u_iast dX7_needNewName_63 (by first | assumption | rfl | exact led_1 (by assumption) | exact led_2 (by assumption) | exact bk_m (by assumption) (by first | assumption | omega) | exact bk_p (by assumption) (by first | assumption | omega) | exact bk_o (by assumption) (by first | assumption | omega) | exact bk_s (by assumption) (by first | assumption | omega) | exact bk_1 (by assumption) | exact bk_2 (by assumption) | exact bk_3 (by assumption) | exact bk_4 (by assumption) | exact bk_5 (by assumption) | exact bk_6 (by assumption) | exact bk_7 (by assumption) | exact bk_8 (by assumption) | exact sh_ring _ (by first | assumption | omega) | exact sh_imgs _ (by first | assumption | omega)) (by first | with_reducible rfl | (simp only [nlit, nI_add, pk_mul]; with_reducible rfl) | rfl) (by first | assumption | omega) (by first | assumption | decide) ?_
          refine v_aload_0 dX7_needNewName_64 ?_
          refine u_getR dX7_needNewName_65 gf_X7_26 (by first | assumption | rfl | exact led_1 (by assumption) | exact led_2 (by assumption) | exact bk_m (by assumption) (by first | assumption | omega) | exact bk_p (by assumption) (by first | assumption | omega) | exact bk_o (by assumption) (by first | assumption | omega) | exact bk_s (by assumption) (by first | assumption | omega) | exact bk_1 (by assumption) | exact bk_2 (by assumption) | exact bk_3 (by assumption) | exact bk_4 (by assumption) | exact bk_5 (by assumption) | exact bk_6 (by assumption) | exact bk_7 (by assumption) | exact bk_8 (by assumption) | exact sh_ring _ (by first | assumption | omega) | exact sh_imgs _ (by first | assumption | omega)) (ro_X7_6 (by assumption)) ?_
          refine v_aload_0 dX7_needNewName_68 ?_
          refine u_getI dX7_needNewName_69 gf_X7_59 (by first | assumption | rfl | exact led_1 (by assumption) | exact led_2 (by assumption) | exact bk_m (by assumption) (by first | assumption | omega) | exact bk_p (by assumption) (by first | assumption | omega) | exact bk_o (by assumption) (by first | assumption | omega) | exact bk_s (by assumption) (by first | assumption | omega) | exact bk_1 (by assumption) | exact bk_2 (by assumption) | exact bk_3 (by assumption) | exact bk_4 (by assumption) | exact bk_5 (by assumption) | exact bk_6 (by assumption) | exact bk_7 (by assumption) | exact bk_8 (by assumption) | exact sh_ring _ (by first | assumption | omega) | exact sh_imgs _ (by first | assumption | omega)) ?_
          rw [ui_ne (by decide), n1]
          refine v_iload_2 dX7_needNewName_72 ?_
          refine u_iast dX7_needNewName_73 (by first | assumption | rfl | exact led_1 (by assumption) | exact led_2 (by assumption) | exact bk_m (by assumption) (by first | assumption | omega) | exact bk_p (by assumption) (by first | assumption | omega) | exact bk_o (by assumption) (by first | assumption | omega) | exact bk_s (by assumption) (by first | assumption | omega) | exact bk_1 (by assumption) | exact bk_2 (by assumption) | exact bk_3 (by assumption) | exact bk_4 (by assumption) | exact bk_5 (by assumption) | exact bk_6 (by assumption) | exact bk_7 (by assumption) | exact bk_8 (by assumption) | exact sh_ring _ (by first | assumption | omega) | exact sh_imgs _ (by first | assumption | omega)) (by first | with_reducible rfl | (simp only [nlit, nI_add, pk_mul]; with_reducible rfl) | rfl) (by first | assumption | omega) (by first | assumption | decide) ?_
          refine v_aload_0 dX7_needNewName_74 ?_
          refine v_dup dX7_needNewName_75 rfl ?_
          refine u_getI dX7_needNewName_76 gf_X7_59 (by first | assumption | rfl | exact led_1 (by assumption) | exact led_2 (by assumption) | exact bk_m (by assumption) (by first | assumption | omega) | exact bk_p (by assumption) (by first | assumption | omega) | exact bk_o (by assumption) (by first | assumption | omega) | exact bk_s (by assumption) (by first | assumption | omega) | exact bk_1 (by assumption) | exact bk_2 (by assumption) | exact bk_3 (by assumption) | exact bk_4 (by assumption) | exact bk_5 (by assumption) | exact bk_6 (by assumption) | exact bk_7 (by assumption) | exact bk_8 (by assumption) | exact sh_ring _ (by first | assumption | omega) | exact sh_imgs _ (by first | assumption | omega)) ?_
          rw [ui_ne (by decide), ui_ne (by decide), n1]
          refine v_iconst (v := nI 1) dX7_needNewName_79 (by decide) ?_
          refine v_iadd dX7_needNewName_80 ?_
          rw [nI_add]
          refine u_putI dX7_needNewName_81 gf_X7_59 (by first | assumption | rfl | exact led_1 (by assumption) | exact led_2 (by assumption) | exact bk_m (by assumption) (by first | assumption | omega) | exact bk_p (by assumption) (by first | assumption | omega) | exact bk_o (by assumption) (by first | assumption | omega) | exact bk_s (by assumption) (by first | assumption | omega) | exact bk_1 (by assumption) | exact bk_2 (by assumption) | exact bk_3 (by assumption) | exact bk_4 (by assumption) | exact bk_5 (by assumption) | exact bk_6 (by assumption) | exact bk_7 (by assumption) | exact bk_8 (by assumption) | exact sh_ring _ (by first | assumption | omega) | exact sh_imgs _ (by first | assumption | omega)) rfl rfl rfl ?_
          refine v_aload_0 dX7_needNewName_84 ?_
          refine u_getR dX7_needNewName_85 gf_X7_14 (by first | assumption | rfl | exact led_1 (by assumption) | exact led_2 (by assumption) | exact bk_m (by assumption) (by first | assumption | omega) | exact bk_p (by assumption) (by first | assumption | omega) | exact bk_o (by assumption) (by first | assumption | omega) | exact bk_s (by assumption) (by first | assumption | omega) | exact bk_1 (by assumption) | exact bk_2 (by assumption) | exact bk_3 (by assumption) | exact bk_4 (by assumption) | exact bk_5 (by assumption) | exact bk_6 (by assumption) | exact bk_7 (by assumption) | exact bk_8 (by assumption) | exact sh_ring _ (by first | assumption | omega) | exact sh_imgs _ (by first | assumption | omega)) (ro_X7_3 (by assumption)) ?_
          refine u_callV_0 dX7_needNewName_88 ml_X7_89 mv_X9_advance (by first | assumption | rfl | exact led_1 (by assumption) | exact led_2 (by assumption) | exact bk_m (by assumption) (by first | assumption | omega) | exact bk_p (by assumption) (by first | assumption | omega) | exact bk_o (by assumption) (by first | assumption | omega) | exact bk_s (by assumption) (by first | assumption | omega) | exact bk_1 (by assumption) | exact bk_2 (by assumption) | exact bk_3 (by assumption) | exact bk_4 (by assumption) | exact bk_5 (by assumption) | exact bk_6 (by assumption) | exact bk_7 (by assumption) | exact bk_8 (by assumption) | exact sh_ring _ (by first | assumption | omega) | exact sh_imgs _ (by first | assumption | omega)) (by decide) rfl (by decide) (Nat.le_of_ble_eq_true rfl) (c_X9_advance hR (show TkI _ _ R tp sz s.1 bf from hT.fr (M := ul L 91 (13 + cnt) (L 89 7)) (by rw [ui_ne (by decide), ui_ne (by decide), ui_ne (by decide)]) (by rw [ui_ne (by decide), ui_ne (by decide), ui_ne (by decide)]) (by rw [ul_ne (by decide)])).1 (show TkI _ _ R tp sz s.1 bf from hT.fr (M := ul L 91 (13 + cnt) (L 89 7)) (by rw [ui_ne (by decide), ui_ne (by decide), ui_ne (by decide)]) (by rw [ui_ne (by decide), ui_ne (by decide), ui_ne (by decide)]) (by rw [ul_ne (by decide)])).2.2.2.1 (fun K N p1 p2 p3 => ?_))
          refine v_iconst (v := nI 1) dX7_needNewName_91 (by decide) ?_
          refine v_zret dX7_needNewName_92 (by first | rfl | exact bI_n _) rfl rfl rfl rfl ?_
          refine hQ1 hq _ _ p1 ⟨fun x a c d f => by rw [p2 x c, ui_ne a, ui_ne f, ui_ne d], by rw [p2 88 (by decide), ui_o (by decide), ui_ne (by decide), ui_ne (by decide)], fun x a c => by rw [p3 x a, ul_ne c], fun i hi => ⟨by rw [p3 91 (by decide), ul_o (by omega)], by rw [p2 92 (by decide), ui_ne (by decide), ui_ne (by decide), ui_o (by omega)]⟩, by rw [p2 88 (by decide), ui_o (by decide), ui_ne (by decide), ui_ne (by decide)]⟩ (fun hm1 hc17 hnt => ?_)
          have hk2 := tk_2 hT.by hT.2.1 h2
          have hbn : bas t + m < 17 := by
            match t, ht, hm1 with
            | 0, _, hm1 => simp only [bas, rom, if_true] at hm1 ⊢; omega
            | 1, _, hm1 => simp [bas, rom] at hm1 ⊢; omega
            | 2, _, hm1 => simp [bas, rom] at hm1 ⊢; omega
          have hsb := sof_bas (bas t + m) hbn t ht
          have hst := hsb.1.mpr ⟨by omega, by omega⟩
          refine ⟨by rw [p2 88 (by decide), ui_s]; congr 1, by omega, fun i hi => ⟨by rw [p3 91 (by decide), ul_o (by omega)]; exact (hN3 i hi).1, by rw [p2 92 (by decide), ui_ne (by decide), ui_ne (by decide), ui_o (by omega)]; exact (hN3 i hi).2⟩, fun i hi => ?_⟩
          have e92 : K 92 = ui I 92 (13 + cnt) (nI t) 92 := by rw [p2 92 (by decide), ui_ne (by decide), ui_ne (by decide)]
          have e93 : K 93 = ui (ui I 92 (13 + cnt) (nI t)) 93 (13 + cnt) (nI m) 93 := by rw [p2 93 (by decide), ui_ne (by decide)]
          have e91 : N 91 = ul L 91 (13 + cnt) (L 89 7) 91 := p3 91 (by decide)
          rw [e92, e93, e91]
          clear e92 e93 e91
          by_cases hic : i = cnt
          · subst hic
            simp only [if_true]
            refine ⟨hbn, ?_, ?_, ?_⟩
            · rw [ul_s, hl7, (nmF_keep (F := s.2.1) hbn (fun x _ => rfl)).2]
            · rw [ui_s, hst]
            · rw [ui_s, hsb.2.1 hst]; congr 1; omega
          · simp only [hic, if_false]
            obtain ⟨z1, z2, z3, z4⟩ := hN4 i (by omega)
            have hne : sl i ≠ bas t + m := fun q => hnt (q ▸ hC.1 i (by omega))
            have hw8 := (hK.2.1 _ z1 (hC.1 i (by omega))).1
            have enm : nmF (keepF tp sz s.2.1 s.1 (bas t + m)) (sl i) = nmF s.2.1 (sl i) := by
              unfold nmF at hw8 ⊢
              rw [wrd_len] at hw8
              rw [keepF_o (by omega) (by omega)]
              exact wrd_congr (fun x hx => keepF_o (by omega) (by omega))
            refine ⟨z1, ?_, ?_, ?_⟩
            · rw [ul_o (by omega), enm]; exact z2
            · rw [ui_o (by omega)]; exact z3
            · rw [ui_o (by omega), ui_ne (by decide)]; exact z4
      · exact absurd (by decide) hc20
  · (first | rw [bI_0, Bool.not_eq_false] at hc10 | rw [bI_0] at hc10 | rw [show (0 : Int32) = nI 0 from rfl, nI_eq (by omega) (by omega)] at hc10 | skip)
    refine v_aload_0 dX7_needNewName_13 ?_
    refine v_iconst (v := nI 1) dX7_needNewName_14 (by decide) ?_
    refine u_callV_1 dX7_needNewName_15 ml_X7_102 mv_X7_failHere (by first | assumption | rfl | exact led_1 (by assumption) | exact led_2 (by assumption) | exact bk_m (by assumption) (by first | assumption | omega) | exact bk_p (by assumption) (by first | assumption | omega) | exact bk_o (by assumption) (by first | assumption | omega) | exact bk_s (by assumption) (by first | assumption | omega) | exact bk_1 (by assumption) | exact bk_2 (by assumption) | exact bk_3 (by assumption) | exact bk_4 (by assumption) | exact bk_5 (by assumption) | exact bk_6 (by assumption) | exact bk_7 (by assumption) | exact bk_8 (by assumption) | exact sh_ring _ (by first | assumption | omega) | exact sh_imgs _ (by first | assumption | omega)) (by decide) rfl (by decide) (Nat.le_of_ble_eq_true rfl) (c_X7_failHere hR hT (fun K p1 p2 p3 p4 => ?_))
    refine v_zret dX7_needNewName_18 (by first | rfl | exact bI_n _) rfl rfl rfl rfl ?_
    exact hQ0 1 _ (by unfold qNew; rw [if_neg (by rw [hc10]; decide)]) _ _ p1 p2 p3
end
