theorem dupz_b {p : Nat → Bool} {v : Nat → Nat} : ∀ (j i a x : Nat), (dupz p v i j a).testBit x = (a.testBit x || oup (fun l => p l && decide (v l = x)) i j)
  | 0, _, _, _ => by simp [dupz, oup]
  | j + 1, i, a, x => by
    simp only [dupz, oup]
    rw [dupz_b j (i + 1)]
    by_cases h : p i = true
    · rw [if_pos h, h, Nat.testBit_or, Nat.testBit_two_pow, Bool.true_and, Bool.or_assoc]
    · have h' : p i = false := by cases hh : p i <;> simp_all
      rw [if_neg h, h', Bool.false_and, Bool.false_or]
theorem prd_b {F : bkF} {s : LSt} {m o p q : Nat} (hO : FOK F) (hK : LOK F s) (hm : m < F 2) (ho : o < F 2) (hmo : m ≠ o) (hp : p < F 3) (hq : q < F 3) : ∀ (j d : Nat) (pt : Nat → Nat), (prd F s.1 s.2.1 m o d j pt p).testBit q = ((pt p).testBit q && !oup (fun x => (ldy F m o).testBit x && decide (posL F s m o p q x = 0)) d j)
  | 0, _, _ => by simp [prd, oup]
  | j + 1, d, pt => by
    simp only [prd, oup]
    rw [prd_b hO hK hm ho hmo hp hq j (d + 1)]
    by_cases h : (ldy F m o).testBit d = true
    · rw [if_pos h, h, stpd_pos hO hK hm ho hmo hp hq, Bool.true_and]
      by_cases hz : posL F s m o p q d = 0
      · rw [hz]; simp
      · rw [decide_eq_true (Nat.pos_of_ne_zero hz), decide_eq_false hz, Bool.and_true, Bool.false_or]
    · have h' : (ldy F m o).testBit d = false := by cases hh : (ldy F m o).testBit d <;> simp_all
      rw [if_neg h, h', Bool.false_and, Bool.false_or]
theorem ldy_b {F : bkF} {m o x : Nat} : (ldy F m o).testBit x = true ↔ ∃ l, l < F 6 ∧ ltp F m o l = true ∧ F (170 + 3 * l) = x := by
  unfold ldy
  rw [dupz_b, Nat.zero_testBit, Bool.false_or, oup_iff]
  constructor
  · rintro ⟨l, -, h2, h3⟩
    rw [Bool.and_eq_true, decide_eq_true_eq] at h3
    exact ⟨l, by omega, h3.1, h3.2⟩
  · rintro ⟨l, h1, h2, h3⟩
    exact ⟨l, Nat.zero_le _, by omega, by rw [Bool.and_eq_true, decide_eq_true_eq]; exact ⟨h2, h3⟩⟩
theorem lvA_prt {F : bkF} {s : LSt} {m o p q : Nat} (hO : FOK F) (hK : LOK F s) (hm : m < F 2) (ho : o < F 2) (hmo : m ≠ o) (hp : p < F 3) (hq : q < F 3) : (prt F s.1 s.2.1 m o p).testBit q = lvA F s m o p q := by
  unfold prt lvA
  rw [prd_b hO hK hm ho hmo hp hq]
  have e1 : (if ldy F m o = 0 then 0 else 2 ^ F 3 - 1).testBit q = oup (ltp F m o) 0 (F 6) := by
    rw [Bool.eq_iff_iff, oup_iff]
    by_cases h : ldy F m o = 0
    · rw [if_pos h, Nat.zero_testBit]
      constructor
      · intro z; cases z
      · rintro ⟨l, -, h2, h3⟩
        have := (ldy_b (x := F (170 + 3 * l))).mpr ⟨l, by omega, h3, rfl⟩
        rw [h, Nat.zero_testBit] at this; exact this
    · rw [if_neg h, Nat.testBit_two_pow_sub_one, decide_eq_true_eq]
      refine ⟨fun _ => ?_, fun _ => hq⟩
      obtain ⟨x, hx⟩ := Nat.exists_testBit_of_ne_zero h
      obtain ⟨l, h1, h2, -⟩ := ldy_b.mp hx
      exact ⟨l, Nat.zero_le _, by omega, h2⟩
  have e2 : oup (fun x => (ldy F m o).testBit x && decide (posL F s m o p q x = 0)) 1 (F 0) = oup (badL F s m o p q) 0 (F 6) := by
    rw [Bool.eq_iff_iff, oup_iff, oup_iff]
    constructor
    · rintro ⟨x, h1, h2, h3⟩
      rw [Bool.and_eq_true, decide_eq_true_eq] at h3
      obtain ⟨l, g1, g2, g3⟩ := ldy_b.mp h3.1
      exact ⟨l, Nat.zero_le _, by omega, by unfold badL; rw [g2, g3, decide_eq_true h3.2]; rfl⟩
    · rintro ⟨l, -, h2, h3⟩
      unfold badL at h3
      rw [Bool.and_eq_true, decide_eq_true_eq] at h3
      have y := fk_l hO (show l < F 6 by omega)
      exact ⟨F (170 + 3 * l), y.2.2.2.1, by omega, by rw [Bool.and_eq_true, decide_eq_true_eq]; exact ⟨ldy_b.mpr ⟨l, by omega, h3.1, rfl⟩, h3.2⟩⟩
  rw [e1, e2]
