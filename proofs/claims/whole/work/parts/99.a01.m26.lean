theorem stpd_sub {F : bkF} {n : Nat} {g : lends} {m o d p q : Nat} {pt : Nat → Nat} (h : (stpd F n g m o d pt p).testBit q = true) : (pt p).testBit q = true := by
  unfold stpd at h
  cases hz : fls F n g d with
  | none => rw [hz] at h; exact h
  | some z =>
    rw [hz] at h
    have h : (kpp F _ _ m o pt p).testBit q = true := h
    unfold kpp at h
    split at h
    · rw [Nat.zero_testBit] at h; cases h
    · split at h
      · rw [Nat.testBit_and, Bool.and_eq_true] at h; exact h.1
      · rw [Nat.zero_testBit] at h; cases h
theorem prd_sub {F : bkF} {n : Nat} {g : lends} {m o p q : Nat} : ∀ (j d : Nat) (pt : Nat → Nat), (prd F n g m o d j pt p).testBit q = true → (pt p).testBit q = true
  | 0, _, _, h => h
  | j + 1, d, pt, h => by
    have h2 := prd_sub j (d + 1) _ h
    split at h2
    · exact stpd_sub h2
    · exact h2
theorem prt_hi {F : bkF} {n : Nat} {g : lends} {m o p q : Nat} (hq : F 3 ≤ q) : (prt F n g m o p).testBit q = false := by
  cases h : (prt F n g m o p).testBit q with
  | false => rfl
  | true =>
    have h2 := prd_sub _ _ _ h
    by_cases e : ldy F m o = 0
    · simp only [e, if_true, Nat.zero_testBit] at h2; cases h2
    · simp only [e, if_false, Nat.testBit_two_pow_sub_one, decide_eq_true_eq] at h2; omega
theorem cup_cg2 {p p' : Nat → Bool} : ∀ (j i : Nat), (∀ k, i ≤ k → k < i + j → p k = p' k) → cup p i j = cup p' i j
  | 0, _, _ => rfl
  | j + 1, i, h => by
    show (if p i then 1 else 0) + cup p (i + 1) j = (if p' i then 1 else 0) + cup p' (i + 1) j
    rw [h i (Nat.le_refl _) (by omega), cup_cg2 j (i + 1) (fun k q1 q2 => h k (by omega) (by omega))]
theorem cup_cut {p : Nat → Bool} : ∀ (a c i : Nat), (∀ k, i + a ≤ k → k < i + a + c → p k = false) → cup p i (a + c) = cup p i a
  | 0, 0, _, _ => rfl
  | 0, c + 1, i, h => by
    rw [show 0 + (c + 1) = c + 1 by omega]
    show (if p i then 1 else 0) + cup p (i + 1) c = 0
    rw [h i (by omega) (by omega)]
    have := cup_cut (p := p) 0 c (i + 1) (fun k q1 q2 => h k (by omega) (by omega))
    rw [Nat.zero_add] at this
    rw [this]; rfl
  | a + 1, c, i, h => by
    rw [show a + 1 + c = (a + c) + 1 by omega]
    show (if p i then 1 else 0) + cup p (i + 1) (a + c) = (if p i then 1 else 0) + cup p (i + 1) a
    rw [cup_cut a c (i + 1) (fun k q1 q2 => h k (by omega) (by omega))]
theorem bitc_prt {F : bkF} {s : LSt} {m o p : Nat} (hO : FOK F) (hK : LOK F s) (hm : m < F 2) (ho : o < F 2) (hmo : m ≠ o) (hp : p < F 3) : bitc (prt F s.1 s.2.1 m o p) = cup (lvA F s m o p) 0 (F 3) := by
  have o3 := hO.2.2.2.1
  unfold bitc
  rw [show 8 = F 3 + (8 - F 3) by omega, cup_cut _ _ _ (fun k q1 _ => prt_hi (by omega))]
  exact cup_cg2 _ _ (fun k _ q2 => lvA_prt hO hK hm ho hmo hp (by omega))
