theorem wys_used {P p : Nat} {G : Nat → Bool} {C : Nat → Nat} {m : Nat} (hG : G m = false) (hC : ∀ r, r < P → (C m).testBit r = true → r = p) : ∀ (k m0 s : Nat), s.testBit p = true → m0 ≤ m → m < m0 + k → wys P G C k m0 s = 0
  | 0, _, _, _, h1, h2 => by omega
  | k + 1, m0, s, hs, h1, h2 => by
    simp only [wys]
    by_cases e : m0 = m
    · subst e
      rw [if_neg (by rw [hG]; decide)]
      refine sun_0 _ _ _ (fun r _ hr => if_neg (fun z => ?_))
      rw [Bool.and_eq_true] at z
      have := hC r (by omega) z.1
      subst this
      rw [hs] at z; exact absurd z.2 (by decide)
    · have ih := fun s hs => wys_used hG hC k (m0 + 1) s hs (by omega) (by omega)
      split
      · exact ih s hs
      · refine sun_0 _ _ _ (fun r _ _ => ?_)
        rw [ih (s ||| 2 ^ r) (by rw [Nat.testBit_or, hs]; rfl)]; split <;> rfl
theorem wys_same {P p : Nat} {G : Nat → Bool} {C : Nat → Nat} {x y : Nat} (hxy : x < y) (hG : G x = false) (hC : ∀ r, r < P → (C x).testBit r = true → r = p) (hG2 : G y = false) (hC2 : ∀ r, r < P → (C y).testBit r = true → r = p) : ∀ (k m0 s : Nat), m0 ≤ x → y < m0 + k → wys P G C k m0 s = 0
  | 0, _, _, h1, h2 => by omega
  | k + 1, m0, s, h1, h2 => by
    simp only [wys]
    by_cases e : m0 = x
    · subst e
      rw [if_neg (by rw [hG]; decide)]
      refine sun_0 _ _ _ (fun r _ hr => ?_)
      split
      · rename_i z
        rw [Bool.and_eq_true] at z
        have := hC r (by omega) z.1
        subst this
        exact wys_used hG2 hC2 k (m0 + 1) _ (by rw [Nat.testBit_or, Nat.testBit_two_pow]; simp) (by omega) (by omega)
      · rfl
    · have ih := fun s => wys_same hxy hG hC hG2 hC2 k (m0 + 1) s (by omega) (by omega)
      split
      · exact ih s
      · exact sun_0 _ _ _ (fun r _ _ => by rw [ih]; split <;> rfl)
theorem posL_same {F : bkF} {s : LSt} {m o p d : Nat} (hm : m < F 2) (ho : o < F 2) (hmo : m ≠ o) : posL F s m o p p d = 0 := by
  unfold posL
  have eG : ∀ x, x = m ∨ x = o → Gt F s d (tru F s d) (some (m, some p)) (some (o, some p)) x = false := fun x hx => by
    show (_ && ((!decide (x = m) || decide (none = some p)) && (!decide (x = o) || decide (none = some p)))) = false
    rw [show decide ((none : Option Nat) = some p) = false from rfl]
    rcases hx with e | e <;> simp [e]
  have eC : ∀ x, x = m ∨ x = o → ∀ r, r < F 3 → (Ct F s d (tru F s d) (some (m, some p)) (some (o, some p)) x).testBit r = true → r = p := fun x hx r hr q => by
    unfold Ct at q
    rw [bup_bit] at q
    have q : (Nat.testBit 0 r || (decide (0 ≤ r) && decide (r < 0 + F 3) && (_ && ((!decide (x = m) || decide (some r = some p)) && (!decide (x = o) || decide (some r = some p)))))) = true := q
    rw [Nat.zero_testBit, Bool.false_or, Bool.and_eq_true, Bool.and_eq_true, Bool.and_eq_true, Bool.and_eq_true, Bool.or_eq_true, Bool.or_eq_true] at q
    rcases hx with e | e
    · rcases q.2.2.1 with z | z
      · simp [e] at z
      · simpa using z
    · rcases q.2.2.2 with z | z
      · simp [e] at z
      · simpa using z
  rcases Nat.lt_or_gt_of_ne hmo with c | c
  · exact wys_same c (eG m (Or.inl rfl)) (eC m (Or.inl rfl)) (eG o (Or.inr rfl)) (eC o (Or.inr rfl)) _ _ _ (Nat.zero_le _) (by omega)
  · exact wys_same c (eG o (Or.inr rfl)) (eC o (Or.inr rfl)) (eG m (Or.inl rfl)) (eC m (Or.inl rfl)) _ _ _ (Nat.zero_le _) (by omega)
theorem lvA_same {F : bkF} {s : LSt} {m o p : Nat} (hm : m < F 2) (ho : o < F 2) (hmo : m ≠ o) : lvA F s m o p p = false := by
  unfold lvA
  have e : oup (badL F s m o p p) 0 (F 6) = oup (ltp F m o) 0 (F 6) := by
    congr 1
    funext l
    unfold badL
    rw [posL_same hm ho hmo]; simp
  rw [e]; simp
