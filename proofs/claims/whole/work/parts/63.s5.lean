/-! what stands at every step of the parser -/
def tn (F : bkF) (n : Nat) : Prop := n < F 1 ∨ (5 ≤ n ∧ n < 5 + F 2) ∨ (11 ≤ n ∧ n < 11 + F 3)
def NmK (F : bkF) : Prop := (∀ n, n < 17 → (0 < F (192 + n) ↔ tn F n)) ∧ (∀ n, n < 17 → tn F n → wok (nmF F n)) ∧ (∀ n k, n < 17 → k < 17 → tn F n → tn F k → nmF F n = nmF F k → n = k)
def PInv (sz : Nat) (s : PS) : Prop := s.1 ≤ sz ∧ FOK s.2.1 ∧ s.2.1 7 ≤ 8 ∧ (s.2.1 0 = 0 → s.2.1 4 = 0 ∧ s.2.1 5 = 0 ∧ s.2.1 6 = 0 ∧ s.2.1 7 = 0 ∧ s.2.2.1 = 0) ∧ s.2.2.1 ≤ 12 ∧ LOK s.2.1 s.2.2 ∧ NmK s.2.1 ∧ (∀ p, s.2.1 3 ≤ p → p < 6 → s.2.1 (38 + p) = 0 ∧ s.2.1 (44 + p) = 0 ∧ s.2.1 (50 + p) = 0) ∧ (∀ x, s.2.1 5 ≤ x → x < 8 → s.2.1 (132 + 5 * x) = 0)
section
variable {F F' : bkF}
theorem FOK.town (h : FOK F) (e : ∀ x, x < 192 → x ≠ 0 → F' x = F x) (n0 : F' 0 ≤ 20) (z : F 0 ≤ F' 0) : FOK F' := by
  obtain ⟨h0, h1, h2, h3, h4, h5, h6, hm, hp, ho, hs, hl⟩ := h
  have g1 := e 1 (by decide) (by decide)
  have g2 := e 2 (by decide) (by decide)
  have g3 := e 3 (by decide) (by decide)
  have g4 := e 4 (by decide) (by decide)
  have g5 := e 5 (by decide) (by decide)
  have g6 := e 6 (by decide) (by decide)
  refine ⟨n0, by omega, by omega, by omega, by omega, by omega, by omega, fun m q => ?_, fun p q => ?_, fun o q => ?_, fun x q => ?_, fun x q => ?_⟩
  · have := hm m (by omega)
    have w0 := e (8 + m) (by omega) (by omega)
    have w1 := e (14 + m) (by omega) (by omega)
    have w2 := e (20 + m) (by omega) (by omega)
    omega
  · have := hp p (by omega)
    have w0 := e (26 + p) (by omega) (by omega)
    have w1 := e (32 + p) (by omega) (by omega)
    have w2 := e (38 + p) (by omega) (by omega)
    have w3 := e (44 + p) (by omega) (by omega)
    have w4 := e (50 + p) (by omega) (by omega)
    omega
  · have := ho o (by omega)
    have w0 := e (56 + 6 * o) (by omega) (by omega)
    have w1 := e (57 + 6 * o) (by omega) (by omega)
    have w2 := e (58 + 6 * o) (by omega) (by omega)
    have w3 := e (59 + 6 * o) (by omega) (by omega)
    have w4 := e (60 + 6 * o) (by omega) (by omega)
    have w5 := e (61 + 6 * o) (by omega) (by omega)
    omega
  · have := hs x (by omega)
    have w0 := e (128 + 5 * x) (by omega) (by omega)
    have w1 := e (129 + 5 * x) (by omega) (by omega)
    have w2 := e (130 + 5 * x) (by omega) (by omega)
    have w3 := e (131 + 5 * x) (by omega) (by omega)
    have w4 := e (132 + 5 * x) (by omega) (by omega)
    omega
  · have := hl x (by omega)
    have w0 := e (168 + 3 * x) (by omega) (by omega)
    have w1 := e (169 + 3 * x) (by omega) (by omega)
    have w2 := e (170 + 3 * x) (by omega) (by omega)
    omega
theorem FOK.work (h : FOK F) (hc : F 1 < 5) (ec : F' 1 = F 1 + 1) (e : ∀ x, x < 192 → x ≠ 1 → x ≠ 192 → F' x = F x) (n : True) : FOK F' := by
  obtain ⟨h0, h1, h2, h3, h4, h5, h6, hm, hp, ho, hs, hl⟩ := h
  have g0 := e 0 (by omega) (by omega) (by omega)
  have g1 := ec
  have g2 := e 2 (by omega) (by omega) (by omega)
  have g3 := e 3 (by omega) (by omega) (by omega)
  have g4 := e 4 (by omega) (by omega) (by omega)
  have g5 := e 5 (by omega) (by omega) (by omega)
  have g6 := e 6 (by omega) (by omega) (by omega)
  refine ⟨by omega, by omega, by omega, by omega, by omega, by omega, by omega, fun m q => ?_, fun p q => ?_, fun o q => ?_, fun x q => ?_, fun x q => ?_⟩
  · have := hm m (by omega)
    have w0 := e (8 + m) (by omega) (by omega) (by omega)
    have w1 := e (14 + m) (by omega) (by omega) (by omega)
    have w2 := e (20 + m) (by omega) (by omega) (by omega)
    omega
  · have := hp p (by omega)
    have w0 := e (26 + p) (by omega) (by omega) (by omega)
    have w1 := e (32 + p) (by omega) (by omega) (by omega)
    have w2 := e (38 + p) (by omega) (by omega) (by omega)
    have w3 := e (44 + p) (by omega) (by omega) (by omega)
    have w4 := e (50 + p) (by omega) (by omega) (by omega)
    omega
  · have := ho o (by omega)
    have w0 := e (56 + 6 * o) (by omega) (by omega) (by omega)
    have w1 := e (57 + 6 * o) (by omega) (by omega) (by omega)
    have w2 := e (58 + 6 * o) (by omega) (by omega) (by omega)
    have w3 := e (59 + 6 * o) (by omega) (by omega) (by omega)
    have w4 := e (60 + 6 * o) (by omega) (by omega) (by omega)
    have w5 := e (61 + 6 * o) (by omega) (by omega) (by omega)
    omega
  · have := hs x (by omega)
    have w0 := e (128 + 5 * x) (by omega) (by omega) (by omega)
    have w1 := e (129 + 5 * x) (by omega) (by omega) (by omega)
    have w2 := e (130 + 5 * x) (by omega) (by omega) (by omega)
    have w3 := e (131 + 5 * x) (by omega) (by omega) (by omega)
    have w4 := e (132 + 5 * x) (by omega) (by omega) (by omega)
    omega
  · have := hl x (by omega)
    have w0 := e (168 + 3 * x) (by omega) (by omega) (by omega)
    have w1 := e (169 + 3 * x) (by omega) (by omega) (by omega)
    have w2 := e (170 + 3 * x) (by omega) (by omega) (by omega)
    omega
theorem FOK.mask (h : FOK F) (hc : F 2 < 6) (ec : F' 2 = F 2 + 1) (e : ∀ x, x < 192 → x ≠ 2 → x ≠ 8 + F 2 → x ≠ 14 + F 2 → x ≠ 20 + F 2 → F' x = F x) (n : F' (8 + F 2) < 5 ∧ F' (14 + F 2) < 10 ∧ F' (20 + F 2) < 100) : FOK F' := by
  obtain ⟨h0, h1, h2, h3, h4, h5, h6, hm, hp, ho, hs, hl⟩ := h
  have g0 := e 0 (by omega) (by omega) (by omega) (by omega) (by omega)
  have g1 := e 1 (by omega) (by omega) (by omega) (by omega) (by omega)
  have g2 := ec
  have g3 := e 3 (by omega) (by omega) (by omega) (by omega) (by omega)
  have g4 := e 4 (by omega) (by omega) (by omega) (by omega) (by omega)
  have g5 := e 5 (by omega) (by omega) (by omega) (by omega) (by omega)
  have g6 := e 6 (by omega) (by omega) (by omega) (by omega) (by omega)
  refine ⟨by omega, by omega, by omega, by omega, by omega, by omega, by omega, fun m q => ?_, fun p q => ?_, fun o q => ?_, fun x q => ?_, fun x q => ?_⟩
  · by_cases qe : m = F 2
    · subst qe; exact n
    · have := hm m (by omega)
      have w0 := e (8 + m) (by omega) (by omega) (by omega) (by omega) (by omega)
      have w1 := e (14 + m) (by omega) (by omega) (by omega) (by omega) (by omega)
      have w2 := e (20 + m) (by omega) (by omega) (by omega) (by omega) (by omega)
      omega
  · have := hp p (by omega)
    have w0 := e (26 + p) (by omega) (by omega) (by omega) (by omega) (by omega)
    have w1 := e (32 + p) (by omega) (by omega) (by omega) (by omega) (by omega)
    have w2 := e (38 + p) (by omega) (by omega) (by omega) (by omega) (by omega)
    have w3 := e (44 + p) (by omega) (by omega) (by omega) (by omega) (by omega)
    have w4 := e (50 + p) (by omega) (by omega) (by omega) (by omega) (by omega)
    omega
  · have := ho o (by omega)
    have w0 := e (56 + 6 * o) (by omega) (by omega) (by omega) (by omega) (by omega)
    have w1 := e (57 + 6 * o) (by omega) (by omega) (by omega) (by omega) (by omega)
    have w2 := e (58 + 6 * o) (by omega) (by omega) (by omega) (by omega) (by omega)
    have w3 := e (59 + 6 * o) (by omega) (by omega) (by omega) (by omega) (by omega)
    have w4 := e (60 + 6 * o) (by omega) (by omega) (by omega) (by omega) (by omega)
    have w5 := e (61 + 6 * o) (by omega) (by omega) (by omega) (by omega) (by omega)
    omega
  · have := hs x (by omega)
    have w0 := e (128 + 5 * x) (by omega) (by omega) (by omega) (by omega) (by omega)
    have w1 := e (129 + 5 * x) (by omega) (by omega) (by omega) (by omega) (by omega)
    have w2 := e (130 + 5 * x) (by omega) (by omega) (by omega) (by omega) (by omega)
    have w3 := e (131 + 5 * x) (by omega) (by omega) (by omega) (by omega) (by omega)
    have w4 := e (132 + 5 * x) (by omega) (by omega) (by omega) (by omega) (by omega)
    omega
  · have := hl x (by omega)
    have w0 := e (168 + 3 * x) (by omega) (by omega) (by omega) (by omega) (by omega)
    have w1 := e (169 + 3 * x) (by omega) (by omega) (by omega) (by omega) (by omega)
    have w2 := e (170 + 3 * x) (by omega) (by omega) (by omega) (by omega) (by omega)
    omega
theorem FOK.person (h : FOK F) (hc : F 3 < 6) (ec : F' 3 = F 3 + 1) (e : ∀ x, x < 192 → x ≠ 3 → x ≠ 26 + F 3 → x ≠ 32 + F 3 → x ≠ 38 + F 3 → x ≠ 44 + F 3 → x ≠ 50 + F 3 → F' x = F x) (n : F' (26 + F 3) < 10 ∧ F' (32 + F 3) < 100 ∧ F' (38 + F 3) < 2 ∧ F' (44 + F 3) < 5 ∧ F' (50 + F 3) < 32) : FOK F' := by
  obtain ⟨h0, h1, h2, h3, h4, h5, h6, hm, hp, ho, hs, hl⟩ := h
  have g0 := e 0 (by omega) (by omega) (by omega) (by omega) (by omega) (by omega) (by omega)
  have g1 := e 1 (by omega) (by omega) (by omega) (by omega) (by omega) (by omega) (by omega)
  have g2 := e 2 (by omega) (by omega) (by omega) (by omega) (by omega) (by omega) (by omega)
  have g3 := ec
  have g4 := e 4 (by omega) (by omega) (by omega) (by omega) (by omega) (by omega) (by omega)
  have g5 := e 5 (by omega) (by omega) (by omega) (by omega) (by omega) (by omega) (by omega)
  have g6 := e 6 (by omega) (by omega) (by omega) (by omega) (by omega) (by omega) (by omega)
  refine ⟨by omega, by omega, by omega, by omega, by omega, by omega, by omega, fun m q => ?_, fun p q => ?_, fun o q => ?_, fun x q => ?_, fun x q => ?_⟩
  · have := hm m (by omega)
    have w0 := e (8 + m) (by omega) (by omega) (by omega) (by omega) (by omega) (by omega) (by omega)
    have w1 := e (14 + m) (by omega) (by omega) (by omega) (by omega) (by omega) (by omega) (by omega)
    have w2 := e (20 + m) (by omega) (by omega) (by omega) (by omega) (by omega) (by omega) (by omega)
    omega
  · by_cases qe : p = F 3
    · subst qe; exact n
    · have := hp p (by omega)
      have w0 := e (26 + p) (by omega) (by omega) (by omega) (by omega) (by omega) (by omega) (by omega)
      have w1 := e (32 + p) (by omega) (by omega) (by omega) (by omega) (by omega) (by omega) (by omega)
      have w2 := e (38 + p) (by omega) (by omega) (by omega) (by omega) (by omega) (by omega) (by omega)
      have w3 := e (44 + p) (by omega) (by omega) (by omega) (by omega) (by omega) (by omega) (by omega)
      have w4 := e (50 + p) (by omega) (by omega) (by omega) (by omega) (by omega) (by omega) (by omega)
      omega
  · have := ho o (by omega)
    have w0 := e (56 + 6 * o) (by omega) (by omega) (by omega) (by omega) (by omega) (by omega) (by omega)
    have w1 := e (57 + 6 * o) (by omega) (by omega) (by omega) (by omega) (by omega) (by omega) (by omega)
    have w2 := e (58 + 6 * o) (by omega) (by omega) (by omega) (by omega) (by omega) (by omega) (by omega)
    have w3 := e (59 + 6 * o) (by omega) (by omega) (by omega) (by omega) (by omega) (by omega) (by omega)
    have w4 := e (60 + 6 * o) (by omega) (by omega) (by omega) (by omega) (by omega) (by omega) (by omega)
    have w5 := e (61 + 6 * o) (by omega) (by omega) (by omega) (by omega) (by omega) (by omega) (by omega)
    omega
  · have := hs x (by omega)
    have w0 := e (128 + 5 * x) (by omega) (by omega) (by omega) (by omega) (by omega) (by omega) (by omega)
    have w1 := e (129 + 5 * x) (by omega) (by omega) (by omega) (by omega) (by omega) (by omega) (by omega)
    have w2 := e (130 + 5 * x) (by omega) (by omega) (by omega) (by omega) (by omega) (by omega) (by omega)
    have w3 := e (131 + 5 * x) (by omega) (by omega) (by omega) (by omega) (by omega) (by omega) (by omega)
    have w4 := e (132 + 5 * x) (by omega) (by omega) (by omega) (by omega) (by omega) (by omega) (by omega)
    omega
  · have := hl x (by omega)
    have w0 := e (168 + 3 * x) (by omega) (by omega) (by omega) (by omega) (by omega) (by omega) (by omega)
    have w1 := e (169 + 3 * x) (by omega) (by omega) (by omega) (by omega) (by omega) (by omega) (by omega)
    have w2 := e (170 + 3 * x) (by omega) (by omega) (by omega) (by omega) (by omega) (by omega) (by omega)
    omega
theorem FOK.promise (h : FOK F) (hc : F 4 < 12) (ec : F' 4 = F 4 + 1) (e : ∀ x, x < 192 → x ≠ 4 → x ≠ 56 + 6 * F 4 → x ≠ 57 + 6 * F 4 → x ≠ 58 + 6 * F 4 → x ≠ 59 + 6 * F 4 → x ≠ 60 + 6 * F 4 → x ≠ 61 + 6 * F 4 → F' x = F x) (n : F' (56 + 6 * F 4) < F' 2 ∧ F' (57 + 6 * F 4) < 5 ∧ 1 ≤ F' (58 + 6 * F 4) ∧ F' (58 + 6 * F 4) ≤ F' 0 ∧ F' (59 + 6 * F 4) < 100 ∧ F' (60 + 6 * F 4) < 100 ∧ F' (61 + 6 * F 4) < 100) : FOK F' := by
  obtain ⟨h0, h1, h2, h3, h4, h5, h6, hm, hp, ho, hs, hl⟩ := h
  have g0 := e 0 (by omega) (by omega) (by omega) (by omega) (by omega) (by omega) (by omega) (by omega)
  have g1 := e 1 (by omega) (by omega) (by omega) (by omega) (by omega) (by omega) (by omega) (by omega)
  have g2 := e 2 (by omega) (by omega) (by omega) (by omega) (by omega) (by omega) (by omega) (by omega)
  have g3 := e 3 (by omega) (by omega) (by omega) (by omega) (by omega) (by omega) (by omega) (by omega)
  have g4 := ec
  have g5 := e 5 (by omega) (by omega) (by omega) (by omega) (by omega) (by omega) (by omega) (by omega)
  have g6 := e 6 (by omega) (by omega) (by omega) (by omega) (by omega) (by omega) (by omega) (by omega)
  refine ⟨by omega, by omega, by omega, by omega, by omega, by omega, by omega, fun m q => ?_, fun p q => ?_, fun o q => ?_, fun x q => ?_, fun x q => ?_⟩
  · have := hm m (by omega)
    have w0 := e (8 + m) (by omega) (by omega) (by omega) (by omega) (by omega) (by omega) (by omega) (by omega)
    have w1 := e (14 + m) (by omega) (by omega) (by omega) (by omega) (by omega) (by omega) (by omega) (by omega)
    have w2 := e (20 + m) (by omega) (by omega) (by omega) (by omega) (by omega) (by omega) (by omega) (by omega)
    omega
  · have := hp p (by omega)
    have w0 := e (26 + p) (by omega) (by omega) (by omega) (by omega) (by omega) (by omega) (by omega) (by omega)
    have w1 := e (32 + p) (by omega) (by omega) (by omega) (by omega) (by omega) (by omega) (by omega) (by omega)
    have w2 := e (38 + p) (by omega) (by omega) (by omega) (by omega) (by omega) (by omega) (by omega) (by omega)
    have w3 := e (44 + p) (by omega) (by omega) (by omega) (by omega) (by omega) (by omega) (by omega) (by omega)
    have w4 := e (50 + p) (by omega) (by omega) (by omega) (by omega) (by omega) (by omega) (by omega) (by omega)
    omega
  · by_cases qe : o = F 4
    · subst qe; exact n
    · have := ho o (by omega)
      have w0 := e (56 + 6 * o) (by omega) (by omega) (by omega) (by omega) (by omega) (by omega) (by omega) (by omega)
      have w1 := e (57 + 6 * o) (by omega) (by omega) (by omega) (by omega) (by omega) (by omega) (by omega) (by omega)
      have w2 := e (58 + 6 * o) (by omega) (by omega) (by omega) (by omega) (by omega) (by omega) (by omega) (by omega)
      have w3 := e (59 + 6 * o) (by omega) (by omega) (by omega) (by omega) (by omega) (by omega) (by omega) (by omega)
      have w4 := e (60 + 6 * o) (by omega) (by omega) (by omega) (by omega) (by omega) (by omega) (by omega) (by omega)
      have w5 := e (61 + 6 * o) (by omega) (by omega) (by omega) (by omega) (by omega) (by omega) (by omega) (by omega)
      omega
  · have := hs x (by omega)
    have w0 := e (128 + 5 * x) (by omega) (by omega) (by omega) (by omega) (by omega) (by omega) (by omega) (by omega)
    have w1 := e (129 + 5 * x) (by omega) (by omega) (by omega) (by omega) (by omega) (by omega) (by omega) (by omega)
    have w2 := e (130 + 5 * x) (by omega) (by omega) (by omega) (by omega) (by omega) (by omega) (by omega) (by omega)
    have w3 := e (131 + 5 * x) (by omega) (by omega) (by omega) (by omega) (by omega) (by omega) (by omega) (by omega)
    have w4 := e (132 + 5 * x) (by omega) (by omega) (by omega) (by omega) (by omega) (by omega) (by omega) (by omega)
    omega
  · have := hl x (by omega)
    have w0 := e (168 + 3 * x) (by omega) (by omega) (by omega) (by omega) (by omega) (by omega) (by omega) (by omega)
    have w1 := e (169 + 3 * x) (by omega) (by omega) (by omega) (by omega) (by omega) (by omega) (by omega) (by omega)
    have w2 := e (170 + 3 * x) (by omega) (by omega) (by omega) (by omega) (by omega) (by omega) (by omega) (by omega)
    omega
theorem FOK.seen (h : FOK F) (hc : F 5 < 8) (ec : F' 5 = F 5 + 1) (e : ∀ x, x < 192 → x ≠ 5 → x ≠ 128 + 5 * F 5 → x ≠ 129 + 5 * F 5 → x ≠ 130 + 5 * F 5 → x ≠ 131 + 5 * F 5 → x ≠ 132 + 5 * F 5 → F' x = F x) (n : F' (128 + 5 * F 5) < F' 2 ∧ 1 ≤ F' (129 + 5 * F 5) ∧ F' (129 + 5 * F 5) ≤ F' 0 ∧ F' (130 + 5 * F 5) < 24 ∧ F' (131 + 5 * F 5) < 10 ∧ F' (132 + 5 * F 5) < 5) : FOK F' := by
  obtain ⟨h0, h1, h2, h3, h4, h5, h6, hm, hp, ho, hs, hl⟩ := h
  have g0 := e 0 (by omega) (by omega) (by omega) (by omega) (by omega) (by omega) (by omega)
  have g1 := e 1 (by omega) (by omega) (by omega) (by omega) (by omega) (by omega) (by omega)
  have g2 := e 2 (by omega) (by omega) (by omega) (by omega) (by omega) (by omega) (by omega)
  have g3 := e 3 (by omega) (by omega) (by omega) (by omega) (by omega) (by omega) (by omega)
  have g4 := e 4 (by omega) (by omega) (by omega) (by omega) (by omega) (by omega) (by omega)
  have g5 := ec
  have g6 := e 6 (by omega) (by omega) (by omega) (by omega) (by omega) (by omega) (by omega)
  refine ⟨by omega, by omega, by omega, by omega, by omega, by omega, by omega, fun m q => ?_, fun p q => ?_, fun o q => ?_, fun x q => ?_, fun x q => ?_⟩
  · have := hm m (by omega)
    have w0 := e (8 + m) (by omega) (by omega) (by omega) (by omega) (by omega) (by omega) (by omega)
    have w1 := e (14 + m) (by omega) (by omega) (by omega) (by omega) (by omega) (by omega) (by omega)
    have w2 := e (20 + m) (by omega) (by omega) (by omega) (by omega) (by omega) (by omega) (by omega)
    omega
  · have := hp p (by omega)
    have w0 := e (26 + p) (by omega) (by omega) (by omega) (by omega) (by omega) (by omega) (by omega)
    have w1 := e (32 + p) (by omega) (by omega) (by omega) (by omega) (by omega) (by omega) (by omega)
    have w2 := e (38 + p) (by omega) (by omega) (by omega) (by omega) (by omega) (by omega) (by omega)
    have w3 := e (44 + p) (by omega) (by omega) (by omega) (by omega) (by omega) (by omega) (by omega)
    have w4 := e (50 + p) (by omega) (by omega) (by omega) (by omega) (by omega) (by omega) (by omega)
    omega
  · have := ho o (by omega)
    have w0 := e (56 + 6 * o) (by omega) (by omega) (by omega) (by omega) (by omega) (by omega) (by omega)
    have w1 := e (57 + 6 * o) (by omega) (by omega) (by omega) (by omega) (by omega) (by omega) (by omega)
    have w2 := e (58 + 6 * o) (by omega) (by omega) (by omega) (by omega) (by omega) (by omega) (by omega)
    have w3 := e (59 + 6 * o) (by omega) (by omega) (by omega) (by omega) (by omega) (by omega) (by omega)
    have w4 := e (60 + 6 * o) (by omega) (by omega) (by omega) (by omega) (by omega) (by omega) (by omega)
    have w5 := e (61 + 6 * o) (by omega) (by omega) (by omega) (by omega) (by omega) (by omega) (by omega)
    omega
  · by_cases qe : x = F 5
    · subst qe; exact n
    · have := hs x (by omega)
      have w0 := e (128 + 5 * x) (by omega) (by omega) (by omega) (by omega) (by omega) (by omega) (by omega)
      have w1 := e (129 + 5 * x) (by omega) (by omega) (by omega) (by omega) (by omega) (by omega) (by omega)
      have w2 := e (130 + 5 * x) (by omega) (by omega) (by omega) (by omega) (by omega) (by omega) (by omega)
      have w3 := e (131 + 5 * x) (by omega) (by omega) (by omega) (by omega) (by omega) (by omega) (by omega)
      have w4 := e (132 + 5 * x) (by omega) (by omega) (by omega) (by omega) (by omega) (by omega) (by omega)
      omega
  · have := hl x (by omega)
    have w0 := e (168 + 3 * x) (by omega) (by omega) (by omega) (by omega) (by omega) (by omega) (by omega)
    have w1 := e (169 + 3 * x) (by omega) (by omega) (by omega) (by omega) (by omega) (by omega) (by omega)
    have w2 := e (170 + 3 * x) (by omega) (by omega) (by omega) (by omega) (by omega) (by omega) (by omega)
    omega
theorem FOK.letter (h : FOK F) (hc : F 6 < 8) (ec : F' 6 = F 6 + 1) (e : ∀ x, x < 192 → x ≠ 6 → x ≠ 168 + 3 * F 6 → x ≠ 169 + 3 * F 6 → x ≠ 170 + 3 * F 6 → F' x = F x) (n : F' (168 + 3 * F 6) < F' 2 ∧ F' (169 + 3 * F 6) < F' 2 ∧ F' (168 + 3 * F 6) ≠ F' (169 + 3 * F 6) ∧ 1 ≤ F' (170 + 3 * F 6) ∧ F' (170 + 3 * F 6) ≤ F' 0) : FOK F' := by
  obtain ⟨h0, h1, h2, h3, h4, h5, h6, hm, hp, ho, hs, hl⟩ := h
  have g0 := e 0 (by omega) (by omega) (by omega) (by omega) (by omega)
  have g1 := e 1 (by omega) (by omega) (by omega) (by omega) (by omega)
  have g2 := e 2 (by omega) (by omega) (by omega) (by omega) (by omega)
  have g3 := e 3 (by omega) (by omega) (by omega) (by omega) (by omega)
  have g4 := e 4 (by omega) (by omega) (by omega) (by omega) (by omega)
  have g5 := e 5 (by omega) (by omega) (by omega) (by omega) (by omega)
  have g6 := ec
  refine ⟨by omega, by omega, by omega, by omega, by omega, by omega, by omega, fun m q => ?_, fun p q => ?_, fun o q => ?_, fun x q => ?_, fun x q => ?_⟩
  · have := hm m (by omega)
    have w0 := e (8 + m) (by omega) (by omega) (by omega) (by omega) (by omega)
    have w1 := e (14 + m) (by omega) (by omega) (by omega) (by omega) (by omega)
    have w2 := e (20 + m) (by omega) (by omega) (by omega) (by omega) (by omega)
    omega
  · have := hp p (by omega)
    have w0 := e (26 + p) (by omega) (by omega) (by omega) (by omega) (by omega)
    have w1 := e (32 + p) (by omega) (by omega) (by omega) (by omega) (by omega)
    have w2 := e (38 + p) (by omega) (by omega) (by omega) (by omega) (by omega)
    have w3 := e (44 + p) (by omega) (by omega) (by omega) (by omega) (by omega)
    have w4 := e (50 + p) (by omega) (by omega) (by omega) (by omega) (by omega)
    omega
  · have := ho o (by omega)
    have w0 := e (56 + 6 * o) (by omega) (by omega) (by omega) (by omega) (by omega)
    have w1 := e (57 + 6 * o) (by omega) (by omega) (by omega) (by omega) (by omega)
    have w2 := e (58 + 6 * o) (by omega) (by omega) (by omega) (by omega) (by omega)
    have w3 := e (59 + 6 * o) (by omega) (by omega) (by omega) (by omega) (by omega)
    have w4 := e (60 + 6 * o) (by omega) (by omega) (by omega) (by omega) (by omega)
    have w5 := e (61 + 6 * o) (by omega) (by omega) (by omega) (by omega) (by omega)
    omega
  · have := hs x (by omega)
    have w0 := e (128 + 5 * x) (by omega) (by omega) (by omega) (by omega) (by omega)
    have w1 := e (129 + 5 * x) (by omega) (by omega) (by omega) (by omega) (by omega)
    have w2 := e (130 + 5 * x) (by omega) (by omega) (by omega) (by omega) (by omega)
    have w3 := e (131 + 5 * x) (by omega) (by omega) (by omega) (by omega) (by omega)
    have w4 := e (132 + 5 * x) (by omega) (by omega) (by omega) (by omega) (by omega)
    omega
  · by_cases qe : x = F 6
    · subst qe; exact n
    · have := hl x (by omega)
      have w0 := e (168 + 3 * x) (by omega) (by omega) (by omega) (by omega) (by omega)
      have w1 := e (169 + 3 * x) (by omega) (by omega) (by omega) (by omega) (by omega)
      have w2 := e (170 + 3 * x) (by omega) (by omega) (by omega) (by omega) (by omega)
      omega
theorem LOK.mono {s : LSt} (h : LOK F s) (h2 : F 2 ≤ F' 2) (h3 : F 3 ≤ F' 3) (h0 : F 0 ≤ F' 0) (hm : ∀ m, m < F 2 → F' (8 + m) = F (8 + m) ∧ F' (14 + m) = F (14 + m)) (hp : ∀ p, p < F 3 → F' (26 + p) = F (26 + p) ∧ F' (32 + p) = F (32 + p) ∧ F' (38 + p) = F (38 + p)) : LOK F' s := by
  obtain ⟨a1, a2, a3, a4⟩ := h
  refine ⟨a1, fun i hi => ?_, a3, a4⟩
  obtain ⟨b1, b2, b3, b4, b5⟩ := a2 i hi
  refine ⟨b1, by omega, by omega, by omega, ?_⟩
  unfold fitF at b5 ⊢
  rw [(hm _ b2).1, (hm _ b2).2, (hp _ b3).1, (hp _ b3).2.1, (hp _ b3).2.2]
  exact b5
theorem wrd_congr {f g : Nat → Nat} {a n : Nat} (h : ∀ i, i < n → f (a + i) = g (a + i)) : wrd f a n = wrd g a n := by
  unfold wrd
  exact List.map_congr_left (fun i hi => h i (List.mem_range.mp hi))
theorem nmF_same (n : Nat) (hn : n < 17) (e : ∀ x, 192 ≤ x → F' x = F x) : nmF F' n = nmF F n := by
  unfold nmF
  rw [e _ (by omega)]
  exact wrd_congr (fun i _ => e _ (by omega))
theorem tn_same (e1 : F' 1 = F 1) (e2 : F' 2 = F 2) (e3 : F' 3 = F 3) (n : Nat) : tn F' n ↔ tn F n := by
  unfold tn; rw [e1, e2, e3]
theorem NmK.same (h : NmK F) (e : ∀ x, 192 ≤ x → F' x = F x) (e1 : F' 1 = F 1) (e2 : F' 2 = F 2) (e3 : F' 3 = F 3) : NmK F' := by
  obtain ⟨a, c, d⟩ := h
  have ht := tn_same e1 e2 e3
  refine ⟨fun n hn => by rw [e _ (by omega), ht]; exact a n hn, fun n hn q => by rw [nmF_same n hn e]; exact c n hn ((ht n).mp q), fun n k hn hk q1 q2 q3 => ?_⟩
  rw [nmF_same n hn e, nmF_same k hk e] at q3
  exact d n k hn hk ((ht n).mp q1) ((ht k).mp q2) q3
theorem keepF_o {tp : Nat → Nat} {sz e n x : Nat} (h1 : x ≠ 192 + n) (h2 : ¬ (209 + 8 * n ≤ x ∧ x < 209 + 8 * n + (tE tp sz e - tA tp sz e))) : keepF tp sz F e n x = F x := by
  unfold keepF; rw [if_neg h1, if_neg h2]
theorem nmF_keep {tp : Nat → Nat} {sz e n : Nat} (hn : n < 17) (ek : ∀ x, 192 ≤ x → F' x = keepF tp sz F e n x) : F' (192 + n) = tE tp sz e - tA tp sz e ∧ nmF F' n = tL tp sz e := by
  have e1 : F' (192 + n) = tE tp sz e - tA tp sz e := by rw [ek _ (by omega)]; unfold keepF; rw [if_pos rfl]
  refine ⟨e1, ?_⟩
  unfold nmF tL
  rw [e1]
  unfold wrd
  apply List.map_congr_left
  intro i hi
  have hi := List.mem_range.mp hi
  rw [ek _ (by omega)]
  unfold keepF
  rw [if_neg (by omega), if_pos ⟨by omega, by omega⟩]
  congr 1; omega
theorem NmK.keep {tp : Nat → Nat} {sz e n : Nat} (h : NmK F) (hn : n < 17) (hl : tE tp sz e - tA tp sz e ≤ 8) (hl1 : 1 ≤ tE tp sz e - tA tp sz e) (hw : wok (tL tp sz e)) (hf : fnd tp sz F e = none) (ek : ∀ x, 192 ≤ x → F' x = keepF tp sz F e n x) (ht : ∀ x, x < 17 → (tn F' x ↔ tn F x ∨ x = n)) (hnn : ¬ tn F n) : NmK F' := by
  obtain ⟨a, c, d⟩ := h
  obtain ⟨e1, e2⟩ := nmF_keep hn ek
  have e3 : ∀ x, x < 17 → x ≠ n → F' (192 + x) = F (192 + x) := fun x hx hxn => by
    rw [ek _ (by omega)]; exact keepF_o (by omega) (by omega)
  have e4 : ∀ x, x < 17 → x ≠ n → tn F x → nmF F' x = nmF F x := fun x hx hxn hxt => by
    have hx8 := (c x hx hxt).1
    unfold nmF at hx8 ⊢
    rw [wrd_len] at hx8
    rw [e3 x hx hxn]
    exact wrd_congr (fun i hi => by rw [ek _ (by omega)]; exact keepF_o (by omega) (by omega))
  have hno : ∀ x, x < 17 → tn F x → nmF F x ≠ tL tp sz e := fun x hx hxt q => by
    have := fup_none hf x (Nat.zero_le _) (by omega)
    rw [decide_eq_true ((a x hx).mpr hxt), decide_eq_true q] at this
    cases this
  refine ⟨fun x hx => ?_, fun x hx q => ?_, fun x k hx hk q1 q2 q3 => ?_⟩
  · rw [ht x hx]
    by_cases q : x = n
    · subst q; rw [e1]; exact ⟨fun _ => Or.inr rfl, fun _ => by omega⟩
    · rw [e3 x hx q, a x hx]; exact ⟨Or.inl, fun z => z.resolve_right q⟩
  · by_cases qn : x = n
    · subst qn; rw [e2]; exact hw
    · have q2 := ((ht x hx).mp q).resolve_right qn
      rw [e4 x hx qn q2]; exact c x hx q2
  · by_cases qn : x = n
    · by_cases kn : k = n
      · rw [qn, kn]
      · have k2 := ((ht k hk).mp q2).resolve_right kn
        subst qn
        rw [e2, e4 k hk kn k2] at q3
        exact absurd q3.symm (hno k hk k2)
    · have x2 := ((ht x hx).mp q1).resolve_right qn
      by_cases kn : k = n
      · subst kn
        rw [e2, e4 x hx qn x2] at q3
        exact absurd q3 (hno x hx x2)
      · have k2 := ((ht k hk).mp q2).resolve_right kn
        rw [e4 x hx qn x2, e4 k hk kn k2] at q3
        exact d x k hx hk x2 k2 q3
end
/-! what the readers' pieces answer -/
section
variable {tp : Nat → Nat} {sz : Nat} {s u : PS}
/-- s has gone on to u: nothing is told by that -/
def Ad (sz : Nat) (s u : PS) : Prop := u.2 = s.2 ∧ s.1 ≤ u.1 ∧ u.1 ≤ sz
theorem Ad.trans {r : PS} (h : Ad sz s u) (h2 : Ad sz u r) : Ad sz s r := ⟨h2.1.trans h.1, Nat.le_trans h.2.1 h2.2.1, h2.2.2⟩
theorem ad_nx (hb : ∀ i, i < sz → tp i < 256) (he : s.1 ≤ sz) : Ad sz s (nx tp sz s) := by
  have h1 := tA_b (tp := tp) he
  have h2 := tE_b hb he
  exact ⟨rfl, by show s.1 ≤ tE tp sz s.1; omega, h2.2.1⟩
theorem qWord_i {w : List Nat} (h : qWord tp sz w s = .inr u) : u = nx tp sz s ∧ isW tp sz w s.1 = true := by
  unfold qWord at h
  split at h
  · next q => cases h; exact ⟨rfl, q⟩
  · cases h
theorem qNum_i {lo hi : Nat} {v : Nat × PS} (h : qNum tp sz lo hi s = .inr v) : v.2 = nx tp sz s ∧ v.1 = tW tp sz s.1 ∧ lo ≤ v.1 ∧ v.1 ≤ hi ∧ tK tp sz s.1 = 3 := by
  unfold qNum at h
  split at h
  · next q =>
    split at h
    · next q2 => cases h; exact ⟨rfl, rfl, q2.1, q2.2, q⟩
    · cases h
  · cases h
theorem qWhole_i {w : List Nat} {lo hi : Nat} {v : Nat × PS} (hb : ∀ i, i < sz → tp i < 256) (he : s.1 ≤ sz) (h : qWhole tp sz w lo hi s = .inr v) : Ad sz s v.2 ∧ lo ≤ v.1 ∧ v.1 ≤ hi := by
  obtain ⟨u, h1, h2⟩ := bnd_i h
  obtain ⟨rfl, -⟩ := qWord_i h1
  have a1 := ad_nx (tp := tp) hb he
  obtain ⟨e2, -, q1, q2, -⟩ := qNum_i h2
  rw [e2]
  exact ⟨a1.trans (ad_nx hb a1.2.2), q1, q2⟩
theorem qNew_i (h : qNew tp sz s = .inr u) : u = s ∧ nmok tp sz s.1 = true ∧ fnd tp sz s.2.1 s.1 = none := by
  unfold qNew at h
  split at h
  · next q =>
    split at h
    · next q2 => cases h; exact ⟨rfl, q, q2⟩
    · cases h
  · cases h
theorem qTold_i {t but : Nat} {v : Nat × PS} (h : qTold tp sz t but s = .inr v) : v.2 = nx tp sz s ∧ nmok tp sz s.1 = true ∧ fnd tp sz s.2.1 s.1 = some (bas t + v.1) ∧ v.1 < rom t ∧ but.testBit v.1 = false := by
  unfold qTold at h
  split at h
  · next q =>
    split at h
    · cases h
    · next n q2 =>
      split at h
      · next q3 =>
        split at h
        · cases h
        · next q4 =>
          cases h
          refine ⟨rfl, q, by rw [q2]; congr 1; show n = bas t + (n - bas t); omega, by show n - bas t < rom t; omega, by simpa using q4⟩
      · cases h
  · cases h
theorem fnd_tn {F : bkF} {e n : Nat} (h : NmK F) (hf : fnd tp sz F e = some n) : n < 17 ∧ tn F n ∧ nmF F n = tL tp sz e := by
  obtain ⟨-, h2, h3⟩ := fup_some hf
  rw [Bool.and_eq_true, decide_eq_true_eq, decide_eq_true_eq] at h3
  exact ⟨by omega, (h.1 n (by omega)).mp h3.1, h3.2⟩
theorem nmok_2 {e : Nat} (h : nmok tp sz e = true) : tK tp sz e = 2 := by
  unfold nmok at h
  rw [Bool.and_eq_true, decide_eq_true_eq] at h
  exact h.1
/-- a told name's number -/
theorem told_lt {t but : Nat} {v : Nat × PS} (hi : PInv sz s) (ht : t < 3) (h : qTold tp sz t but s = .inr v) : v.1 < s.2.1 (1 + t) := by
  obtain ⟨-, -, h3, h4, -⟩ := qTold_i h
  obtain ⟨q1, q2, -⟩ := fnd_tn hi.2.2.2.2.2.2.1 h3
  have hF := hi.2.1
  have o1 := hF.2.1
  have o2 := hF.2.2.1
  unfold tn at q2
  match t, ht with
  | 0, _ => simp only [bas, rom, if_true] at h4 q2; show v.1 < s.2.1 1; omega
  | 1, _ => simp [bas, rom] at h4 q2; show v.1 < s.2.1 2; omega
  | 2, _ => simp [bas, rom] at h4 q2; show v.1 < s.2.1 3; omega
theorem qKind_i {v : Nat × PS} (h : qKind tp sz s = .inr v) : v.2 = nx tp sz s ∧ v.1 < 5 := by
  unfold qKind at h
  split at h; · cases h; exact ⟨rfl, (by decide : 0 < 5)⟩
  split at h; · cases h; exact ⟨rfl, (by decide : 1 < 5)⟩
  split at h; · cases h; exact ⟨rfl, (by decide : 2 < 5)⟩
  split at h; · cases h; exact ⟨rfl, (by decide : 3 < 5)⟩
  split at h; · cases h; exact ⟨rfl, (by decide : 4 < 5)⟩
  cases h
theorem qChild_i (hb : ∀ i, i < sz → tp i < 256) (he : s.1 ≤ sz) : Ad sz s (qChild tp sz s).2 ∧ (qChild tp sz s).1 < 2 := by
  unfold qChild
  split
  · exact ⟨ad_nx hb he, (by decide : 1 < 2)⟩
  · exact ⟨⟨rfl, Nat.le_refl _, he⟩, (by decide : 0 < 2)⟩
theorem qHabit_i {v : Nat × PS} (hb : ∀ i, i < sz → tp i < 256) (he : s.1 ≤ sz) (h : qHabit tp sz s = .inr v) : Ad sz s v.2 ∧ v.1 < 5 := by
  unfold qHabit at h
  split at h
  · have := qWhole_i hb he h; exact ⟨this.1, by omega⟩
  · cases h; exact ⟨⟨rfl, Nat.le_refl _, he⟩, (by decide : 0 < 5)⟩
theorem bit5 : ∀ x, x < 32 → ∀ k, k < 5 → x ||| 2 ^ k < 32 := by decide +kernel
theorem lDoes_i (hb : ∀ i, i < sz → tp i < 256) : ∀ (n set : Nat) (s : PS) (v : Nat × PS), s.1 ≤ sz → set < 32 → lDoes tp sz n set s = .inr v → Ad sz s v.2 ∧ v.1 < 32
  | 0, set, s, v, he, hs, h => by cases h; exact ⟨⟨rfl, Nat.le_refl _, he⟩, hs⟩
  | n + 1, set, s, v, he, hs, h => by
    obtain ⟨k, h1, h2⟩ := bnd_i h
    obtain ⟨e1, -, -, e4, -⟩ := qTold_i h1
    have a1 := ad_nx (tp := tp) hb he
    rw [← e1] at a1
    have b5 := bit5 set hs k.1 (by simpa [rom] using e4)
    split at h2
    · have a2 := a1.trans (ad_nx (tp := tp) hb a1.2.2)
      have := lDoes_i hb n _ _ v a2.2.2 b5 h2
      exact ⟨a2.trans this.1, this.2⟩
    · cases h2; exact ⟨a1, b5⟩
theorem qDoes_i {v : Nat × PS} (hb : ∀ i, i < sz → tp i < 256) (he : s.1 ≤ sz) (h : qDoes tp sz s = .inr v) : Ad sz s v.2 ∧ v.1 < 32 := by
  unfold qDoes at h
  split at h
  · have a := ad_nx (tp := tp) hb he
    have := lDoes_i hb 6 0 _ v a.2.2 (by decide) h
    exact ⟨a.trans this.1, this.2⟩
  · cases h; exact ⟨⟨rfl, Nat.le_refl _, he⟩, (by decide : 0 < 32)⟩
end
