/-! the world once it is made: 172 cells, their shapes, the references that stay -/
def NN : Nat := 172
def shl : List (Nat ⊕ (Nat × Nat)) := [.inl 11, .inr (2, 900), .inl 0, .inr (4, 6), .inr (5, 6), .inr (6, 12), .inr (7, 8), .inr (0, 8), .inr (0, 8), .inr (0, 8), .inl 2, .inr (0, 20), .inr (0, 6), .inl 3, .inl 3, .inl 3, .inl 3, .inl 3, .inl 3, .inl 4, .inl 4, .inl 4, .inl 4, .inl 4, .inl 4, .inl 6, .inl 6, .inl 6, .inl 6, .inl 6, .inl 6, .inl 6, .inl 6, .inl 6, .inl 6, .inl 6, .inl 6, .inl 8, .inl 8, .inl 8, .inl 8, .inl 8, .inl 8, .inl 8, .inl 8, .inl 0, .inr (4, 6), .inr (5, 6), .inr (6, 12), .inr (7, 8), .inr (0, 8), .inr (0, 8), .inr (0, 8), .inl 2, .inr (0, 20), .inr (0, 6), .inl 3, .inl 3, .inl 3, .inl 3, .inl 3, .inl 3, .inl 4, .inl 4, .inl 4, .inl 4, .inl 4, .inl 4, .inl 6, .inl 6, .inl 6, .inl 6, .inl 6, .inl 6, .inl 6, .inl 6, .inl 6, .inl 6, .inl 6, .inl 6, .inl 8, .inl 8, .inl 8, .inl 8, .inl 8, .inl 8, .inl 8, .inl 8, .inl 7, .inl 9, .inr (2, 0), .inr (1, 30), .inr (0, 30), .inr (0, 30), .inl 1, .inr (8, 13), .inr (8, 3), .inl 2, .inr (0, 20), .inr (0, 6), .inl 2, .inr (0, 20), .inr (0, 6), .inl 2, .inr (0, 20), .inr (0, 6), .inl 2, .inr (0, 20), .inr (0, 6), .inl 2, .inr (0, 20), .inr (0, 6), .inl 2, .inr (0, 20), .inr (0, 6), .inl 2, .inr (0, 20), .inr (0, 6), .inl 2, .inr (0, 20), .inr (0, 6), .inl 2, .inr (0, 20), .inr (0, 6), .inl 2, .inr (0, 20), .inr (0, 6), .inl 2, .inr (0, 20), .inr (0, 6), .inl 2, .inr (0, 20), .inr (0, 6), .inl 2, .inr (0, 20), .inr (0, 6), .inl 2, .inr (0, 20), .inr (0, 6), .inl 2, .inr (0, 20), .inr (0, 6), .inl 2, .inr (0, 20), .inr (0, 6), .inl 5, .inr (0, 6), .inr (0, 36), .inr (0, 6), .inr (0, 448), .inl 10, .inr (0, 6), .inr (0, 6), .inr (0, 8), .inr (0, 6), .inr (3, 6), .inr (0, 6), .inl 12, .inr (0, 900), .inr (0, 8), .inr (0, 345), .inr (0, 345), .inr (0, 87), .inr (0, 87), .inr (0, 87), .inr (0, 1044), .inr (0, 1044), .inr (0, 261), .inr (0, 448), .inr (0, 42), .inr (1, 448), .inr (1, 1)]
def SH : HS := fun k => shl.getD k (.inr (99, 0))
theorem sh_out {a : Nat} (h : ¬ a < NN) : SH a = .inr (99, 0) := by
  unfold SH
  rw [List.getD_eq_getElem?_getD, List.getElem?_eq_none (show shl.length ≤ a from Nat.not_lt.mp h)]
  rfl
theorem sh_lto {a c : Nat} (h : SH a = .inl c) : a < NN := by
  by_cases ha : a < NN
  · exact ha
  · rw [sh_out ha] at h; cases h
theorem sh_lta {a t len : Nat} (h : SH a = .inr (t, len)) (ht : t < 9) : a < NN := by
  by_cases ha : a < NN
  · exact ha
  · rw [sh_out ha] at h; cases h; omega
theorem sh_led : ∀ a, a < 172 → SH a = .inl 2 → SH (a + 1) = .inr (0, 20) ∧ SH (a + 2) = .inr (0, 6) := by decide +kernel
theorem led_1 {a : Nat} (h : SH a = .inl 2) : SH (a + 1) = .inr (0, 20) := (sh_led a (sh_lto h) h).1
theorem led_2 {a : Nat} (h : SH a = .inl 2) : SH (a + 2) = .inr (0, 6) := (sh_led a (sh_lto h) h).2
theorem sh_b2 : ∀ q, q < 172 → SH q = .inl 0 → q = 2 ∨ q = 45 := by decide +kernel
theorem sh_bk : ∀ a, a < 172 → SH a = .inl 0 → SH (a + 1) = .inr (4, 6) ∧ SH (a + 2) = .inr (5, 6) ∧ SH (a + 3) = .inr (6, 12) ∧ SH (a + 4) = .inr (7, 8) ∧ SH (a + 5) = .inr (0, 8) ∧ SH (a + 6) = .inr (0, 8) ∧ SH (a + 7) = .inr (0, 8) ∧ SH (a + 8) = .inl 2 ∧ (∀ i, i < 6 → SH (a + 11 + i) = .inl 3) ∧ (∀ i, i < 6 → SH (a + 17 + i) = .inl 4) ∧ (∀ i, i < 12 → SH (a + 23 + i) = .inl 6) ∧ (∀ i, i < 8 → SH (a + 35 + i) = .inl 8) := by
  intro a h1 h2
  rcases sh_b2 a h1 h2 with rfl | rfl <;> refine ⟨by decide, by decide, by decide, by decide, by decide, by decide, by decide, by decide, by decide, by decide, by decide, by decide⟩
theorem bk_1 {a : Nat} (h : SH a = .inl 0) : SH (a + 1) = .inr (4, 6) := (sh_bk a (sh_lto h) h).1
theorem bk_2 {a : Nat} (h : SH a = .inl 0) : SH (a + 2) = .inr (5, 6) := (sh_bk a (sh_lto h) h).2.1
theorem bk_3 {a : Nat} (h : SH a = .inl 0) : SH (a + 3) = .inr (6, 12) := (sh_bk a (sh_lto h) h).2.2.1
theorem bk_4 {a : Nat} (h : SH a = .inl 0) : SH (a + 4) = .inr (7, 8) := (sh_bk a (sh_lto h) h).2.2.2.1
theorem bk_5 {a : Nat} (h : SH a = .inl 0) : SH (a + 5) = .inr (0, 8) := (sh_bk a (sh_lto h) h).2.2.2.2.1
theorem bk_6 {a : Nat} (h : SH a = .inl 0) : SH (a + 6) = .inr (0, 8) := (sh_bk a (sh_lto h) h).2.2.2.2.2.1
theorem bk_7 {a : Nat} (h : SH a = .inl 0) : SH (a + 7) = .inr (0, 8) := (sh_bk a (sh_lto h) h).2.2.2.2.2.2.1
theorem bk_8 {a : Nat} (h : SH a = .inl 0) : SH (a + 8) = .inl 2 := (sh_bk a (sh_lto h) h).2.2.2.2.2.2.2.1
theorem bk_m {a i : Nat} (h : SH a = .inl 0) (hi : i < 6) : SH (a + 11 + i) = .inl 3 := (sh_bk a (sh_lto h) h).2.2.2.2.2.2.2.2.1 i hi
theorem bk_p {a i : Nat} (h : SH a = .inl 0) (hi : i < 6) : SH (a + 17 + i) = .inl 4 := (sh_bk a (sh_lto h) h).2.2.2.2.2.2.2.2.2.1 i hi
theorem bk_o {a i : Nat} (h : SH a = .inl 0) (hi : i < 12) : SH (a + 23 + i) = .inl 6 := (sh_bk a (sh_lto h) h).2.2.2.2.2.2.2.2.2.2.1 i hi
theorem bk_s {a i : Nat} (h : SH a = .inl 0) (hi : i < 8) : SH (a + 35 + i) = .inl 8 := (sh_bk a (sh_lto h) h).2.2.2.2.2.2.2.2.2.2.2 i hi
/-- the references that never change -/
def RO (R : HR) : Prop :=
  (∀ a, SH a = .inl 2 → R a 1 = some (a + 1) ∧ R a 2 = some (a + 2)) ∧
  (∀ a, SH a = .inl 0 → R a 7 = some (a + 1) ∧ R a 8 = some (a + 2) ∧ R a 9 = some (a + 3) ∧ R a 10 = some (a + 4) ∧ R a 11 = some (a + 5) ∧ R a 12 = some (a + 6) ∧ R a 13 = some (a + 7) ∧ R a 14 = some (a + 8) ∧
    (∀ i, i < 6 → R (a + 1) i = some (a + 11 + i)) ∧ (∀ i, i < 6 → R (a + 2) i = some (a + 17 + i)) ∧ (∀ i, i < 12 → R (a + 3) i = some (a + 23 + i)) ∧ (∀ i, i < 8 → R (a + 4) i = some (a + 35 + i))) ∧
  (R 0 0 = some 1 ∧ R 0 7 = some 88 ∧ R 0 8 = some 94 ∧ R 0 9 = some 145 ∧ R 0 10 = some 150) ∧
  (R 88 3 = some 89 ∧ R 88 4 = some 91 ∧ R 88 5 = some 92 ∧ R 88 6 = some 93) ∧
  (R 94 0 = some 95 ∧ R 94 4 = some 96 ∧ (∀ i, i < 13 → R 95 i = some (97 + 3 * i)) ∧ (∀ i, i < 3 → R 96 i = some (136 + 3 * i))) ∧
  (R 145 1 = some 146 ∧ R 145 2 = some 147 ∧ R 145 3 = some 148 ∧ R 145 4 = some 149) ∧
  (R 150 3 = some 151 ∧ R 150 4 = some 152 ∧ R 150 5 = some 153 ∧ R 150 6 = some 154 ∧ R 150 7 = some 155 ∧ R 150 8 = some 156) ∧
  (R 157 1 = some 158 ∧ R 157 12 = some 159 ∧ R 157 15 = some 160 ∧ R 157 16 = some 161 ∧ R 157 17 = some 162 ∧ R 157 18 = some 163 ∧ R 157 19 = some 164 ∧ R 157 20 = some 165 ∧ R 157 21 = some 166 ∧ R 157 22 = some 167 ∧ R 157 26 = some 168 ∧ R 157 27 = some 169 ∧ R 157 32 = some 170)
theorem ro_X2_1 {R : HR} {a : Nat} (hR : RO R) (h : SH a = .inl 2) : R a 1 = some (a + 1) := (hR.1 a h).1
theorem ro_X2_2 {R : HR} {a : Nat} (hR : RO R) (h : SH a = .inl 2) : R a 2 = some (a + 2) := (hR.1 a h).2
theorem ro_X0_7 {R : HR} {a : Nat} (hR : RO R) (h : SH a = .inl 0) : R a 7 = some (a + 1) := (hR.2.1 a h).1
theorem ro_X0_8 {R : HR} {a : Nat} (hR : RO R) (h : SH a = .inl 0) : R a 8 = some (a + 2) := (hR.2.1 a h).2.1
theorem ro_X0_9 {R : HR} {a : Nat} (hR : RO R) (h : SH a = .inl 0) : R a 9 = some (a + 3) := (hR.2.1 a h).2.2.1
theorem ro_X0_10 {R : HR} {a : Nat} (hR : RO R) (h : SH a = .inl 0) : R a 10 = some (a + 4) := (hR.2.1 a h).2.2.2.1
theorem ro_X0_11 {R : HR} {a : Nat} (hR : RO R) (h : SH a = .inl 0) : R a 11 = some (a + 5) := (hR.2.1 a h).2.2.2.2.1
theorem ro_X0_12 {R : HR} {a : Nat} (hR : RO R) (h : SH a = .inl 0) : R a 12 = some (a + 6) := (hR.2.1 a h).2.2.2.2.2.1
theorem ro_X0_13 {R : HR} {a : Nat} (hR : RO R) (h : SH a = .inl 0) : R a 13 = some (a + 7) := (hR.2.1 a h).2.2.2.2.2.2.1
theorem ro_X0_14 {R : HR} {a : Nat} (hR : RO R) (h : SH a = .inl 0) : R a 14 = some (a + 8) := (hR.2.1 a h).2.2.2.2.2.2.2.1
theorem ro_m {R : HR} {a i : Nat} (hR : RO R) (h : SH a = .inl 0) (hi : i < 6) : R (a + 1) i = some (a + 11 + i) := (hR.2.1 a h).2.2.2.2.2.2.2.2.1 i hi
theorem ro_p {R : HR} {a i : Nat} (hR : RO R) (h : SH a = .inl 0) (hi : i < 6) : R (a + 2) i = some (a + 17 + i) := (hR.2.1 a h).2.2.2.2.2.2.2.2.2.1 i hi
theorem ro_o {R : HR} {a i : Nat} (hR : RO R) (h : SH a = .inl 0) (hi : i < 12) : R (a + 3) i = some (a + 23 + i) := (hR.2.1 a h).2.2.2.2.2.2.2.2.2.2.1 i hi
theorem ro_s {R : HR} {a i : Nat} (hR : RO R) (h : SH a = .inl 0) (hi : i < 8) : R (a + 4) i = some (a + 35 + i) := (hR.2.1 a h).2.2.2.2.2.2.2.2.2.2.2 i hi
theorem ro_X11_0 {R : HR} (hR : RO R) : R 0 0 = some 1 := hR.2.2.1.1
theorem ro_X11_7 {R : HR} (hR : RO R) : R 0 7 = some 88 := hR.2.2.1.2.1
theorem ro_X11_8 {R : HR} (hR : RO R) : R 0 8 = some 94 := hR.2.2.1.2.2.1
theorem ro_X11_9 {R : HR} (hR : RO R) : R 0 9 = some 145 := hR.2.2.1.2.2.2.1
theorem ro_X11_10 {R : HR} (hR : RO R) : R 0 10 = some 150 := hR.2.2.1.2.2.2.2
theorem ro_X7_3 {R : HR} (hR : RO R) : R 88 3 = some 89 := hR.2.2.2.1.1
theorem ro_X7_4 {R : HR} (hR : RO R) : R 88 4 = some 91 := hR.2.2.2.1.2.1
theorem ro_X7_5 {R : HR} (hR : RO R) : R 88 5 = some 92 := hR.2.2.2.1.2.2.1
theorem ro_X7_6 {R : HR} (hR : RO R) : R 88 6 = some 93 := hR.2.2.2.1.2.2.2
theorem ro_X1_0 {R : HR} (hR : RO R) : R 94 0 = some 95 := hR.2.2.2.2.1.1
theorem ro_X1_4 {R : HR} (hR : RO R) : R 94 4 = some 96 := hR.2.2.2.2.1.2.1
theorem ro_X5_1 {R : HR} (hR : RO R) : R 145 1 = some 146 := hR.2.2.2.2.2.1.1
theorem ro_X5_2 {R : HR} (hR : RO R) : R 145 2 = some 147 := hR.2.2.2.2.2.1.2.1
theorem ro_X5_3 {R : HR} (hR : RO R) : R 145 3 = some 148 := hR.2.2.2.2.2.1.2.2.1
theorem ro_X5_4 {R : HR} (hR : RO R) : R 145 4 = some 149 := hR.2.2.2.2.2.1.2.2.2
theorem ro_X10_3 {R : HR} (hR : RO R) : R 150 3 = some 151 := hR.2.2.2.2.2.2.1.1
theorem ro_X10_4 {R : HR} (hR : RO R) : R 150 4 = some 152 := hR.2.2.2.2.2.2.1.2.1
theorem ro_X10_5 {R : HR} (hR : RO R) : R 150 5 = some 153 := hR.2.2.2.2.2.2.1.2.2.1
theorem ro_X10_6 {R : HR} (hR : RO R) : R 150 6 = some 154 := hR.2.2.2.2.2.2.1.2.2.2.1
theorem ro_X10_7 {R : HR} (hR : RO R) : R 150 7 = some 155 := hR.2.2.2.2.2.2.1.2.2.2.2.1
theorem ro_X10_8 {R : HR} (hR : RO R) : R 150 8 = some 156 := hR.2.2.2.2.2.2.1.2.2.2.2.2
theorem ro_X12_1 {R : HR} (hR : RO R) : R 157 1 = some 158 := hR.2.2.2.2.2.2.2.1
theorem ro_X12_12 {R : HR} (hR : RO R) : R 157 12 = some 159 := hR.2.2.2.2.2.2.2.2.1
theorem ro_X12_15 {R : HR} (hR : RO R) : R 157 15 = some 160 := hR.2.2.2.2.2.2.2.2.2.1
theorem ro_X12_16 {R : HR} (hR : RO R) : R 157 16 = some 161 := hR.2.2.2.2.2.2.2.2.2.2.1
theorem ro_X12_17 {R : HR} (hR : RO R) : R 157 17 = some 162 := hR.2.2.2.2.2.2.2.2.2.2.2.1
theorem ro_X12_18 {R : HR} (hR : RO R) : R 157 18 = some 163 := hR.2.2.2.2.2.2.2.2.2.2.2.2.1
theorem ro_X12_19 {R : HR} (hR : RO R) : R 157 19 = some 164 := hR.2.2.2.2.2.2.2.2.2.2.2.2.2.1
theorem ro_X12_20 {R : HR} (hR : RO R) : R 157 20 = some 165 := hR.2.2.2.2.2.2.2.2.2.2.2.2.2.2.1
theorem ro_X12_21 {R : HR} (hR : RO R) : R 157 21 = some 166 := hR.2.2.2.2.2.2.2.2.2.2.2.2.2.2.2.1
theorem ro_X12_22 {R : HR} (hR : RO R) : R 157 22 = some 167 := hR.2.2.2.2.2.2.2.2.2.2.2.2.2.2.2.2.1
theorem ro_X12_26 {R : HR} (hR : RO R) : R 157 26 = some 168 := hR.2.2.2.2.2.2.2.2.2.2.2.2.2.2.2.2.2.1
theorem ro_X12_27 {R : HR} (hR : RO R) : R 157 27 = some 169 := hR.2.2.2.2.2.2.2.2.2.2.2.2.2.2.2.2.2.2.1
theorem ro_X12_32 {R : HR} (hR : RO R) : R 157 32 = some 170 := hR.2.2.2.2.2.2.2.2.2.2.2.2.2.2.2.2.2.2.2
theorem ro_ring {R : HR} {i : Nat} (hR : RO R) (hi : i < 13) : R 95 i = some (97 + 3 * i) := hR.2.2.2.2.1.2.2.1 i hi
theorem ro_imgs {R : HR} {i : Nat} (hR : RO R) (hi : i < 3) : R 96 i = some (136 + 3 * i) := hR.2.2.2.2.1.2.2.2 i hi
theorem sh_ring : ∀ i, i < 13 → SH (97 + 3 * i) = .inl 2 := by decide +kernel
theorem sh_imgs : ∀ i, i < 3 → SH (136 + 3 * i) = .inl 2 := by decide +kernel
/-- what may change among the references: a method that writes one of these keeps RO -/
theorem RO.up {R : HR} (h : RO R) {a k : Nat} {v : Option Nat} (hm : (a = 0 ∧ (k = 5 ∨ k = 6)) ∨ (a = 88 ∧ k = 2) ∨ (a = 89 ∧ k = 0) ∨ (a = 145 ∧ k = 0) ∨ (a = 150 ∧ k = 0)) : RO (ur R a k v) := by
  have hs : SH a ≠ .inl 2 ∧ SH a ≠ .inl 0 ∧ (∀ q, SH q = .inl 0 → q + 1 ≠ a ∧ q + 2 ≠ a ∧ q + 3 ≠ a ∧ q + 4 ≠ a) ∧ a ≠ 94 ∧ a ≠ 95 ∧ a ≠ 96 ∧ a ≠ 157 := by
    have key : ∀ q, q < 172 → SH q = .inl 0 → q = 2 ∨ q = 45 := by decide +kernel
    rcases hm with ⟨rfl, _⟩ | ⟨rfl, _⟩ | ⟨rfl, _⟩ | ⟨rfl, _⟩ | ⟨rfl, _⟩ <;> refine ⟨by decide, by decide, fun q hq => ?_, by decide, by decide, by decide, by decide⟩ <;> rcases key q (sh_lto hq) hq with rfl | rfl <;> decide
  obtain ⟨n2, n0, nb, n94, n95, n96, n157⟩ := hs
  have e1 : ∀ q j, q ≠ a → ur R a k v q j = R q j := fun q j hq => by simp [ur, hq]
  obtain ⟨h1, h2, h3, h4, h5, h6, h7, h8⟩ := h
  refine ⟨fun q hq => ?_, fun q hq => ?_, ?_, ?_, ?_, ?_, ?_, ?_⟩
  · have : q ≠ a := fun e => n2 (e ▸ hq)
    rw [e1 _ _ this, e1 _ _ this]; exact h1 q hq
  · have hqa : q ≠ a := fun e => n0 (e ▸ hq)
    obtain ⟨b1, b2, b3, b4⟩ := nb q hq
    simp only [e1 _ _ hqa, e1 _ _ b1, e1 _ _ b2, e1 _ _ b3, e1 _ _ b4]
    exact h2 q hq
  · by_cases e : a = 0
    · subst e
      have hk : k = 5 ∨ k = 6 := by omega
      rcases hk with rfl | rfl <;> simpa [ur, va_up] using h3
    · simp only [e1 _ _ (fun z => e z.symm)]; exact h3
  · by_cases e : a = 88
    · subst e
      have hk : k = 2 := by omega
      subst hk; simpa [ur, va_up] using h4
    · simp only [e1 _ _ (fun z => e z.symm)]; exact h4
  · simp only [e1 _ _ (fun z => n94 z.symm), e1 _ _ (fun z => n95 z.symm), e1 _ _ (fun z => n96 z.symm)]; exact h5
  · by_cases e : a = 145
    · subst e
      have hk : k = 0 := by omega
      subst hk; simpa [ur, va_up] using h6
    · simp only [e1 _ _ (fun z => e z.symm)]; exact h6
  · by_cases e : a = 150
    · subst e
      have hk : k = 0 := by omega
      subst hk; simpa [ur, va_up] using h7
    · simp only [e1 _ _ (fun z => e z.symm)]; exact h7
  · simp only [e1 _ _ (fun z => n157 z.symm)]; exact h8
abbrev VV (y : MethodName) (cc : ByteArray) (nL : Nat) (ret : Option FieldType) (k : Nat) (Q : QT) (b : Nat) (ad : Nat → Nat) (pc : Nat) (lv : List (Option Value)) (st : List Value) (I : HI) (L : HL) (R : HR) : Prop := V y cc nL ret k 0 0 NN Q b ad false 0 0 pc lv st NN SH I L R
abbrev KK (k : Nat) (M : MethodName × ByteArray × Nat × Option FieldType) (b : Nat) (ad : Nat → Nat) (av : List Value) (I : HI) (L : HL) (R : HR) (Q : QT) : Prop := C k M.1 M.2.1 M.2.2.1 M.2.2.2 0 0 b ad false av NN SH I L R Q
section
variable {y : MethodName} {cc : ByteArray} {nL : Nat} {ret : Option FieldType} {k mc ms NF : Nat} {Q : QT} {b : Nat} {ad : Nat → Nat} {x0 : Bool} {cu su pc : Nat} {lv tl : List (Option Value)} {st rest : List Value} {N : Nat} {sh : HS} {I : HI} {L : HL} {R : HR}
variable {y' : MethodName} {cc' : ByteArray} {nL' : Nat} {ret' : Option FieldType} {k' : Nat}
theorem K.of {M : MethodName × ByteArray × Nat × Option FieldType} {av : List Value} (hp : plainName M.1.cls = true) (hl : (lg_sl av).length ≤ M.2.2.1) (hlv : lvE av M.2.2.1 = lv) (h : VV M.1 M.2.1 M.2.2.1 M.2.2.2 k Q b ad 0 lv [] I L R) : KK k M b ad av I L R Q := C.of hp hl (by rw [hlv]; exact h)
theorem u_getI {a c j idx : Nat} (hd : decode cc pc = .ok (.getfield idx, 3)) (hf : GF y.cls idx c j 0) (hs : SH a = .inl c) (h : VV y cc nL ret k Q b ad (pc + 3) lv (.int (I a j) :: rest) I L R) : VV y cc nL ret k Q b ad pc lv (.ref (b + a) :: rest) I L R := v_getI hd hf hs (sh_lto hs) h
theorem u_getL {a c j idx : Nat} (hd : decode cc pc = .ok (.getfield idx, 3)) (hf : GF y.cls idx c j 1) (hs : SH a = .inl c) (h : VV y cc nL ret k Q b ad (pc + 3) lv (.long (L a j) :: rest) I L R) : VV y cc nL ret k Q b ad pc lv (.ref (b + a) :: rest) I L R := v_getL hd hf hs (sh_lto hs) h
theorem u_getR {a c j idx r : Nat} (hd : decode cc pc = .ok (.getfield idx, 3)) (hf : GF y.cls idx c j 2) (hs : SH a = .inl c) (hr : R a j = some r) (h : VV y cc nL ret k Q b ad (pc + 3) lv (.ref (b + r) :: rest) I L R) : VV y cc nL ret k Q b ad pc lv (.ref (b + a) :: rest) I L R := v_getR hd hf hs (sh_lto hs) hr h
theorem u_putI {a c j idx : Nat} {v : Int32} (hd : decode cc pc = .ok (.putfield idx, 3)) (hf : GF y.cls idx c j 0) (hs : SH a = .inl c) (hn : narrow (ftp c j) (.int v) = .int v) (hfit : fits (ftp c j) (.int v) = true) (hfin : ((xq c).2.1 j).2.2.2 = false) (h : VV y cc nL ret k Q b ad (pc + 3) lv rest (ui I a j v) L R) : VV y cc nL ret k Q b ad pc lv (.int v :: .ref (b + a) :: rest) I L R := v_putI hd hf hs (sh_lto hs) hn hfit (Or.inl hfin) h
theorem u_putL {a c j idx : Nat} {v : Int64} (hd : decode cc pc = .ok (.putfield idx, 3)) (hf : GF y.cls idx c j 1) (hs : SH a = .inl c) (hn : narrow (ftp c j) (.long v) = .long v) (hfit : fits (ftp c j) (.long v) = true) (hfin : ((xq c).2.1 j).2.2.2 = false) (h : VV y cc nL ret k Q b ad (pc + 3) lv rest I (ul L a j v) R) : VV y cc nL ret k Q b ad pc lv (.long v :: .ref (b + a) :: rest) I L R := v_putL hd hf hs (sh_lto hs) hn hfit (Or.inl hfin) h
theorem u_putR {a c j idx r : Nat} (hd : decode cc pc = .ok (.putfield idx, 3)) (hf : GF y.cls idx c j 2) (hs : SH a = .inl c) (hn : ∀ z : Nat, narrow (ftp c j) (.ref z) = .ref z) (hfit : ∀ z : Nat, fits (ftp c j) (.ref z) = true) (hfin : ((xq c).2.1 j).2.2.2 = false) (h : VV y cc nL ret k Q b ad (pc + 3) lv rest I L (ur R a j (some r))) : VV y cc nL ret k Q b ad pc lv (.ref (b + r) :: .ref (b + a) :: rest) I L R := v_putR hd hf hs (sh_lto hs) (hn _) (hfit _) (Or.inl hfin) h
theorem cl_of {x : Int32} {i len : Nat} (hx : x = nI i) (hi : i < len) (hlen : len < 2 ^ 31) : vp_in x len ∧ x.toNatClampNeg = i := by
  subst hx
  exact ⟨vp_in_nI hi hlen, nI_clamp (by omega)⟩
theorem u_iald {a len i : Nat} {x : Int32} (hd : decode cc pc = .ok (.iaload, 1)) (hs : SH a = .inr (0, len)) (hx : x = nI i) (hi : i < len) (hlen : len < 2 ^ 31) (h : VV y cc nL ret k Q b ad (pc + 1) lv (.int (I a i) :: rest) I L R) : VV y cc nL ret k Q b ad pc lv (.int x :: .ref (b + a) :: rest) I L R := by
  obtain ⟨q1, q2⟩ := cl_of hx hi hlen
  exact v_iald hd hs (sh_lta hs (by decide)) q1 (by rw [q2]; exact h)
theorem u_bald {a len i : Nat} {x : Int32} (hd : decode cc pc = .ok (.baload, 1)) (hs : SH a = .inr (2, len)) (hx : x = nI i) (hi : i < len) (hlen : len < 2 ^ 31) (h : VV y cc nL ret k Q b ad (pc + 1) lv (.int (I a i) :: rest) I L R) : VV y cc nL ret k Q b ad pc lv (.int x :: .ref (b + a) :: rest) I L R := by
  obtain ⟨q1, q2⟩ := cl_of hx hi hlen
  exact v_bald hd hs (sh_lta hs (by decide)) q1 (by rw [q2]; exact h)
theorem u_zald {a len i : Nat} {x : Int32} (hd : decode cc pc = .ok (.baload, 1)) (hs : SH a = .inr (3, len)) (hx : x = nI i) (hi : i < len) (hlen : len < 2 ^ 31) (h : VV y cc nL ret k Q b ad (pc + 1) lv (.int (I a i) :: rest) I L R) : VV y cc nL ret k Q b ad pc lv (.int x :: .ref (b + a) :: rest) I L R := by
  obtain ⟨q1, q2⟩ := cl_of hx hi hlen
  exact v_zald hd hs (sh_lta hs (by decide)) q1 (by rw [q2]; exact h)
theorem u_lald {a len i : Nat} {x : Int32} (hd : decode cc pc = .ok (.laload, 1)) (hs : SH a = .inr (1, len)) (hx : x = nI i) (hi : i < len) (hlen : len < 2 ^ 31) (h : VV y cc nL ret k Q b ad (pc + 1) lv (.long (L a i) :: rest) I L R) : VV y cc nL ret k Q b ad pc lv (.int x :: .ref (b + a) :: rest) I L R := by
  obtain ⟨q1, q2⟩ := cl_of hx hi hlen
  exact v_lald hd hs (sh_lta hs (by decide)) q1 (by rw [q2]; exact h)
theorem u_aald {a len i t r : Nat} {C : String} {x : Int32} (hd : decode cc pc = .ok (.aaload, 1)) (hs : SH a = .inr (t, len)) (ht : 4 ≤ t) (ht9 : t < 9) (hC : atys.getD t .int = .object C) (hx : x = nI i) (hi : i < len) (hlen : len < 2 ^ 31) (hr : R a i = some r) (h : VV y cc nL ret k Q b ad (pc + 1) lv (.ref (b + r) :: rest) I L R) : VV y cc nL ret k Q b ad pc lv (.int x :: .ref (b + a) :: rest) I L R := by
  obtain ⟨q1, q2⟩ := cl_of hx hi hlen
  exact v_aald hd hs (sh_lta hs ht9) ht ht9 hC q1 (by rw [q2]; exact hr) h
theorem u_iast {a len i : Nat} {x v : Int32} (hd : decode cc pc = .ok (.iastore, 1)) (hs : SH a = .inr (0, len)) (hx : x = nI i) (hi : i < len) (hlen : len < 2 ^ 31) (h : VV y cc nL ret k Q b ad (pc + 1) lv rest (ui I a i v) L R) : VV y cc nL ret k Q b ad pc lv (.int v :: .int x :: .ref (b + a) :: rest) I L R := by
  obtain ⟨q1, q2⟩ := cl_of hx hi hlen
  exact v_iast hd hs (sh_lta hs (by decide)) q1 (by rw [q2]; exact h)
theorem u_bast {a len i : Nat} {x v : Int32} (hd : decode cc pc = .ok (.bastore, 1)) (hs : SH a = .inr (2, len)) (hx : x = nI i) (hi : i < len) (hlen : len < 2 ^ 31) (h : VV y cc nL ret k Q b ad (pc + 1) lv rest (ui I a i v.toInt8.toInt32) L R) : VV y cc nL ret k Q b ad pc lv (.int v :: .int x :: .ref (b + a) :: rest) I L R := by
  obtain ⟨q1, q2⟩ := cl_of hx hi hlen
  exact v_bast hd hs (sh_lta hs (by decide)) q1 (by rw [q2, vp_nar_byte]; exact h)
theorem u_zast {a len i : Nat} {x v : Int32} (hd : decode cc pc = .ok (.bastore, 1)) (hs : SH a = .inr (3, len)) (hx : x = nI i) (hi : i < len) (hlen : len < 2 ^ 31) (hv : vp_nar .boolean v = v) (h : VV y cc nL ret k Q b ad (pc + 1) lv rest (ui I a i v) L R) : VV y cc nL ret k Q b ad pc lv (.int v :: .int x :: .ref (b + a) :: rest) I L R := by
  obtain ⟨q1, q2⟩ := cl_of hx hi hlen
  exact v_zast hd hs (sh_lta hs (by decide)) q1 (by rw [q2, hv]; exact h)
theorem u_last {a len i : Nat} {x : Int32} {v : Int64} (hd : decode cc pc = .ok (.lastore, 1)) (hs : SH a = .inr (1, len)) (hx : x = nI i) (hi : i < len) (hlen : len < 2 ^ 31) (h : VV y cc nL ret k Q b ad (pc + 1) lv rest I (ul L a i v) R) : VV y cc nL ret k Q b ad pc lv (.long v :: .int x :: .ref (b + a) :: rest) I L R := by
  obtain ⟨q1, q2⟩ := cl_of hx hi hlen
  exact v_last hd hs (sh_lta hs (by decide)) q1 (by rw [q2]; exact h)
theorem u_alen {a len t : Nat} (hd : decode cc pc = .ok (.arraylength, 1)) (hs : SH a = .inr (t, len)) (ht : t < 9) (h : VV y cc nL ret k Q b ad (pc + 1) lv (.int (nI len) :: rest) I L R) : VV y cc nL ret k Q b ad pc lv (.ref (b + a) :: rest) I L R := v_alen hd hs (sh_lta hs ht) ht h
theorem u_callV_0 {a ci idx : Nat} (hd : decode cc pc = .ok (.invokevirtual idx, 3)) (hl : Cond.methodLink y.cls idx y' ∈ UU) (hm : MV y' cc' nL' ret' 0) (hs : SH a = .inl ci) (hci : ci < 13) (hcn : (xq ci).1 = y'.cls) (hk : k' < k) (hst : (rest.map fun v => v.category).sum ≤ 8) (hC : C k' y' cc' nL' ret' 0 0 b ad false [.ref (b + a)] NN SH I L R (fun r sh' I' L' R' => V y cc nL ret k 0 0 NN Q b ad false 0 0 (pc + 3) lv (r.toList ++ rest) NN sh' I' L' R')) : VV y cc nL ret k Q b ad pc lv (.ref (b + a) :: rest) I L R := v_callV_0 hd hl hm hs (sh_lto hs) hci hcn hk (Nat.le_refl 0) (Nat.le_refl 0) hst (fun h => h) hC
theorem u_callV_1 {a ci idx : Nat} {v1 : Value} (hd : decode cc pc = .ok (.invokevirtual idx, 3)) (hl : Cond.methodLink y.cls idx y' ∈ UU) (hm : MV y' cc' nL' ret' 1) (hs : SH a = .inl ci) (hci : ci < 13) (hcn : (xq ci).1 = y'.cls) (hk : k' < k) (hst : (rest.map fun v => v.category).sum ≤ 8) (hC : C k' y' cc' nL' ret' 0 0 b ad false [.ref (b + a), v1] NN SH I L R (fun r sh' I' L' R' => V y cc nL ret k 0 0 NN Q b ad false 0 0 (pc + 3) lv (r.toList ++ rest) NN sh' I' L' R')) : VV y cc nL ret k Q b ad pc lv (v1 :: .ref (b + a) :: rest) I L R := v_callV_1 hd hl hm hs (sh_lto hs) hci hcn hk (Nat.le_refl 0) (Nat.le_refl 0) hst (fun h => h) hC
theorem u_callV_2 {a ci idx : Nat} {v1 v2 : Value} (hd : decode cc pc = .ok (.invokevirtual idx, 3)) (hl : Cond.methodLink y.cls idx y' ∈ UU) (hm : MV y' cc' nL' ret' 2) (hs : SH a = .inl ci) (hci : ci < 13) (hcn : (xq ci).1 = y'.cls) (hk : k' < k) (hst : (rest.map fun v => v.category).sum ≤ 8) (hC : C k' y' cc' nL' ret' 0 0 b ad false [.ref (b + a), v1, v2] NN SH I L R (fun r sh' I' L' R' => V y cc nL ret k 0 0 NN Q b ad false 0 0 (pc + 3) lv (r.toList ++ rest) NN sh' I' L' R')) : VV y cc nL ret k Q b ad pc lv (v2 :: v1 :: .ref (b + a) :: rest) I L R := v_callV_2 hd hl hm hs (sh_lto hs) hci hcn hk (Nat.le_refl 0) (Nat.le_refl 0) hst (fun h => h) hC
theorem u_callV_3 {a ci idx : Nat} {v1 v2 v3 : Value} (hd : decode cc pc = .ok (.invokevirtual idx, 3)) (hl : Cond.methodLink y.cls idx y' ∈ UU) (hm : MV y' cc' nL' ret' 3) (hs : SH a = .inl ci) (hci : ci < 13) (hcn : (xq ci).1 = y'.cls) (hk : k' < k) (hst : (rest.map fun v => v.category).sum ≤ 8) (hC : C k' y' cc' nL' ret' 0 0 b ad false [.ref (b + a), v1, v2, v3] NN SH I L R (fun r sh' I' L' R' => V y cc nL ret k 0 0 NN Q b ad false 0 0 (pc + 3) lv (r.toList ++ rest) NN sh' I' L' R')) : VV y cc nL ret k Q b ad pc lv (v3 :: v2 :: v1 :: .ref (b + a) :: rest) I L R := v_callV_3 hd hl hm hs (sh_lto hs) hci hcn hk (Nat.le_refl 0) (Nat.le_refl 0) hst (fun h => h) hC
theorem u_callV_4 {a ci idx : Nat} {v1 v2 v3 v4 : Value} (hd : decode cc pc = .ok (.invokevirtual idx, 3)) (hl : Cond.methodLink y.cls idx y' ∈ UU) (hm : MV y' cc' nL' ret' 4) (hs : SH a = .inl ci) (hci : ci < 13) (hcn : (xq ci).1 = y'.cls) (hk : k' < k) (hst : (rest.map fun v => v.category).sum ≤ 8) (hC : C k' y' cc' nL' ret' 0 0 b ad false [.ref (b + a), v1, v2, v3, v4] NN SH I L R (fun r sh' I' L' R' => V y cc nL ret k 0 0 NN Q b ad false 0 0 (pc + 3) lv (r.toList ++ rest) NN sh' I' L' R')) : VV y cc nL ret k Q b ad pc lv (v4 :: v3 :: v2 :: v1 :: .ref (b + a) :: rest) I L R := v_callV_4 hd hl hm hs (sh_lto hs) hci hcn hk (Nat.le_refl 0) (Nat.le_refl 0) hst (fun h => h) hC
theorem u_callV_5 {a ci idx : Nat} {v1 v2 v3 v4 v5 : Value} (hd : decode cc pc = .ok (.invokevirtual idx, 3)) (hl : Cond.methodLink y.cls idx y' ∈ UU) (hm : MV y' cc' nL' ret' 5) (hs : SH a = .inl ci) (hci : ci < 13) (hcn : (xq ci).1 = y'.cls) (hk : k' < k) (hst : (rest.map fun v => v.category).sum ≤ 8) (hC : C k' y' cc' nL' ret' 0 0 b ad false [.ref (b + a), v1, v2, v3, v4, v5] NN SH I L R (fun r sh' I' L' R' => V y cc nL ret k 0 0 NN Q b ad false 0 0 (pc + 3) lv (r.toList ++ rest) NN sh' I' L' R')) : VV y cc nL ret k Q b ad pc lv (v5 :: v4 :: v3 :: v2 :: v1 :: .ref (b + a) :: rest) I L R := v_callV_5 hd hl hm hs (sh_lto hs) hci hcn hk (Nat.le_refl 0) (Nat.le_refl 0) hst (fun h => h) hC
theorem u_callS_0 {idx : Nat} (hd : decode cc pc = .ok (.invokestatic idx, 3)) (hl : Cond.methodLink y.cls idx y' ∈ UU) (hm : MS y' cc' nL' ret' 0) (hk : k' < k) (hst : (rest.map fun v => v.category).sum ≤ 8) (hC : C k' y' cc' nL' ret' 0 0 b ad false [] NN SH I L R (fun r sh' I' L' R' => V y cc nL ret k 0 0 NN Q b ad false 0 0 (pc + 3) lv (r.toList ++ rest) NN sh' I' L' R')) : VV y cc nL ret k Q b ad pc lv (rest) I L R := v_callS_0 hd hl hm hk (Nat.le_refl 0) (Nat.le_refl 0) hst (fun h => h) hC
theorem u_callS_1 {idx : Nat} {v1 : Value} (hd : decode cc pc = .ok (.invokestatic idx, 3)) (hl : Cond.methodLink y.cls idx y' ∈ UU) (hm : MS y' cc' nL' ret' 1) (hk : k' < k) (hst : (rest.map fun v => v.category).sum ≤ 8) (hC : C k' y' cc' nL' ret' 0 0 b ad false [v1] NN SH I L R (fun r sh' I' L' R' => V y cc nL ret k 0 0 NN Q b ad false 0 0 (pc + 3) lv (r.toList ++ rest) NN sh' I' L' R')) : VV y cc nL ret k Q b ad pc lv (v1 :: rest) I L R := v_callS_1 hd hl hm hk (Nat.le_refl 0) (Nat.le_refl 0) hst (fun h => h) hC
theorem u_callS_2 {idx : Nat} {v1 v2 : Value} (hd : decode cc pc = .ok (.invokestatic idx, 3)) (hl : Cond.methodLink y.cls idx y' ∈ UU) (hm : MS y' cc' nL' ret' 2) (hk : k' < k) (hst : (rest.map fun v => v.category).sum ≤ 8) (hC : C k' y' cc' nL' ret' 0 0 b ad false [v1, v2] NN SH I L R (fun r sh' I' L' R' => V y cc nL ret k 0 0 NN Q b ad false 0 0 (pc + 3) lv (r.toList ++ rest) NN sh' I' L' R')) : VV y cc nL ret k Q b ad pc lv (v2 :: v1 :: rest) I L R := v_callS_2 hd hl hm hk (Nat.le_refl 0) (Nat.le_refl 0) hst (fun h => h) hC
theorem u_callS_3 {idx : Nat} {v1 v2 v3 : Value} (hd : decode cc pc = .ok (.invokestatic idx, 3)) (hl : Cond.methodLink y.cls idx y' ∈ UU) (hm : MS y' cc' nL' ret' 3) (hk : k' < k) (hst : (rest.map fun v => v.category).sum ≤ 8) (hC : C k' y' cc' nL' ret' 0 0 b ad false [v1, v2, v3] NN SH I L R (fun r sh' I' L' R' => V y cc nL ret k 0 0 NN Q b ad false 0 0 (pc + 3) lv (r.toList ++ rest) NN sh' I' L' R')) : VV y cc nL ret k Q b ad pc lv (v3 :: v2 :: v1 :: rest) I L R := v_callS_3 hd hl hm hk (Nat.le_refl 0) (Nat.le_refl 0) hst (fun h => h) hC
theorem u_callS_4 {idx : Nat} {v1 v2 v3 v4 : Value} (hd : decode cc pc = .ok (.invokestatic idx, 3)) (hl : Cond.methodLink y.cls idx y' ∈ UU) (hm : MS y' cc' nL' ret' 4) (hk : k' < k) (hst : (rest.map fun v => v.category).sum ≤ 8) (hC : C k' y' cc' nL' ret' 0 0 b ad false [v1, v2, v3, v4] NN SH I L R (fun r sh' I' L' R' => V y cc nL ret k 0 0 NN Q b ad false 0 0 (pc + 3) lv (r.toList ++ rest) NN sh' I' L' R')) : VV y cc nL ret k Q b ad pc lv (v4 :: v3 :: v2 :: v1 :: rest) I L R := v_callS_4 hd hl hm hk (Nat.le_refl 0) (Nat.le_refl 0) hst (fun h => h) hC
theorem u_callS_5 {idx : Nat} {v1 v2 v3 v4 v5 : Value} (hd : decode cc pc = .ok (.invokestatic idx, 3)) (hl : Cond.methodLink y.cls idx y' ∈ UU) (hm : MS y' cc' nL' ret' 5) (hk : k' < k) (hst : (rest.map fun v => v.category).sum ≤ 8) (hC : C k' y' cc' nL' ret' 0 0 b ad false [v1, v2, v3, v4, v5] NN SH I L R (fun r sh' I' L' R' => V y cc nL ret k 0 0 NN Q b ad false 0 0 (pc + 3) lv (r.toList ++ rest) NN sh' I' L' R')) : VV y cc nL ret k Q b ad pc lv (v5 :: v4 :: v3 :: v2 :: v1 :: rest) I L R := v_callS_5 hd hl hm hk (Nat.le_refl 0) (Nat.le_refl 0) hst (fun h => h) hC
theorem u_callS_6 {idx : Nat} {v1 v2 v3 v4 v5 v6 : Value} (hd : decode cc pc = .ok (.invokestatic idx, 3)) (hl : Cond.methodLink y.cls idx y' ∈ UU) (hm : MS y' cc' nL' ret' 6) (hk : k' < k) (hst : (rest.map fun v => v.category).sum ≤ 8) (hC : C k' y' cc' nL' ret' 0 0 b ad false [v1, v2, v3, v4, v5, v6] NN SH I L R (fun r sh' I' L' R' => V y cc nL ret k 0 0 NN Q b ad false 0 0 (pc + 3) lv (r.toList ++ rest) NN sh' I' L' R')) : VV y cc nL ret k Q b ad pc lv (v6 :: v5 :: v4 :: v3 :: v2 :: v1 :: rest) I L R := v_callS_6 hd hl hm hk (Nat.le_refl 0) (Nat.le_refl 0) hst (fun h => h) hC
theorem u_callS_7 {idx : Nat} {v1 v2 v3 v4 v5 v6 v7 : Value} (hd : decode cc pc = .ok (.invokestatic idx, 3)) (hl : Cond.methodLink y.cls idx y' ∈ UU) (hm : MS y' cc' nL' ret' 7) (hk : k' < k) (hst : (rest.map fun v => v.category).sum ≤ 8) (hC : C k' y' cc' nL' ret' 0 0 b ad false [v1, v2, v3, v4, v5, v6, v7] NN SH I L R (fun r sh' I' L' R' => V y cc nL ret k 0 0 NN Q b ad false 0 0 (pc + 3) lv (r.toList ++ rest) NN sh' I' L' R')) : VV y cc nL ret k Q b ad pc lv (v7 :: v6 :: v5 :: v4 :: v3 :: v2 :: v1 :: rest) I L R := v_callS_7 hd hl hm hk (Nat.le_refl 0) (Nat.le_refl 0) hst (fun h => h) hC
end
theorem nlit (n : Nat) : (OfNat.ofNat n : Int32) = nI n := rfl
def bI (p : Bool) : Int32 := if p then 1 else 0
theorem bI_t {p : Bool} (h : p = true) : bI p = 1 := by rw [h]; rfl
theorem bI_f {p : Bool} (h : p = false) : bI p = 0 := by rw [h]; rfl
theorem bI_n (p : Bool) : narrow .boolean (.int (bI p)) = .int (bI p) := by cases p <;> rfl
theorem bI_0 (p : Bool) : bI p = 0 ↔ p = false := by cases p <;> decide
