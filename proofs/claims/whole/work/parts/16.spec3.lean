def BrI (I : HI) (a : Nat) (br : Nat → Nat) : Prop := ∀ p, p < 6 → I (a + 2) p = nI (br p) ∧ br p < 2097152
def LDI (I : HI) (a n : Nat) (g : lends) (br : Nat → Nat) : Prop := LedI I a n g ∧ BrI I a br
def eM (g : lends) (f : q4 → Nat) : Option Nat → Int32
  | none => -2
  | some i => nI (f (g i))
theorem LedI.same {I I' : HI} {a n : Nat} {g : lends} (h : LedI I a n g) (h0 : I' a = I a) (h1 : I' (a + 1) = I (a + 1)) : LedI I' a n g := by
  obtain ⟨q1, q2, q3⟩ := h
  exact ⟨by rw [h0]; exact q1, q2, fun i hi => by rw [h1]; exact q3 i hi⟩
theorem LDI.same {I I' : HI} {a n : Nat} {g : lends} {br : Nat → Nat} (h : LDI I a n g br) (h0 : I' a = I a) (h1 : I' (a + 1) = I (a + 1)) (h2 : I' (a + 2) = I (a + 2)) : LDI I' a n g br :=
  ⟨h.1.same h0 h1, fun p hp => by rw [h2]; exact h.2 p hp⟩
theorem fup_some {p : Nat → Bool} : ∀ {j i k : Nat}, fup p i j = some k → i ≤ k ∧ k < i + j ∧ p k = true
  | 0, i, k, h => by simp [fup] at h
  | j + 1, i, k, h => by
    by_cases hp : p i = true
    · rw [fup_t hp] at h; cases h; exact ⟨Nat.le_refl _, by omega, hp⟩
    · rw [fup_f (by simpa using hp)] at h
      obtain ⟨h1, h2, h3⟩ := fup_some h
      exact ⟨by omega, by omega, h3⟩
theorem fup_none {p : Nat → Bool} : ∀ {j i : Nat}, fup p i j = none → ∀ k, i ≤ k → k < i + j → p k = false
  | 0, i, h, k, h1, h2 => by omega
  | j + 1, i, h, k, h1, h2 => by
    by_cases hp : p i = true
    · rw [fup_t hp] at h; cases h
    · rw [fup_f (by simpa using hp)] at h
      by_cases e : k = i
      · subst e; simpa using hp
      · exact fup_none h k (by omega) (by omega)
theorem eO_neg (o : Option Nat) (h : ∀ k, o = some k → k < 2 ^ 31) : eO o < 0 ↔ o = none := by
  cases o with
  | none => simp [eO]
  | some k => simp [eO]; exact Int32.not_lt.mp (nI_pos (h k rfl))
/-- all from i on, among j -/
def aup (p : Nat → Bool) (i : Nat) : Nat → Bool
  | 0 => true
  | j + 1 => p i && aup p (i + 1) j
theorem aup_iff {p : Nat → Bool} : ∀ {j i : Nat}, aup p i j = true ↔ ∀ k, i ≤ k → k < i + j → p k = true
  | 0, i => by simp [aup]; omega
  | j + 1, i => by
    simp only [aup, Bool.and_eq_true, aup_iff (j := j)]
    constructor
    · intro h k h1 h2
      by_cases e : k = i
      · subst e; exact h.1
      · exact h.2 k (by omega) (by omega)
    · intro h
      exact ⟨h i (Nat.le_refl _) (by omega), fun k h1 h2 => h k (by omega) (by omega)⟩
