/-- the reference's best: all that fit, one left out -/
def bzr (F : bkF) (d : Nat) (x : Option Nat) : Nat → Nat → Int
  | 0, _ => 0
  | k + 1, s => mxz (fun p => !s.testBit p && (decide (some p ≠ x) && fitF F (F 2 - (k + 1)) p)) (fun p => balz F (F 2 - (k + 1)) (some p) d + bzr F d x k (s ||| 2 ^ p)) 0 (F 3) (balz F (F 2 - (k + 1)) none d + bzr F d x k s)
theorem mxz_ge {ok : Nat → Bool} {w : Nat → Int} : ∀ (j i : Nat) (a : Int), a ≤ mxz ok w i j a
  | 0, _, _ => Int.le_refl _
  | j + 1, i, a => by
    simp only [mxz]
    refine Int.le_trans ?_ (mxz_ge j (i + 1) _)
    split <;> (try split) <;> omega
theorem mxz_mono {ok ok' : Nat → Bool} {w w' : Nat → Int} : ∀ (j i : Nat) (a a' : Int), (∀ k, i ≤ k → k < i + j → ok' k = true → ok k = true ∧ w' k ≤ w k) → a' ≤ a → mxz ok' w' i j a' ≤ mxz ok w i j a
  | 0, _, _, _, _, h => h
  | j + 1, i, a, a', hk, h => by
    simp only [mxz]
    refine mxz_mono j (i + 1) _ _ (fun k h1 h2 => hk k (by omega) (by omega)) ?_
    have q := hk i (Nat.le_refl _) (by omega)
    cases e : ok' i with
    | true =>
      obtain ⟨q1, q2⟩ := q e
      rw [q1]
      simp only [if_true]
      split <;> split <;> omega
    | false =>
      simp only [Bool.false_eq_true, if_false]
      split <;> (try split) <;> omega
theorem mxz_skip {ok ok' : Nat → Bool} {w : Nat → Int} {a0 : Int} : ∀ (j i : Nat) (a : Int), (∀ k, i ≤ k → k < i + j → (ok' k = true → ok k = true) ∧ (ok k = true → ok' k = false → w k ≤ a0)) → a0 ≤ a → mxz ok w i j a = mxz ok' w i j a
  | 0, _, _, _, _ => rfl
  | j + 1, i, a, hk, h => by
    simp only [mxz]
    have q := hk i (Nat.le_refl _) (by omega)
    have e : (if ok i = true then if a < w i then w i else a else a) = (if ok' i = true then if a < w i then w i else a else a) := by
      cases e1 : ok i <;> cases e2 : ok' i
      · rfl
      · rw [q.1 e2] at e1; cases e1
      · have := q.2 e1 e2
        simp only [if_true, Bool.false_eq_true, if_false]
        rw [if_neg (by omega)]
      · rfl
    rw [e]
    refine mxz_skip (a0 := a0) j (i + 1) _ (fun k h1 h2 => hk k (by omega) (by omega)) ?_
    split <;> (try split) <;> omega
theorem mxz_at {ok : Nat → Bool} {w : Nat → Int} : ∀ (j i : Nat) (a : Int), mxz ok w i j a = a ∨ ∃ k, i ≤ k ∧ k < i + j ∧ ok k = true ∧ mxz ok w i j a = w k
  | 0, _, _ => Or.inl rfl
  | j + 1, i, a => by
    simp only [mxz]
    rcases mxz_at (ok := ok) (w := w) j (i + 1) (if ok i = true then if a < w i then w i else a else a) with h | ⟨k, h1, h2, h3, h4⟩
    · rw [h]
      by_cases e : ok i = true
      · rw [if_pos e]
        by_cases e2 : a < w i
        · rw [if_pos e2]; exact Or.inr ⟨i, Nat.le_refl _, by omega, e, rfl⟩
        · rw [if_neg e2]; exact Or.inl rfl
      · rw [if_neg e]; exact Or.inl rfl
    · exact Or.inr ⟨k, by omega, by omega, h3, h4⟩
theorem mxz_cg {ok ok' : Nat → Bool} {w w' : Nat → Int} : ∀ (j i : Nat) (a : Int), (∀ k, i ≤ k → k < i + j → ok' k = ok k ∧ w' k = w k) → mxz ok' w' i j a = mxz ok w i j a
  | 0, _, _, _ => rfl
  | j + 1, i, a, hk => by
    simp only [mxz]
    have q := hk i (Nat.le_refl _) (by omega)
    rw [q.1, q.2]
    exact mxz_cg j (i + 1) _ (fun k h1 h2 => hk k (by omega) (by omega))
theorem or_sw (s p q : Nat) : s ||| 2 ^ p ||| 2 ^ q = s ||| 2 ^ q ||| 2 ^ p := by rw [Nat.or_assoc, Nat.or_comm (2 ^ p), ← Nat.or_assoc]
theorem or_bit (s p q : Nat) : (s ||| 2 ^ p).testBit q = (s.testBit q || decide (p = q)) := by rw [Nat.testBit_or, Nat.testBit_two_pow]
theorem bzc_mono {F : bkF} {d p : Nat} : ∀ (k s : Nat), bzc F d k (s ||| 2 ^ p) ≤ bzc F d k s
  | 0, _ => Int.le_refl _
  | k + 1, s => by
    simp only [bzc]
    refine mxz_mono _ _ _ _ (fun q _ _ hq => ⟨?_, ?_⟩) ?_
    · rw [or_bit] at hq
      revert hq
      cases (hlp F d (F 2 - (k + 1))).testBit q <;> cases s.testBit q <;> simp
    · rw [or_sw]
      have := bzc_mono (F := F) (d := d) (p := p) k (s ||| 2 ^ q)
      omega
    · have := bzc_mono (F := F) (d := d) (p := p) k s
      omega
theorem bzr_none {F : bkF} {d : Nat} : ∀ (k s : Nat), bzr F d none k s = bzc F d k s
  | 0, _ => rfl
  | k + 1, s => by
    simp only [bzr, bzc]
    have e : ∀ s, bzr F d none k s = bzc F d k s := fun s => bzr_none k s
    simp only [e]
    refine mxz_skip _ _ _ (fun p _ h2 => ?_) (Int.le_refl _)
    rw [hlp_bit (by omega)]
    unfold hlpb
    have := bzc_mono (F := F) (d := d) (p := p) k s
    cases s.testBit p <;> cases fitF F (F 2 - (k + 1)) p <;> simp <;> omega
theorem bzr_some {F : bkF} {d x : Nat} : ∀ (k s : Nat), bzr F d (some x) k s = bzc F d k (s ||| 2 ^ x)
  | k, s => by
    rw [← bzr_none]
    induction k generalizing s with
    | zero => rfl
    | succ k ih =>
      simp only [bzr]
      rw [ih s]
      refine mxz_cg _ _ _ (fun p _ _ => ⟨?_, ?_⟩)
      · rw [or_bit, show decide (some p ≠ some x) = !decide (x = p) by by_cases e : x = p <;> simp [e, eq_comm]]
        cases s.testBit p <;> cases decide (x = p) <;> simp
      · rw [ih, or_sw]
theorem bzr_b {F : bkF} (hO : FOK F) (d : Nat) (x : Option Nat) (k s : Nat) : -1201 * (k + 1 : Int) < bzr F d x k s ∧ bzr F d x k s < 1201 * (k + 1 : Int) := by
  cases x with
  | none => rw [bzr_none]; exact bzc_b hO d k s
  | some x => rw [bzr_some]; exact bzc_b hO d k _
/-- the planner's choice by all that fit is that by the helpers -/
def pkr (F : bkF) (d m s : Nat) (p : Nat) : Bool := !s.testBit p && fitF F m p && decide (balz F m (some p) d + bzc F d (F 2 - (m + 1)) (s ||| 2 ^ p) = bzc F d (F 2 - m) s)
theorem pk_ne {F : bkF} {d m s : Nat} (hm : m < F 2) (hn : balz F m none d + bzc F d (F 2 - (m + 1)) s ≠ bzc F d (F 2 - m) s) {p : Nat} (hp : p < F 3) : pkr F d m s p = ((hlp F d m).testBit p && !s.testBit p && decide (balz F m (some p) d + bzc F d (F 2 - (m + 1)) (s ||| 2 ^ p) = bzc F d (F 2 - m) s)) := by
  have h1 : balz F m none d + bzc F d (F 2 - (m + 1)) s ≤ bzc F d (F 2 - m) s := by
    rw [show F 2 - m = (F 2 - (m + 1)) + 1 by omega]
    simp only [bzc]
    rw [show F 2 - (F 2 - (m + 1) + 1) = m by omega]
    exact mxz_ge _ _ _
  have h2 := bzc_mono (F := F) (d := d) (p := p) (F 2 - (m + 1)) s
  rw [hlp_bit hp]
  unfold pkr hlpb
  by_cases e : balz F m (some p) d + bzc F d (F 2 - (m + 1)) (s ||| 2 ^ p) = bzc F d (F 2 - m) s
  · rw [decide_eq_true e, decide_eq_true (show balz F m none d < balz F m (some p) d by omega)]
    cases s.testBit p <;> cases fitF F m p <;> rfl
  · rw [decide_eq_false e]; simp
theorem fbz_ex {F : bkF} {d m s : Nat} (hm : m < F 2) (hn : balz F m none d + bzc F d (F 2 - (m + 1)) s ≠ bzc F d (F 2 - m) s) : ∃ p, fbz F d m s = some p ∧ p < F 3 ∧ pkr F d m s p = true ∧ ∀ q, q < p → pkr F d m s q = false := by
  have h0 : ∃ p, p < F 3 ∧ pkr F d m s p = true := by
    have e : bzc F d (F 2 - m) s = mxz (fun p => (hlp F d m).testBit p && !s.testBit p) (fun p => balz F m (some p) d + bzc F d (F 2 - (m + 1)) (s ||| 2 ^ p)) 0 (F 3) (balz F m none d + bzc F d (F 2 - (m + 1)) s) := by
      rw [show F 2 - m = (F 2 - (m + 1)) + 1 by omega]
      simp only [bzc]
      rw [show F 2 - (F 2 - (m + 1) + 1) = m by omega]
    rcases mxz_at (ok := fun p => (hlp F d m).testBit p && !s.testBit p) (w := fun p => balz F m (some p) d + bzc F d (F 2 - (m + 1)) (s ||| 2 ^ p)) (F 3) 0 (balz F m none d + bzc F d (F 2 - (m + 1)) s) with h | ⟨k, h1, h2, h3, h4⟩
    · exact absurd (e.trans h).symm hn
    · refine ⟨k, by omega, ?_⟩
      have h3 : ((hlp F d m).testBit k && !s.testBit k) = true := h3
      rw [pk_ne hm hn (by omega), h3, decide_eq_true (e.trans h4).symm]
      rfl
  have hf : fbz F d m s = fup (pkr F d m s) 0 (F 3) := by
    unfold fbz
    rw [if_neg hn]
    exact fup_cg _ _ (fun k _ h2 => (pk_ne hm hn (by omega)).symm)
  cases h : fup (pkr F d m s) 0 (F 3) with
  | none =>
    obtain ⟨p, hp, hp2⟩ := h0
    have := fup_none h p (Nat.zero_le _) (by omega)
    rw [hp2] at this; cases this
  | some p =>
    obtain ⟨-, h2, h3⟩ := fup_some h
    refine ⟨p, hf.trans h, by omega, h3, ?_⟩
    have hlt : ∀ (j i p : Nat), fup (pkr F d m s) i j = some p → ∀ q, i ≤ q → q < p → pkr F d m s q = false := by
      intro j
      induction j with
      | zero => intro i p h; cases h
      | succ j ih =>
        intro i p h q h1 h2
        by_cases e : pkr F d m s i = true
        · rw [fup_t e] at h; cases h; omega
        · have e : pkr F d m s i = false := by simpa using e
          rw [fup_f e] at h
          by_cases eq : q = i
          · subst eq; exact e
          · exact ih (i + 1) p h q (by omega) h2
    exact fun q hq => hlt _ _ _ h q (Nat.zero_le _) hq
