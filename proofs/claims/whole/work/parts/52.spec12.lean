/-! there is always a set of sightings that may be false; Euclid -/
theorem cup_le8 {p : Nat → Bool} : ∀ (j i : Nat), cup p i j ≤ j
  | 0, _ => by simp [cup]
  | j + 1, i => by
    have h := cup_le8 (p := p) j (i + 1)
    simp only [cup]; split <;> omega
theorem lkz_is {F : bkF} {n : Nat} {g : lends} {d : Nat} : ∀ (j w : Nat) (f : Option Nat) (few : Nat), (f.isSome = true ∨ (few = 9 ∧ ∃ w0, w ≤ w0 ∧ w0 < w + j ∧ andn w0 (ofd F d) = 0 ∧ hold F n g d w0 = true)) → (lkz F n g d w j f few).isSome = true
  | 0, w, f, few, h => by
    rcases h with h | ⟨-, w0, h1, h2, -⟩
    · exact h
    · omega
  | j + 1, w, f, few, h => by
    simp only [lkz]
    have rec2 : (andn w (ofd F d) = 0 → bitc w < few → hold F n g d w = true → False) → (lkz F n g d (w + 1) j f few).isSome = true := by
      intro hn
      apply lkz_is j (w + 1)
      rcases h with h | ⟨h9, w0, h1, h2, h3, h4⟩
      · exact Or.inl h
      · refine Or.inr ⟨h9, w0, ?_, by omega, h3, h4⟩
        rcases Nat.lt_or_ge w w0 with q | q
        · exact q
        · have : w0 = w := by omega
          subst this
          exact (hn h3 (by have := cup_le8 (p := fun i => w0.testBit i) 8 0; unfold bitc; omega) h4).elim
    split
    · split
      · split
        · exact lkz_is j (w + 1) _ _ (Or.inl rfl)
        · rename_i a c e; exact rec2 (fun _ _ q => e q)
      · rename_i a c; exact rec2 (fun _ q _ => c q)
    · rename_i a; exact rec2 (fun q _ _ => a q)
theorem lkz_ok {F : bkF} {n : Nat} {g : lends} {d z : Nat} : ∀ (j w : Nat) (f : Option Nat) (few : Nat), lkz F n g d w j f few = some z → f = some z ∨ (w ≤ z ∧ z < w + j ∧ andn z (ofd F d) = 0 ∧ hold F n g d z = true)
  | 0, w, f, few, h => Or.inl h
  | j + 1, w, f, few, h => by
    simp only [lkz] at h
    have rec2 : lkz F n g d (w + 1) j f few = some z → f = some z ∨ (w ≤ z ∧ z < w + (j + 1) ∧ andn z (ofd F d) = 0 ∧ hold F n g d z = true) := by
      intro q
      rcases lkz_ok j (w + 1) f few q with q | ⟨q1, q2, q3⟩
      · exact Or.inl q
      · exact Or.inr ⟨by omega, by omega, q3⟩
    split at h
    · split at h
      · split at h
        · rename_i a c e
          rcases lkz_ok j (w + 1) _ _ h with q | ⟨q1, q2, q3⟩
          · cases q; exact Or.inr ⟨by omega, by omega, a, e⟩
          · exact Or.inr ⟨by omega, by omega, q3⟩
        · exact rec2 h
      · exact rec2 h
    · exact rec2 h
theorem oup_f {p : Nat → Bool} (h : ∀ i, p i = false) : ∀ (j i : Nat), oup p i j = false
  | 0, _ => rfl
  | j + 1, i => by simp only [oup, h i, oup_f h j (i + 1), Bool.or_self]
theorem tw_0 (F : bkF) : tw F 0 = false := oup_f (fun i => oup_f (fun j => by simp [twp]) i 0) (F 5) 0
theorem pgk_0 {F : bkF} {n : Nat} {g : lends} {d : Nat} : ∀ (s m : Nat), pgk F n g d 0 s m = (lentP n g d m).isNone
  | 0, _ => rfl
  | s + 1, m => by simp only [pgk, Nat.zero_testBit, Bool.false_and, Bool.false_eq_true, if_false, pgk_0 s m]
theorem cdk_0 {F : bkF} {n : Nat} {g : lends} {d : Nat} : ∀ (s m : Nat), cdk F n g d 0 s m = wrb F n g d m
  | 0, _ => rfl
  | s + 1, m => by simp only [cdk, Nat.zero_testBit, Bool.false_and, Bool.false_eq_true, if_false, cdk_0 s m]
theorem sun_mono {f : Nat → Nat} : ∀ (j i a : Nat), a ≤ sun f i j a
  | 0, _, _ => Nat.le_refl _
  | j + 1, i, a => Nat.le_trans (Nat.le_add_right a (f i)) (sun_mono j (i + 1) _)
theorem sun_pos {f : Nat → Nat} {p : Nat} (hp : 0 < f p) : ∀ (j i a : Nat), i ≤ p → p < i + j → 0 < sun f i j a
  | 0, i, a, h1, h2 => by omega
  | j + 1, i, a, h1, h2 => by
    simp only [sun]
    by_cases e : i = p
    · subst e
      exact Nat.lt_of_lt_of_le (by omega) (sun_mono j (i + 1) (a + f i))
    · exact sun_pos hp j (i + 1) _ (by omega) (by omega)
theorem wys_pos {F : bkF} {n : Nat} {g : lends} {d : Nat} {pg : Nat → Bool} {c : Nat → Nat} (hpg : ∀ m, pg m = (lentP n g d m).isNone) (hc : ∀ m, c m = wrb F n g d m) (hu : ∀ m1 m2 p, lentP n g d m1 = some p → lentP n g d m2 = some p → m1 = m2) (hl : ∀ m p, lentP n g d m = some p → p < F 3) : ∀ (k m s : Nat), (∀ m', m ≤ m' → ∀ p, lentP n g d m' = some p → s.testBit p = false) → 0 < wys (F 3) pg c k m s
  | 0, m, s, h => Nat.one_pos
  | k + 1, m, s, h => by
    simp only [wys]
    cases e : lentP n g d m with
    | none =>
      rw [if_pos (by rw [hpg, e]; rfl)]
      exact wys_pos hpg hc hu hl k (m + 1) s (fun m' hm' => h m' (by omega))
    | some p =>
      rw [if_neg (by rw [hpg, e]; simp)]
      refine sun_pos (p := p) ?_ (F 3) 0 0 (Nat.zero_le _) (by have := hl m p e; omega)
      have e2 : c m = 2 ^ p := by rw [hc, wrb, e]
      rw [if_pos (by rw [e2, h m (Nat.le_refl _) p e, Nat.testBit_two_pow_self]; rfl)]
      refine wys_pos hpg hc hu hl k (m + 1) _ (fun m' hm' q hq => ?_)
      rw [Nat.testBit_or, h m' (by omega) q hq, Bool.false_or, Nat.testBit_two_pow]
      have : ¬ p = q := fun r => by
        subst r
        have := hu m m' p e hq
        omega
      simp [this]
theorem lentP_ex {n : Nat} {g : lends} {d m p : Nat} (h : lentP n g d m = some p) : ∃ i, i < n ∧ (g i).1 = m ∧ (g i).2.1 = p ∧ (g i).2.2.1 ≤ d ∧ d ≤ (g i).2.2.2 := by
  unfold lentP at h
  cases hf : fup (hitm g m d d) 0 n with
  | none => rw [hf] at h; cases h
  | some i =>
    rw [hf] at h
    cases h
    have q := fup_some hf
    simp only [hitm, ovl, Bool.and_eq_true, decide_eq_true_eq] at q
    exact ⟨i, by omega, q.2.2.1, rfl, q.2.2.2.1, q.2.2.2.2⟩
theorem andn_self {x : Nat} (h : x < 256) : andn x x = 0 := by
  unfold andn
  apply Nat.eq_of_testBit_eq
  intro i
  rw [Nat.testBit_and, Nat.testBit_xor, Nat.zero_testBit, show (4294967295 : Nat) = 2 ^ 32 - 1 from rfl, Nat.testBit_two_pow_sub_one]
  by_cases hi : i < 32
  · simp [hi]
  · have : x.testBit i = false := Nat.testBit_lt_two_pow (Nat.lt_of_lt_of_le h (Nat.le_trans (show 256 ≤ 2 ^ 32 by decide) (Nat.pow_le_pow_right (by decide) (by omega))))
    simp [this]
theorem fls_some {F : bkF} {s : LSt} (hO : FOK F) (hK : LOK F s) (d : Nat) : ∃ z, fls F s.1 s.2.1 d = some z ∧ z < 256 ∧ hold F s.1 s.2.1 d z = true := by
  have o5 := hO.2.2.2.2.2.1
  have hpw : 2 ^ F 5 ≤ 256 := Nat.le_trans (Nat.pow_le_pow_right (by decide) o5) (by decide)
  have hh : hold F s.1 s.2.1 d (ofd F d) = true := by
    unfold hold
    rw [andn_self (ofd_lt hO d), tw_0]
    simp only [Bool.not_false, Bool.true_and, decide_eq_true_eq]
    refine wys_pos (fun m => pgk_0 (F 5) m) (fun m => cdk_0 (F 5) m) ?_ (fun m p h => lentP_lt hK.pers h) (F 2) 0 0 (fun _ _ _ _ => Nat.zero_testBit _)
    intro m1 m2 p h1 h2
    obtain ⟨i, i1, i2, i3, i4, i5⟩ := lentP_ex h1
    obtain ⟨j, j1, j2, j3, j4, j5⟩ := lentP_ex h2
    rcases Nat.lt_trichotomy i j with q | q | q
    · have := (hK.2.2.1 i j q j1).2 (by rw [i3, j3]); omega
    · subst q; omega
    · have := (hK.2.2.1 j i q i1).2 (by rw [i3, j3]); omega
  have hlt : ofd F d < 2 ^ F 5 := bup_lt (N := F 5) (F 5) 0 0 (Nat.two_pow_pos _) (by omega)
  have h1 := lkz_is (F := F) (n := s.1) (g := s.2.1) (d := d) (2 ^ F 5) 0 none 9 (Or.inr ⟨rfl, ofd F d, Nat.zero_le _, by omega, andn_self (ofd_lt hO d), hh⟩)
  cases e : fls F s.1 s.2.1 d with
  | none => unfold fls at e; rw [e] at h1; cases h1
  | some z =>
    refine ⟨z, rfl, ?_⟩
    unfold fls at e
    rcases lkz_ok _ _ _ _ e with q | ⟨q1, q2, q3, q4⟩
    · cases q
    · exact ⟨by omega, q4⟩
def euc : Nat → Nat → Nat → Nat
  | 0, a, _ => a
  | k + 1, a, c => if c = 0 then a else euc k c (a % c)
theorem euc_gcd : ∀ (j k a c : Nat), c < 2 ^ j → 2 * j ≤ k → euc k a c = Nat.gcd a c
  | 0, k, a, c, h, _ => by
    have : c = 0 := by simpa using h
    subst this
    cases k <;> simp [euc]
  | j + 1, k, a, c, h, hk => by
    obtain ⟨k, rfl⟩ : ∃ k', k = k' + 2 := ⟨k - 2, by omega⟩
    have gr : ∀ x y : Nat, Nat.gcd x y = Nat.gcd y (x % y) := fun x y => by rw [Nat.gcd_comm x y, Nat.gcd_rec y x, Nat.gcd_comm]
    simp only [euc]
    by_cases c0 : c = 0
    · subst c0; simp
    · rw [if_neg c0, gr a c]
      by_cases r0 : a % c = 0
      · rw [if_pos r0, r0]; simp
      · rw [if_neg r0, gr c (a % c)]
        refine euc_gcd j k _ _ ?_ (by omega)
        have h1 := Nat.mod_lt a (Nat.pos_of_ne_zero c0)
        have h2 := Nat.mod_lt c (Nat.pos_of_ne_zero r0)
        have h3 := Nat.div_add_mod c (a % c)
        have h4 : 1 ≤ c / (a % c) := (Nat.one_le_div_iff (Nat.pos_of_ne_zero r0)).2 (Nat.le_of_lt h1)
        have h5 : a % c * 1 ≤ a % c * (c / (a % c)) := Nat.mul_le_mul_left _ h4
        rw [Nat.pow_succ] at h
        omega
theorem mx_n {a : Nat} (ha : a < 2 ^ 31) : (if nI 1 < nI a then nI a else nI 1) = nI (if 1 < a then a else 1) := by
  by_cases h : 1 < a
  · rw [if_pos ((nI_ltI (by decide) ha).2 h), if_pos h]
  · rw [if_neg (fun q => h ((nI_ltI (by decide) ha).1 q)), if_neg h]
def tru (F : bkF) (s : LSt) (d : Nat) : Nat := andn (ofd F d) ((fls F s.1 s.2.1 d).getD 0)
def pgT (F : bkF) (s : LSt) (d : Nat) : Nat → Bool := pgk F s.1 s.2.1 d (tru F s d) (F 5)
def cdT (F : bkF) (s : LSt) (d : Nat) : Nat → Nat := cdk F s.1 s.2.1 d (tru F s d) (F 5)
def allT (F : bkF) (s : LSt) (d : Nat) : Nat := wys (F 3) (pgT F s d) (cdT F s d) (F 2) 0 0
theorem allT_pos {F : bkF} {s : LSt} (hO : FOK F) (hK : LOK F s) (d : Nat) : 0 < allT F s d := by
  obtain ⟨z, h1, h2, h3⟩ := fls_some hO hK d
  unfold hold at h3
  rw [Bool.and_eq_true, decide_eq_true_eq] at h3
  unfold allT pgT cdT tru
  rw [h1]; exact h3.2
