/-! bytes and tokens of a text -/
def lk (tp : Nat → Nat) (sz k : Nat) : Nat := if k < sz then tp k else 256
def isS (c : Nat) : Bool := decide (97 ≤ c) && decide (c ≤ 122)
def isD (c : Nat) : Bool := decide (48 ≤ c) && decide (c ≤ 57)
/-- how far p goes on from k, at most n -/
def rn (p : Nat → Bool) : Nat → Nat → Nat
  | 0, k => k
  | n + 1, k => if p k = true then rn p n (k + 1) else k
theorem rn_t {p : Nat → Bool} {n k : Nat} (h : p k = true) : rn p (n + 1) k = rn p n (k + 1) := by simp [rn, h]
theorem rn_f {p : Nat → Bool} {n k : Nat} (h : p k = false) : rn p n k = k := by
  cases n with
  | zero => rfl
  | succ n => simp [rn, h]
theorem rn_b (p : Nat → Bool) : ∀ n k : Nat, k ≤ rn p n k ∧ rn p n k ≤ k + n
  | 0, k => ⟨Nat.le_refl _, Nat.le_refl _⟩
  | n + 1, k => by
    by_cases h : p k = true
    · rw [rn_t h]; have := rn_b p n (k + 1); omega
    · rw [rn_f (by simpa using h)]; omega
theorem rn_s (p : Nat → Bool) : ∀ n k : Nat, rn p n k < k + n → p (rn p n k) = false
  | 0, k => fun h => absurd h (Nat.lt_irrefl _)
  | n + 1, k => fun h => by
    by_cases e : p k = true
    · rw [rn_t e] at h ⊢; exact rn_s p n (k + 1) (by omega)
    · rw [rn_f (by simpa using e)]; simpa using e
theorem rn_i (p : Nat → Bool) : ∀ n k j : Nat, k ≤ j → j < rn p n k → p j = true
  | 0, k, j => fun h1 h2 => absurd (show j < k from h2) (by omega)
  | n + 1, k, j => fun h1 h2 => by
    by_cases e : p k = true
    · by_cases ej : j = k
      · subst ej; exact e
      · rw [rn_t e] at h2; exact rn_i p n (k + 1) j (by omega) h2
    · rw [rn_f (by simpa using e)] at h2; omega
def spc (tp : Nat → Nat) (sz k : Nat) : Bool := decide (lk tp sz k = 32)
def smlp (tp : Nat → Nat) (sz k : Nat) : Bool := isS (lk tp sz k)
def dgt (tp : Nat → Nat) (sz k : Nat) : Bool := isD (lk tp sz k)
/-- where the token behind e begins -/
def tA (tp : Nat → Nat) (sz e : Nat) : Nat := rn (spc tp sz) (sz - e) e
def wE (tp : Nat → Nat) (sz a : Nat) : Nat := rn (smlp tp sz) (sz - a) a
def dE (tp : Nat → Nat) (sz a : Nat) : Nat := rn (dgt tp sz) (sz - a) a
/-- where it ends -/
def tE (tp : Nat → Nat) (sz e : Nat) : Nat := if lk tp sz (tA tp sz e) = 256 then tA tp sz e else if isS (lk tp sz (tA tp sz e)) = true then wE tp sz (tA tp sz e) else if isD (lk tp sz (tA tp sz e)) = true then dE tp sz (tA tp sz e) else tA tp sz e + 1
/-- its sort: 0 end, 1 none, 2 word, 3 whole, or the sign itself -/
def tK (tp : Nat → Nat) (sz e : Nat) : Nat := if lk tp sz (tA tp sz e) = 256 then 0 else if isS (lk tp sz (tA tp sz e)) = true then (if 8 < tE tp sz e - tA tp sz e then 1 else 2) else if isD (lk tp sz (tA tp sz e)) = true then (if 3 < tE tp sz e - tA tp sz e then 1 else 3) else if lk tp sz (tA tp sz e) = 59 then 59 else if lk tp sz (tA tp sz e) = 44 then 44 else 1
def num (tp : Nat → Nat) (a : Nat) : Nat → Nat
  | 0 => 0
  | n + 1 => num tp a n * 10 + (tp (a + n) - 48)
def tW (tp : Nat → Nat) (sz e : Nat) : Nat := num tp (tA tp sz e) (tE tp sz e - tA tp sz e)
def wrd (tp : Nat → Nat) (a n : Nat) : List Nat := (List.range n).map (fun i => tp (a + i))
/-- the word that stands there -/
def tL (tp : Nat → Nat) (sz e : Nat) : List Nat := wrd tp (tA tp sz e) (tE tp sz e - tA tp sz e)
def isW (tp : Nat → Nat) (sz : Nat) (w : List Nat) (e : Nat) : Bool := decide (tK tp sz e = 2) && decide (tL tp sz e = w)
theorem wrd_cons (tp : Nat → Nat) (a n : Nat) : wrd tp a (n + 1) = tp a :: wrd tp (a + 1) n := by
  unfold wrd
  rw [List.range_succ_eq_map, List.map_cons, List.map_map, Nat.add_zero]
  congr 1
  apply List.map_congr_left
  intro i _
  show tp (a + (i + 1)) = tp (a + 1 + i)
  congr 1; omega
theorem wrd_len (tp : Nat → Nat) (a n : Nat) : (wrd tp a n).length = n := by simp [wrd]
theorem wrd_at {tp : Nat → Nat} {a n i : Nat} (h : i < n) : (wrd tp a n).getD i 0 = tp (a + i) := by
  rw [List.getD_eq_getElem?_getD, wrd, List.getElem?_map, List.getElem?_range h]; rfl
theorem wrd_eq {tp : Nat → Nat} {a n : Nat} {w : List Nat} : wrd tp a n = w ↔ n = w.length ∧ ∀ i, i < n → tp (a + i) = w.getD i 0 := by
  constructor
  · intro h
    subst h
    exact ⟨(wrd_len _ _ _).symm, fun i hi => (wrd_at hi).symm⟩
  · intro ⟨h1, h2⟩
    apply List.ext_getElem
    · rw [wrd_len, h1]
    · intro i q1 q2
      have := h2 i (by rw [wrd_len] at q1; exact q1)
      rw [List.getD_eq_getElem?_getD, List.getElem?_eq_getElem q2] at this
      simp [wrd]
      exact this
section
variable {tp : Nat → Nat} {sz e : Nat}
theorem tA_b (he : e ≤ sz) : e ≤ tA tp sz e ∧ tA tp sz e ≤ sz := by
  have := rn_b (spc tp sz) (sz - e) e
  unfold tA
  omega
theorem lk_in {k : Nat} (h : k < sz) : lk tp sz k = tp k := if_pos h
theorem lk_out {k : Nat} (h : ¬ k < sz) : lk tp sz k = 256 := if_neg h
theorem isS_256 : isS 256 = false := by decide
theorem isD_256 : isD 256 = false := by decide
theorem tk_end (h : ¬ tA tp sz e < sz) : tE tp sz e = tA tp sz e ∧ tK tp sz e = 0 := by
  unfold tK tE
  rw [lk_out h]
  exact ⟨if_pos rfl, if_pos rfl⟩
theorem tk_word (h : tA tp sz e < sz) (ht : tp (tA tp sz e) < 256) (hs : isS (tp (tA tp sz e)) = true) : tE tp sz e = wE tp sz (tA tp sz e) ∧ tK tp sz e = (if 8 < wE tp sz (tA tp sz e) - tA tp sz e then 1 else 2) := by
  have e1 : tE tp sz e = wE tp sz (tA tp sz e) := by
    unfold tE; rw [lk_in h, if_neg (by omega), if_pos hs]
  refine ⟨e1, ?_⟩
  unfold tK; rw [lk_in h, if_neg (by omega), if_pos hs, e1]
theorem tk_dig (h : tA tp sz e < sz) (ht : tp (tA tp sz e) < 256) (hs : isS (tp (tA tp sz e)) = false) (hd : isD (tp (tA tp sz e)) = true) : tE tp sz e = dE tp sz (tA tp sz e) ∧ tK tp sz e = (if 3 < dE tp sz (tA tp sz e) - tA tp sz e then 1 else 3) := by
  have e1 : tE tp sz e = dE tp sz (tA tp sz e) := by
    unfold tE; rw [lk_in h, if_neg (by omega), if_neg (by rw [hs]; decide), if_pos hd]
  refine ⟨e1, ?_⟩
  unfold tK; rw [lk_in h, if_neg (by omega), if_neg (by rw [hs]; decide), if_pos hd, e1]
theorem tk_sign (h : tA tp sz e < sz) (ht : tp (tA tp sz e) < 256) (hs : isS (tp (tA tp sz e)) = false) (hd : isD (tp (tA tp sz e)) = false) : tE tp sz e = tA tp sz e + 1 ∧ tK tp sz e = (if tp (tA tp sz e) = 59 then 59 else if tp (tA tp sz e) = 44 then 44 else 1) := by
  have e1 : tE tp sz e = tA tp sz e + 1 := by
    unfold tE; rw [lk_in h, if_neg (by omega), if_neg (by rw [hs]; decide), if_neg (by rw [hd]; decide)]
  refine ⟨e1, ?_⟩
  unfold tK; rw [lk_in h, if_neg (by omega), if_neg (by rw [hs]; decide), if_neg (by rw [hd]; decide)]
theorem wE_b (a : Nat) (h : a ≤ sz) : a ≤ wE tp sz a ∧ wE tp sz a ≤ sz := by
  have := rn_b (smlp tp sz) (sz - a) a
  unfold wE; omega
theorem dE_b (a : Nat) (h : a ≤ sz) : a ≤ dE tp sz a ∧ dE tp sz a ≤ sz := by
  have := rn_b (dgt tp sz) (sz - a) a
  unfold dE; omega
theorem wE_1 {a : Nat} (h : a < sz) (hs : isS (tp a) = true) : a < wE tp sz a := by
  unfold wE
  obtain ⟨n, hn⟩ : ∃ n, sz - a = n + 1 := ⟨sz - a - 1, by omega⟩
  rw [hn, rn_t (show smlp tp sz a = true by unfold smlp; rw [lk_in h]; exact hs)]
  have := rn_b (smlp tp sz) n (a + 1)
  omega
theorem dE_1 {a : Nat} (h : a < sz) (hs : isD (tp a) = true) : a < dE tp sz a := by
  unfold dE
  obtain ⟨n, hn⟩ : ∃ n, sz - a = n + 1 := ⟨sz - a - 1, by omega⟩
  rw [hn, rn_t (show dgt tp sz a = true by unfold dgt; rw [lk_in h]; exact hs)]
  have := rn_b (dgt tp sz) n (a + 1)
  omega
/-- all that is to be known of a token's bounds -/
theorem tE_b (hb : ∀ i, i < sz → tp i < 256) (he : e ≤ sz) : tA tp sz e ≤ tE tp sz e ∧ tE tp sz e ≤ sz ∧ (tK tp sz e ≠ 0 → tA tp sz e < tE tp sz e) := by
  have ha := tA_b (tp := tp) he
  by_cases h : tA tp sz e < sz
  · have h2 := hb _ h
    by_cases hs : isS (tp (tA tp sz e)) = true
    · have hk := tk_word h h2 hs
      have q := wE_b (tp := tp) (sz := sz) (tA tp sz e) ha.2
      have q1 := wE_1 h hs
      rw [hk.1]; exact ⟨q.1, q.2, fun _ => q1⟩
    · have hs : isS (tp (tA tp sz e)) = false := by simpa using hs
      by_cases hd : isD (tp (tA tp sz e)) = true
      · have hk := tk_dig h h2 hs hd
        have q := dE_b (tp := tp) (sz := sz) (tA tp sz e) ha.2
        have q1 := dE_1 h hd
        rw [hk.1]; exact ⟨q.1, q.2, fun _ => q1⟩
      · have hk := tk_sign h h2 hs (by simpa using hd)
        rw [hk.1]; exact ⟨by omega, by omega, fun _ => by omega⟩
  · have hk := tk_end h
    rw [hk.1, hk.2]
    exact ⟨Nat.le_refl _, by omega, fun q => absurd rfl q⟩
/-- a word's letters -/
theorem tk_2 (hb : ∀ i, i < sz → tp i < 256) (he : e ≤ sz) (hk : tK tp sz e = 2) : tA tp sz e < sz ∧ tE tp sz e = wE tp sz (tA tp sz e) ∧ isS (tp (tA tp sz e)) = true ∧ tE tp sz e - tA tp sz e ≤ 8 ∧ 1 ≤ tE tp sz e - tA tp sz e ∧ ∀ i, i < tE tp sz e - tA tp sz e → 97 ≤ tp (tA tp sz e + i) ∧ tp (tA tp sz e + i) ≤ 122 := by
  have ha := tA_b (tp := tp) he
  by_cases h : tA tp sz e < sz
  · have h2 := hb _ h
    by_cases hs : isS (tp (tA tp sz e)) = true
    · have hk2 := tk_word h h2 hs
      have q1 := wE_1 h hs
      refine ⟨h, hk2.1, hs, ?_, by rw [hk2.1]; omega, fun i hi => ?_⟩
      · rw [hk2.1]
        rw [hk2.2] at hk
        by_cases q : 8 < wE tp sz (tA tp sz e) - tA tp sz e
        · rw [if_pos q] at hk; cases hk
        · omega
      · rw [hk2.1] at hi
        have q := wE_b (tp := tp) (sz := sz) (tA tp sz e) ha.2
        have := rn_i (smlp tp sz) (sz - tA tp sz e) (tA tp sz e) (tA tp sz e + i) (by omega) (show tA tp sz e + i < wE tp sz (tA tp sz e) by omega)
        unfold smlp at this
        rw [lk_in (by omega)] at this
        unfold isS at this
        simpa using this
    · have hs : isS (tp (tA tp sz e)) = false := by simpa using hs
      by_cases hd : isD (tp (tA tp sz e)) = true
      · rw [(tk_dig h h2 hs hd).2] at hk; split at hk <;> cases hk
      · rw [(tk_sign h h2 hs (by simpa using hd)).2] at hk
        split at hk
        · cases hk
        · split at hk <;> cases hk
  · rw [(tk_end h).2] at hk; cases hk
/-- a whole's digits -/
theorem tk_3 (hb : ∀ i, i < sz → tp i < 256) (he : e ≤ sz) (hk : tK tp sz e = 3) : tE tp sz e - tA tp sz e ≤ 3 ∧ ∀ i, i < tE tp sz e - tA tp sz e → 48 ≤ tp (tA tp sz e + i) ∧ tp (tA tp sz e + i) ≤ 57 := by
  have ha := tA_b (tp := tp) he
  by_cases h : tA tp sz e < sz
  · have h2 := hb _ h
    by_cases hs : isS (tp (tA tp sz e)) = true
    · rw [(tk_word h h2 hs).2] at hk; split at hk <;> cases hk
    · have hs : isS (tp (tA tp sz e)) = false := by simpa using hs
      by_cases hd : isD (tp (tA tp sz e)) = true
      · have hk2 := tk_dig h h2 hs hd
        refine ⟨?_, fun i hi => ?_⟩
        · rw [hk2.1]
          rw [hk2.2] at hk
          by_cases q : 3 < dE tp sz (tA tp sz e) - tA tp sz e
          · rw [if_pos q] at hk; cases hk
          · omega
        · rw [hk2.1] at hi
          have q := dE_b (tp := tp) (sz := sz) (tA tp sz e) ha.2
          have := rn_i (dgt tp sz) (sz - tA tp sz e) (tA tp sz e) (tA tp sz e + i) (by omega) (show tA tp sz e + i < dE tp sz (tA tp sz e) by omega)
          unfold dgt at this
          rw [lk_in (by omega)] at this
          unfold isD at this
          simpa using this
      · rw [(tk_sign h h2 hs (by simpa using hd)).2] at hk
        split at hk
        · cases hk
        · split at hk <;> cases hk
  · rw [(tk_end h).2] at hk; cases hk
theorem num_lt {a : Nat} : ∀ n : Nat, (∀ i, i < n → 48 ≤ tp (a + i) ∧ tp (a + i) ≤ 57) → num tp a n < 10 ^ n
  | 0, _ => by simp [num]
  | n + 1, h => by
    have := num_lt n (fun i hi => h i (by omega))
    have h2 := h n (by omega)
    rw [num, Nat.pow_succ]
    omega
theorem tW_lt (hb : ∀ i, i < sz → tp i < 256) (he : e ≤ sz) (hk : tK tp sz e = 3) : tW tp sz e < 1000 := by
  have h := tk_3 hb he hk
  have h2 := num_lt (tp := tp) (a := tA tp sz e) _ h.2
  have h3 : 10 ^ (tE tp sz e - tA tp sz e) ≤ 10 ^ 3 := Nat.pow_le_pow_right (by decide) h.1
  unfold tW
  omega
end
