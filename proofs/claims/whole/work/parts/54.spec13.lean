/-! acts: what becomes of a ledger -/
theorem stp_ge (c : Nat → Bool) : ∀ (n z : Nat), stp c n ≤ z → z < n → c z = true
  | 0, z, _, h => by omega
  | n + 1, z, h1, h2 => by
    unfold stp at h1
    split at h1
    · rename_i hc
      by_cases e : z = n
      · subst e; exact hc
      · exact stp_ge c n z h1 (by omega)
    · omega
theorem stp_lt (c : Nat → Bool) : ∀ (n k : Nat), stp c n = k + 1 → c k = false
  | 0, k, h => by simp [stp] at h
  | n + 1, k, h => by
    unfold stp at h
    split at h
    · exact stp_lt c n k h
    · rename_i hc
      have : n = k := by omega
      subst this
      simpa using hc
theorem stp_congr {c c' : Nat → Bool} : ∀ (n : Nat), (∀ z, z < n → c z = c' z) → stp c n = stp c' n
  | 0, _ => rfl
  | n + 1, h => by
    unfold stp
    rw [h n (by omega), stp_congr n (fun z hz => h z (by omega))]
def rl (a c : q4) : Prop := (a.1 < c.1 ∨ (a.1 = c.1 ∧ a.2.2.2 < c.2.2.1)) ∧ (a.2.1 = c.2.1 → a.2.2.2 < c.2.2.1 ∨ c.2.2.2 < a.2.2.1)
def okq (F : bkF) (q : q4) : Prop := ok4 q ∧ q.1 < F 2 ∧ q.2.1 < F 3 ∧ q.2.2.2 ≤ F 0 ∧ fitF F q.1 q.2.1 = true
theorem LOK.rel {F : bkF} {s : LSt} (h : LOK F s) {i j : Nat} (hi : i < j) (hj : j < s.1) : rl (s.2.1 i) (s.2.1 j) := h.2.2.1 i j hi hj
theorem rl_pk {a c : q4} (ha : ok4 a) (hc : ok4 c) (h : rl a c) : pk4 a < pk4 c := by
  obtain ⟨h1, -⟩ := h
  obtain ⟨a1, a2, a3, a4, a5⟩ := ha
  obtain ⟨c1, c2, c3, c4, c5⟩ := hc
  unfold pk4
  omega
def ipos (n : Nat) (g : lends) (q : q4) : Nat := stp (fun z => decide (pk4 q < pk4 (g z))) n
def insS (s : LSt) (q : q4) : LSt := (s.1 + 1, insg s.2.1 q (ipos s.1 s.2.1 q), s.2.2)
def endS (s : LSt) (i d : Nat) : LSt := if (s.2.1 i).2.2.1 < d then (s.1, setg s.2.1 i ((s.2.1 i).1, (s.2.1 i).2.1, (s.2.1 i).2.2.1, d - 1), s.2.2) else (s.1 - 1, cutg s.2.1 i, s.2.2)
def flipS (s : LSt) (p d : Nat) : LSt := (s.1, s.2.1, fun x => if x = p then s.2.2 p ^^^ 2 ^ d else s.2.2 x)
def free (n : Nat) (g : lends) (q : q4) : Prop := (∀ i, i < n → hitm g q.1 q.2.2.1 q.2.2.2 i = false) ∧ (∀ i, i < n → hitp g q.2.1 q.2.2.1 q.2.2.2 i = false)
theorem ipos_le (n : Nat) (g : lends) (q : q4) : ipos n g q ≤ n := stp_le _ n
theorem ipos_hi {F : bkF} {s : LSt} {q : q4} (h : LOK F s) (hq : okq F q) (hf : free s.1 s.2.1 q) {z : Nat} (h1 : ipos s.1 s.2.1 q ≤ z) (h2 : z < s.1) : rl q (s.2.1 z) := by
  have c := stp_ge _ s.1 z h1 h2
  simp only [decide_eq_true_eq] at c
  obtain ⟨a1, a2, a3, a4, a5⟩ := (h.2.1 z h2).1
  obtain ⟨⟨c1, c2, c3, c4, c5⟩, -⟩ := hq
  have m1 := hf.1 z h2
  have p1 := hf.2 z h2
  simp only [hitm, hitp, ovl, Bool.and_eq_false_iff, decide_eq_false_iff_not] at m1 p1
  unfold pk4 at c
  unfold rl
  omega
theorem ipos_lo {F : bkF} {s : LSt} {q : q4} (h : LOK F s) (hq : okq F q) (hf : free s.1 s.2.1 q) {z : Nat} (h1 : z < ipos s.1 s.2.1 q) : rl (s.2.1 z) q := by
  have hle := ipos_le s.1 s.2.1 q
  obtain ⟨k, hk⟩ : ∃ k, ipos s.1 s.2.1 q = k + 1 := ⟨ipos s.1 s.2.1 q - 1, by omega⟩
  have c := stp_lt _ s.1 k hk
  simp only [decide_eq_false_iff_not] at c
  have c2 : pk4 (s.2.1 z) ≤ pk4 (s.2.1 k) := by
    by_cases e : z = k
    · subst e; exact Nat.le_refl _
    · exact Nat.le_of_lt (rl_pk (h.2.1 z (by omega)).1 (h.2.1 k (by omega)).1 (h.rel (by omega) (by omega)))
  have c3 : pk4 (s.2.1 z) ≤ pk4 q := by omega
  obtain ⟨a1, a2, a3, a4, a5⟩ := (h.2.1 z (by omega)).1
  obtain ⟨⟨d1, d2, d3, d4, d5⟩, -⟩ := hq
  have m1 := hf.1 z (by omega)
  have p1 := hf.2 z (by omega)
  simp only [hitm, hitp, ovl, Bool.and_eq_false_iff, decide_eq_false_iff_not] at m1 p1
  unfold pk4 at c3
  unfold rl
  omega
theorem LOK.of {F : bkF} {s : LSt} (h20 : s.1 ≤ 20) (h1 : ∀ i, i < s.1 → okq F (s.2.1 i)) (h2 : ∀ i j, i < j → j < s.1 → rl (s.2.1 i) (s.2.1 j)) (h3 : ∀ p, s.2.2 p < 2097152) : LOK F s := ⟨h20, h1, h2, h3⟩
theorem lok_ins {F : bkF} {s : LSt} {q : q4} (h : LOK F s) (h20 : s.1 < 20) (hq : okq F q) (hf : free s.1 s.2.1 q) : LOK F (insS s q) := by
  have hle := ipos_le s.1 s.2.1 q
  refine LOK.of (s := insS s q) (by show s.1 + 1 ≤ 20; omega) (fun i hi => ?_) (fun i j hij hj => ?_) h.2.2.2
  · replace hi : i < s.1 + 1 := hi
    show okq F (insg s.2.1 q (ipos s.1 s.2.1 q) i)
    unfold insg
    split
    · exact h.2.1 i (by omega)
    · split
      · exact hq
      · exact h.2.1 (i - 1) (by omega)
  · replace hj : j < s.1 + 1 := hj
    show rl (insg s.2.1 q (ipos s.1 s.2.1 q) i) (insg s.2.1 q (ipos s.1 s.2.1 q) j)
    unfold insg
    by_cases i1 : i < ipos s.1 s.2.1 q
    · rw [if_pos i1]
      by_cases j1 : j < ipos s.1 s.2.1 q
      · rw [if_pos j1]; exact h.rel hij (by omega)
      · rw [if_neg j1]
        by_cases j2 : j = ipos s.1 s.2.1 q
        · rw [if_pos j2]; exact ipos_lo h hq hf i1
        · rw [if_neg j2]; exact h.rel (by omega) (by omega)
    · rw [if_neg i1, if_neg (show ¬ j < ipos s.1 s.2.1 q by omega), if_neg (show ¬ j = ipos s.1 s.2.1 q by omega)]
      by_cases i2 : i = ipos s.1 s.2.1 q
      · rw [if_pos i2]; exact ipos_hi h hq hf (by omega) (by omega)
      · rw [if_neg i2]; exact h.rel (by omega) (by omega)
theorem rl_cut {a c : q4} {x y : Nat} (ha : a.2.2.1 ≤ a.2.2.2) (hc : c.2.2.1 ≤ c.2.2.2) (hx : x ≤ a.2.2.2) (hy : y ≤ c.2.2.2) (h : rl a c) : rl (a.1, a.2.1, a.2.2.1, x) (c.1, c.2.1, c.2.2.1, y) := by
  unfold rl at *
  simp only
  omega
theorem lok_end {F : bkF} {s : LSt} {i d : Nat} (h : LOK F s) (hi : i < s.1) (h1 : (s.2.1 i).2.2.1 ≤ d) (h2 : d ≤ (s.2.1 i).2.2.2) : LOK F (endS s i d) := by
  unfold endS
  split
  · rename_i hd
    refine LOK.of h.1 (fun j hj => ?_) (fun x y hxy hy => ?_) h.2.2.2
    · show okq F (setg _ i _ j)
      unfold setg
      split
      · obtain ⟨⟨a1, a2, a3, a4, a5⟩, a6, a7, a8, a9⟩ := h.2.1 i hi
        exact ⟨⟨a1, a2, a3, by show (s.2.1 i).2.2.1 ≤ d - 1; omega, by show d - 1 ≤ 20; omega⟩, a6, a7, by show d - 1 ≤ F 0; omega, a9⟩
      · exact h.2.1 j hj
    · replace hy : y < s.1 := hy
      have r0 := h.rel hxy hy
      obtain ⟨⟨a1, a2, a3, a4, a5⟩, -⟩ := h.2.1 x (by omega)
      obtain ⟨⟨c1, c2, c3, c4, c5⟩, -⟩ := h.2.1 y hy
      show rl (setg _ i _ x) (setg _ i _ y)
      unfold setg
      by_cases e1 : x = i
      · subst e1
        rw [if_pos rfl, if_neg (by omega)]
        exact rl_cut a4 c4 (by omega) (Nat.le_refl _) r0
      · rw [if_neg e1]
        by_cases e2 : y = i
        · subst e2
          rw [if_pos rfl]
          exact rl_cut a4 c4 (Nat.le_refl _) (by omega) r0
        · rw [if_neg e2]; exact r0
  · have h20 := h.1
    refine LOK.of (by show s.1 - 1 ≤ 20; omega) (fun j hj => ?_) (fun x y hxy hy => ?_) h.2.2.2
    · replace hj : j < s.1 - 1 := hj
      show okq F (cutg _ i j)
      unfold cutg
      split
      · exact h.2.1 j (by omega)
      · exact h.2.1 (j + 1) (by omega)
    · replace hy : y < s.1 - 1 := hy
      show rl (cutg _ i x) (cutg _ i y)
      unfold cutg
      by_cases e1 : x < i <;> by_cases e2 : y < i
      · rw [if_pos e1, if_pos e2]; exact h.rel hxy (by omega)
      · rw [if_pos e1, if_neg e2]; exact h.rel (by omega) (by omega)
      · omega
      · rw [if_neg e1, if_neg e2]; exact h.rel (by omega) (by omega)
theorem lok_flip {F : bkF} {s : LSt} {p d : Nat} (h : LOK F s) (hd : d < 21) : LOK F (flipS s p d) := by
  refine ⟨h.1, h.2.1, h.2.2.1, fun x => ?_⟩
  show (if x = p then s.2.2 p ^^^ 2 ^ d else s.2.2 x) < 2097152
  split
  · exact Nat.xor_lt_two_pow (n := 21) (h.2.2.2 p) (Nat.pow_lt_pow_right (by decide) hd)
  · exact h.2.2.2 x
theorem fup_isNone {p : Nat → Bool} {n : Nat} (h : (fup p 0 n).isNone = true) : ∀ i, i < n → p i = false := by
  intro i hi
  rw [Option.isNone_iff_eq_none] at h
  exact fup_none h i (Nat.zero_le _) (by omega)
theorem endS_br (s : LSt) (i d : Nat) : (endS s i d).2.2 = s.2.2 := by unfold endS; split <;> rfl
/-- behind the lending's end ahead of d, its mask is free from d to its last day, and whoever had no mask has none -/
theorem free_pass {F : bkF} {s : LSt} {i m p d : Nat} (h : LOK F s) (hi : i < s.1) (hm : (s.2.1 i).1 = m) (h1 : (s.2.1 i).2.2.1 ≤ d) (h2 : d ≤ (s.2.1 i).2.2.2) (hp : ∀ j, j < s.1 → hitp s.2.1 p d (s.2.1 i).2.2.2 j = false) : free (endS s i d).1 (endS s i d).2.1 (m, p, d, (s.2.1 i).2.2.2) := by
  have K : ∀ j, j < s.1 → j ≠ i → hitm s.2.1 m d (s.2.1 i).2.2.2 j = false := by
    intro j hj hji
    obtain ⟨⟨a1, a2, a3, a4, a5⟩, -⟩ := h.2.1 j hj
    obtain ⟨⟨c1, c2, c3, c4, c5⟩, -⟩ := h.2.1 i hi
    simp only [hitm, ovl, Bool.and_eq_false_iff, decide_eq_false_iff_not]
    rcases Nat.lt_or_gt_of_ne hji with q | q
    · have r0 := (h.rel q hi).1; omega
    · have r0 := (h.rel q hj).1; omega
  unfold endS
  split
  · rename_i hd
    refine ⟨fun j hj => ?_, fun j hj => ?_⟩
    · replace hj : j < s.1 := hj
      by_cases e : j = i
      · subst e
        simp only [hitm, ovl, setg, if_true, Bool.and_eq_false_iff, decide_eq_false_iff_not]
        omega
      · have := K j hj e
        simp only [hitm, ovl, setg, if_neg e] at this ⊢
        exact this
    · replace hj : j < s.1 := hj
      by_cases e : j = i
      · subst e
        simp only [hitp, ovl, setg, if_true, Bool.and_eq_false_iff, decide_eq_false_iff_not]
        omega
      · have := hp j hj
        simp only [hitp, ovl, setg, if_neg e] at this ⊢
        exact this
  · refine ⟨fun j hj => ?_, fun j hj => ?_⟩
    · replace hj : j < s.1 - 1 := hj
      by_cases e : j < i
      · have := K j (by omega) (by omega)
        simp only [hitm, ovl, cutg, if_pos e] at this ⊢
        exact this
      · have := K (j + 1) (by omega) (by omega)
        simp only [hitm, ovl, cutg, if_neg e] at this ⊢
        exact this
    · replace hj : j < s.1 - 1 := hj
      by_cases e : j < i
      · have := hp j (by omega)
        simp only [hitp, ovl, cutg, if_pos e] at this ⊢
        exact this
      · have := hp (j + 1) (by omega)
        simp only [hitp, ovl, cutg, if_neg e] at this ⊢
        exact this
/-! acts: what becomes of the history -/
def stepS (S : Nat → LSt) (s : LSt) : Nat → LSt := fun k => if k = 0 then s else S ((k + 1) % 13)
def backS (S : Nat → LSt) : Nat → LSt := fun k => S ((k + 12) % 13)
def forthS (S : Nat → LSt) : Nat → LSt := fun k => S ((k + 1) % 13)
def putS (S : Nat → LSt) (s : LSt) : Nat → LSt := fun k => if k = 0 then s else S k
def upU (u : Nat) : Nat := if u + 1 < 12 then u + 1 else 12
section
variable {I J : HI} {L : HL} {R : HR} {B B2 t : Nat} {tp : Nat → Nat} {nt tr fa pl : Nat} {F : bkF} {S : Nat → LSt} {u r : Nat} {im : Nat → LSt} {ic : Nat} {t' u' r' ic' : Nat} {S' im' : Nat → LSt}
theorem cb_hist (h : ClsB I L R B B2 t tp nt tr fa pl F S u r im ic) (hx : ∀ x, x < 94 → J x = I x) (hf : J 94 1 = nI t' ∧ t' < 13 ∧ J 94 2 = nI u' ∧ J 94 3 = nI r' ∧ u' + r' ≤ 12 ∧ ∀ k, live u' r' k → LDI J (ring t' k) (S' k).1 (S' k).2.1 (S' k).2.2 ∧ LOK F (S' k)) (hg : J 94 5 = nI ic' ∧ ic' ≤ 3 ∧ ∀ c, c < ic' → LDI J (136 + 3 * c) (im' c).1 (im' c).2.1 (im' c).2.2 ∧ LOK F (im' c)) : ClsB J L R B B2 t' tp nt tr fa pl F S' u' r' im' ic' := by
  obtain ⟨a1, b1, ⟨c1, c2, c3⟩, ⟨d1, d2, d3, d4, d5⟩, ⟨e1, e2, e3⟩, f1, g1, k1⟩ := h
  refine ⟨a1, b1, ⟨by rw [hx 0 (by decide)]; exact c1, c2, fun i hi => by rw [hx 1 (by decide)]; exact c3 i hi⟩, ⟨by rw [hx 0 (by decide)]; exact d1, d2, by rw [hx 0 (by decide)]; exact d3, d4, fun q => by rw [hx 0 (by decide)]; exact d5 q⟩, ⟨e1.fr b1.2.2.1 e2 (fun x q => hx x (by omega)), e2, e3⟩, hf, hg, fun i hi => ⟨(k1 i hi).1, by rw [hx 92 (by decide)]; exact (k1 i hi).2⟩⟩
theorem ring_ne {t k : Nat} (ht : t < 13) (hk : k < 13) (h0 : ¬ k = 0) : ring t k ≠ 97 + 3 * t ∧ ring t k ≠ 97 + 3 * t + 1 ∧ ring t k ≠ 97 + 3 * t + 2 ∧ ring t k + 1 ≠ 97 + 3 * t ∧ ring t k + 1 ≠ 97 + 3 * t + 1 ∧ ring t k + 1 ≠ 97 + 3 * t + 2 ∧ ring t k + 2 ≠ 97 + 3 * t ∧ ring t k + 2 ≠ 97 + 3 * t + 1 ∧ ring t k + 2 ≠ 97 + 3 * t + 2 ∧ 97 ≤ ring t k ∧ ring t k < 134 := by
  unfold ring; omega
theorem ring_s {t k : Nat} (ht : t < 13) : ring ((t + 1) % 13) k = ring t ((k + 1) % 13) := by unfold ring; omega
theorem ring_b {t k : Nat} (ht : t < 13) : ring ((t + 12) % 13) k = ring t ((k + 12) % 13) := by unfold ring; omega
theorem cb_step {s : LSt} (h : ClsB I L R B B2 t tp nt tr fa pl F S u r im ic) (hx : ∀ x, x ≠ 94 → x ≠ 97 + 3 * ((t + 1) % 13) → x ≠ 97 + 3 * ((t + 1) % 13) + 1 → x ≠ 97 + 3 * ((t + 1) % 13) + 2 → J x = I x) (h1 : J 94 1 = nI ((t + 1) % 13)) (h2 : J 94 2 = nI (upU u)) (h3 : J 94 3 = nI 0) (h5 : J 94 5 = I 94 5) (hl : LDI J (97 + 3 * ((t + 1) % 13)) s.1 s.2.1 s.2.2) (hk : LOK F s) : ClsB J L R B B2 ((t + 1) % 13) tp nt tr fa pl F (stepS S s) (upU u) 0 im ic := by
  have ht := cb_t h
  have ht2 : (t + 1) % 13 < 13 := by omega
  obtain ⟨-, -, -, -, -, ⟨f1, f2, f3, f4, f5, f6⟩, ⟨g1, g2, g3⟩, -⟩ := id h
  refine cb_hist h (fun x q => hx x (by omega) (by omega) (by omega) (by omega)) ⟨h1, ht2, h2, h3, by unfold upU; split <;> omega, fun k hkl => ?_⟩ ⟨by rw [h5]; exact g1, g2, fun c hc => ⟨(g3 c hc).1.same (hx _ (by omega) (by omega) (by omega) (by omega)) (hx _ (by omega) (by omega) (by omega) (by omega)) (hx _ (by omega) (by omega) (by omega) (by omega)), (g3 c hc).2⟩⟩
  by_cases k0 : k = 0
  · subst k0
    rw [show stepS S s 0 = s from rfl, ring0 ht2]
    exact ⟨hl, hk⟩
  · rw [show stepS S s k = S ((k + 1) % 13) from if_neg k0]
    have hkl2 : live u r ((k + 1) % 13) := by
      unfold live upU at *
      obtain ⟨q1, q2⟩ := hkl
      split at q2 <;> omega
    obtain ⟨q1, q2⟩ := f6 _ hkl2
    rw [← ring_s ht] at q1
    have n := ring_ne ht2 hkl.1 k0
    exact ⟨q1.same (hx _ (by omega) (by omega) (by omega) (by omega)) (hx _ (by omega) (by omega) (by omega) (by omega)) (hx _ (by omega) (by omega) (by omega) (by omega)), q2⟩
theorem cb_put {s : LSt} (h : ClsB I L R B B2 t tp nt tr fa pl F S u r im ic) (hx : ∀ x, x ≠ 94 → x ≠ 97 + 3 * t → x ≠ 97 + 3 * t + 1 → x ≠ 97 + 3 * t + 2 → J x = I x) (h1 : J 94 1 = nI t) (h2 : J 94 2 = nI 0) (h3 : J 94 3 = nI 0) (h5 : J 94 5 = I 94 5) (hl : LDI J (97 + 3 * t) s.1 s.2.1 s.2.2) (hk : LOK F s) : ClsB J L R B B2 t tp nt tr fa pl F (putS S s) 0 0 im ic := by
  have ht := cb_t h
  obtain ⟨-, -, -, -, -, ⟨f1, f2, f3, f4, f5, f6⟩, ⟨g1, g2, g3⟩, -⟩ := id h
  refine cb_hist h (fun x q => hx x (by omega) (by omega) (by omega) (by omega)) ⟨h1, ht, h2, h3, by omega, fun k hkl => ?_⟩ ⟨by rw [h5]; exact g1, g2, fun c hc => ⟨(g3 c hc).1.same (hx _ (by omega) (by omega) (by omega) (by omega)) (hx _ (by omega) (by omega) (by omega) (by omega)) (hx _ (by omega) (by omega) (by omega) (by omega)), (g3 c hc).2⟩⟩
  have k0 : k = 0 := by unfold live at hkl; omega
  subst k0
  rw [show putS S s 0 = s from rfl, ring0 ht]
  exact ⟨hl, hk⟩
theorem cb_same (h : ClsB I L R B B2 t tp nt tr fa pl F S u r im ic) (hx : ∀ x, x ≠ 94 → J x = I x) (h1 : J 94 1 = nI t') (ht' : t' < 13) (h2 : J 94 2 = nI u') (h3 : J 94 3 = nI r') (h12 : u' + r' ≤ 12) (h5 : J 94 5 = I 94 5) (hs : ∀ k, live u' r' k → ∃ k', live u r k' ∧ ring t' k = ring t k' ∧ S' k = S k') : ClsB J L R B B2 t' tp nt tr fa pl F S' u' r' im ic := by
  obtain ⟨-, -, -, -, -, ⟨f1, f2, f3, f4, f5, f6⟩, ⟨g1, g2, g3⟩, -⟩ := id h
  refine cb_hist h (fun x q => hx x (by omega)) ⟨h1, ht', h2, h3, h12, fun k hkl => ?_⟩ ⟨by rw [h5]; exact g1, g2, fun c hc => ⟨(g3 c hc).1.same (hx _ (by omega)) (hx _ (by omega)) (hx _ (by omega)), (g3 c hc).2⟩⟩
  obtain ⟨k', q1, q2, q3⟩ := hs k hkl
  have := f6 k' q1
  rw [q2, q3]
  exact ⟨this.1.same (hx _ (by unfold ring; omega)) (hx _ (by unfold ring; omega)) (hx _ (by unfold ring; omega)), this.2⟩
theorem cb_img (h : ClsB I L R B B2 t tp nt tr fa pl F S u r im ic) (hc3 : ic < 3) (hl : LDI J (136 + 3 * ic) (S 0).1 (S 0).2.1 (S 0).2.2) (h5 : J 94 5 = nI (ic + 1)) (hj : ∀ j, j ≠ 5 → J 94 j = I 94 j) (hx : ∀ x, x ≠ 94 → x ≠ 136 + 3 * ic → x ≠ 136 + 3 * ic + 1 → x ≠ 136 + 3 * ic + 2 → J x = I x) : ClsB J L R B B2 t tp nt tr fa pl F S u r (fun c => if c = ic then S 0 else im c) (ic + 1) := by
  have hK := cb_K h
  obtain ⟨-, -, -, -, -, ⟨f1, f2, f3, f4, f5, f6⟩, ⟨g1, g2, g3⟩, -⟩ := id h
  refine cb_hist h (fun x q => hx x (by omega) (by omega) (by omega) (by omega)) ⟨by rw [hj 1 (by decide)]; exact f1, f2, by rw [hj 2 (by decide)]; exact f3, by rw [hj 3 (by decide)]; exact f4, f5, fun k hkl => ?_⟩ ⟨h5, by omega, fun c hc => ?_⟩
  · have q := f6 k hkl
    have n : 97 ≤ ring t k ∧ ring t k < 134 := by unfold ring; omega
    exact ⟨q.1.same (hx _ (by omega) (by omega) (by omega) (by omega)) (hx _ (by omega) (by omega) (by omega) (by omega)) (hx _ (by omega) (by omega) (by omega) (by omega)), q.2⟩
  · by_cases e : c = ic
    · subst e
      simp only [if_true]
      exact ⟨hl, hK⟩
    · simp only [if_neg e]
      have q := g3 c (by omega)
      exact ⟨q.1.same (hx _ (by omega) (by omega) (by omega) (by omega)) (hx _ (by omega) (by omega) (by omega) (by omega)) (hx _ (by omega) (by omega) (by omega) (by omega)), q.2⟩
end
