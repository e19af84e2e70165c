/-! each line keeps what stands, and goes on -/
section
variable {tp : Nat → Nat} {sz : Nat} {s u : PS}
theorem PInv.ad (h : PInv sz s) (ha : Ad sz s u) : PInv sz u := by
  obtain ⟨e1, e2, e3⟩ := ha
  unfold PInv at h ⊢
  rw [e1]
  exact ⟨e3, h.2⟩
theorem keepF_lo {F : bkF} {e n x : Nat} (h : x < 192) : keepF tp sz F e n x = F x := keepF_o (by omega) (by omega)
theorem pinv_mk {e : Nat} {F : bkF} {l : LSt} (h1 : e ≤ sz) (h2 : FOK F) (h3 : F 7 ≤ 8) (h4 : F 0 = 0 → F 4 = 0 ∧ F 5 = 0 ∧ F 6 = 0 ∧ F 7 = 0 ∧ l.1 = 0) (h5 : l.1 ≤ 12) (h6 : LOK F l) (h7 : NmK F) (h8 : ∀ p, F 3 ≤ p → p < 6 → F (38 + p) = 0 ∧ F (44 + p) = 0 ∧ F (50 + p) = 0) (h9 : ∀ x, F 5 ≤ x → x < 8 → F (132 + 5 * x) = 0) : PInv sz (e, F, l) := ⟨h1, h2, h3, h4, h5, h6, h7, h8, h9⟩
theorem inv_town (hb : ∀ i, i < sz → tp i < 256) (h : PInv sz s) (h0 : s.2.1 0 = 0) (hl : lTown tp sz s = .inr u) : PInv sz u ∧ s.1 ≤ u.1 := by
  obtain ⟨v, h1, h2⟩ := bnd_i hl
  obtain ⟨⟨e1, e2, e3⟩, q1, q2⟩ := qWhole_i hb h.1 h1
  obtain ⟨i1, i2, i3, i4, i5, i6, i7, i8, i9⟩ := h
  cases h2
  have eF : v.2.2.1 = s.2.1 := congrArg Prod.fst e1
  have eL : v.2.2.2 = s.2.2 := congrArg Prod.snd e1
  refine ⟨?_, e2⟩
  unfold setS
  rw [eF, eL]
  generalize hG : setF s.2.1 0 v.1 = G
  have e : ∀ x, x ≠ 0 → G x = s.2.1 x := fun x hx => by rw [← hG]; exact setF_n hx
  have e0 : G 0 = v.1 := by rw [← hG]; exact setF_s _ _ _
  have g1 := e 1 (by decide)
  have g2 := e 2 (by decide)
  have g3 := e 3 (by decide)
  have g5 := e 5 (by decide)
  have g7 := e 7 (by decide)
  refine pinv_mk e3 (i2.town (fun x _ hx => e x hx) (by omega) (by omega)) (by omega) (fun z => by omega) i5 (i6.mono (by omega) (by omega) (by omega) (fun m hm => ⟨e _ (by omega), e _ (by omega)⟩) (fun m hm => ⟨e _ (by omega), e _ (by omega), e _ (by omega)⟩)) (i7.same (fun x hx => e x (by omega)) g1 g2 g3) (fun p hp hp6 => ?_) (fun x hx hx8 => ?_)
  · have := i8 p (by omega) hp6
    have w1 := e (38 + p) (by omega)
    have w2 := e (44 + p) (by omega)
    have w3 := e (50 + p) (by omega)
    omega
  · have := i9 x (by omega) hx8
    have w1 := e (132 + 5 * x) (by omega)
    omega
/-- one thing more is told: what stays -/
theorem inv_more {F' : bkF} {e' : Nat} (h : PInv sz s) (he : e' ≤ sz) (hF : FOK F') (h7 : F' 7 ≤ 8) (hz : F' 0 = 0 → F' 4 = 0 ∧ F' 5 = 0 ∧ F' 6 = 0 ∧ F' 7 = 0) (e0 : F' 0 = s.2.1 0) (h2 : s.2.1 2 ≤ F' 2) (h3 : s.2.1 3 ≤ F' 3) (hm : ∀ m, m < s.2.1 2 → F' (8 + m) = s.2.1 (8 + m) ∧ F' (14 + m) = s.2.1 (14 + m)) (hp : ∀ p, p < s.2.1 3 → F' (26 + p) = s.2.1 (26 + p) ∧ F' (32 + p) = s.2.1 (32 + p) ∧ F' (38 + p) = s.2.1 (38 + p)) (hn : NmK F') (hq : ∀ p, F' 3 ≤ p → p < 6 → F' (38 + p) = 0 ∧ F' (44 + p) = 0 ∧ F' (50 + p) = 0) (hx : ∀ x, F' 5 ≤ x → x < 8 → F' (132 + 5 * x) = 0) : PInv sz (e', F', s.2.2) := by
  obtain ⟨i1, i2, i3, i4, i5, i6, i7, i8, i9⟩ := h
  refine ⟨he, hF, h7, fun z => ?_, i5, i6.mono h2 h3 (Nat.le_of_eq e0.symm) hm hp, hn, hq, hx⟩
  have z2 : F' 0 = 0 := z
  exact ⟨(hz z2).1, (hz z2).2.1, (hz z2).2.2.1, (hz z2).2.2.2, (i4 (by rw [← e0]; exact z2)).2.2.2.2⟩
theorem inv_wk (hb : ∀ i, i < sz → tp i < 256) (h : PInv sz s) (h5 : s.2.1 1 < 5) (hk : nmok tp sz s.1 = true) (hf : fnd tp sz s.2.1 s.1 = none) : PInv sz (wkS tp sz s) ∧ s.1 ≤ (wkS tp sz s).1 ∧ (wkS tp sz s).2.1 1 = s.2.1 1 + 1 := by
  have a1 := ad_nx (tp := tp) hb h.1
  have hk2 := tk_2 hb h.1 (nmok_2 hk)
  have hw := tL_wok hb h.1 (nmok_2 hk)
  obtain ⟨i1, i2, i3, i4, i5, i6, i7, i8, i9⟩ := id h
  have e1 : setF (keepF tp sz s.2.1 s.1 (s.2.1 1)) 1 (s.2.1 1 + 1) 1 = s.2.1 1 + 1 := setF_s _ _ _
  have e : ∀ x, x < 192 → x ≠ 1 → setF (keepF tp sz s.2.1 s.1 (s.2.1 1)) 1 (s.2.1 1 + 1) x = s.2.1 x := fun x hx h1 => by rw [setF_n h1, keepF_lo hx]
  refine ⟨?_, a1.2.1, e1⟩
  show PInv sz (tE tp sz s.1, setF (keepF tp sz s.2.1 s.1 (s.2.1 1)) 1 (s.2.1 1 + 1), s.2.2)
  refine inv_more (s := s) h a1.2.2 (i2.work h5 e1 (fun x hx h1 _ => e x hx h1) trivial) (by rw [e 7 (by decide) (by decide)]; exact i3) ?_ (e 0 (by decide) (by decide)) (by rw [e 2 (by decide) (by decide)]; exact Nat.le_refl _) (by rw [e 3 (by decide) (by decide)]; exact Nat.le_refl _) (fun m hm => ?_) (fun p hp => ?_) (i7.keep (tp := tp) (sz := sz) (e := s.1) (n := s.2.1 1) (by omega) hk2.2.2.2.1 hk2.2.2.2.2.1 hw.1 hf (fun x hx => setF_n (by omega)) (fun x hx => ?_) ?_) (fun p hp hp6 => ?_) (fun x hx hx8 => ?_)
  · rw [e 0 (by decide) (by decide), e 4 (by decide) (by decide), e 5 (by decide) (by decide), e 6 (by decide) (by decide), e 7 (by decide) (by decide)]
    exact fun z => ⟨(i4 z).1, (i4 z).2.1, (i4 z).2.2.1, (i4 z).2.2.2.1⟩
  · have := i2.2.2.1
    exact ⟨e _ (by omega) (by omega), e _ (by omega) (by omega)⟩
  · have := i2.2.2.2.1
    exact ⟨e _ (by omega) (by omega), e _ (by omega) (by omega), e _ (by omega) (by omega)⟩
  · unfold tn
    rw [e1, e 2 (by decide) (by decide), e 3 (by decide) (by decide)]
    omega
  · unfold tn; omega
  · rw [e 3 (by decide) (by decide)] at hp
    rw [e _ (by omega) (by omega), e _ (by omega) (by omega), e _ (by omega) (by omega)]
    exact i8 p hp hp6
  · rw [e 5 (by decide) (by decide)] at hx
    rw [e _ (by omega) (by omega)]
    exact i9 x hx hx8
theorem inv_work (hb : ∀ i, i < sz → tp i < 256) : ∀ (n : Nat) (s u : PS), PInv sz s → lWork tp sz n s = .inr u → PInv sz u ∧ s.1 ≤ u.1
  | 0, s, u, h, hl => by cases hl; exact ⟨h, Nat.le_refl _⟩
  | n + 1, s, u, h, hl => by
    obtain ⟨v, h1, h2⟩ := bnd_i hl
    obtain ⟨rfl, hk, hf⟩ := qNew_i h1
    split at h2
    · cases h2
    · next q =>
      obtain ⟨w1, w2, -⟩ := inv_wk hb h (by omega) hk hf
      split at h2
      · have a := ad_nx (tp := tp) hb w1.1
        have := inv_work hb n _ u (w1.ad a) h2
        exact ⟨this.1, Nat.le_trans w2 (Nat.le_trans a.2.1 this.2)⟩
      · cases h2; exact ⟨w1, w2⟩
theorem inv_mask (hb : ∀ i, i < sz → tp i < 256) (h : PInv sz s) (h6 : s.2.1 2 < 6) (hl : lMask tp sz s = .inr u) : PInv sz u ∧ s.1 ≤ u.1 := by
  obtain ⟨v, h1, g⟩ := bnd_i hl
  obtain ⟨rfl, hk, hf⟩ := qNew_i h1
  obtain ⟨k, h2, g⟩ := bnd_i g
  obtain ⟨a, h3, g⟩ := bnd_i g
  obtain ⟨c, h4, g⟩ := bnd_i g
  have a1 := ad_nx (tp := tp) hb h.1
  obtain ⟨ek, hk5⟩ := qKind_i h2
  have a2 : Ad sz (kept tp sz (5 + v.2.1 2) v) k.2 := by rw [ek]; exact ad_nx hb a1.2.2
  obtain ⟨a3, b1, b2⟩ := qWhole_i hb a2.2.2 h3
  obtain ⟨a4, c1, c2⟩ := qWhole_i hb a3.2.2 h4
  have a5 := a2.trans (a3.trans a4)
  have hk2 := tk_2 hb h.1 (nmok_2 hk)
  have hw := tL_wok hb h.1 (nmok_2 hk)
  obtain ⟨i1, i2, i3, i4, i5, i6, i7, i8, i9⟩ := id h
  cases g
  have eF : c.2.2.1 = keepF tp sz v.2.1 v.1 (5 + v.2.1 2) := congrArg Prod.fst a5.1
  have eL : c.2.2.2 = v.2.2 := by have q := congrArg Prod.snd a5.1; exact q
  refine ⟨?_, Nat.le_trans a1.2.1 a5.2.1⟩
  unfold setS
  rw [eF, eL]
  generalize hG : setF (setF (setF (setF (keepF tp sz v.2.1 v.1 (5 + v.2.1 2)) (8 + v.2.1 2) k.1) (14 + v.2.1 2) a.1) (20 + v.2.1 2) c.1) 2 (v.2.1 2 + 1) = G
  have g2 : G 2 = v.2.1 2 + 1 := by rw [← hG]; exact setF_s _ _ _
  have ga : G (8 + v.2.1 2) = k.1 := by rw [← hG, setF_n (by omega), setF_n (by omega), setF_n (by omega)]; exact setF_s _ _ _
  have gb : G (14 + v.2.1 2) = a.1 := by rw [← hG, setF_n (by omega), setF_n (by omega)]; exact setF_s _ _ _
  have gc : G (20 + v.2.1 2) = c.1 := by rw [← hG, setF_n (by omega)]; exact setF_s _ _ _
  have e : ∀ x, x < 192 → x ≠ 2 → x ≠ 8 + v.2.1 2 → x ≠ 14 + v.2.1 2 → x ≠ 20 + v.2.1 2 → G x = v.2.1 x := fun x hx q1 q2 q3 q4 => by rw [← hG, setF_n q1, setF_n q4, setF_n q3, setF_n q2, keepF_lo hx]
  have eh : ∀ x, 192 ≤ x → G x = keepF tp sz v.2.1 v.1 (5 + v.2.1 2) x := fun x hx => by rw [← hG, setF_n (by omega), setF_n (by omega), setF_n (by omega), setF_n (by omega)]
  have g0 := e 0 (by decide) (by omega) (by omega) (by omega) (by omega)
  have g1 := e 1 (by decide) (by omega) (by omega) (by omega) (by omega)
  have g3 := e 3 (by decide) (by omega) (by omega) (by omega) (by omega)
  have g4 := e 4 (by decide) (by omega) (by omega) (by omega) (by omega)
  have g5 := e 5 (by decide) (by omega) (by omega) (by omega) (by omega)
  have g6 := e 6 (by decide) (by omega) (by omega) (by omega) (by omega)
  have g7 := e 7 (by decide) (by omega) (by omega) (by omega) (by omega)
  have o1 := i2.2.1
  have o3 := i2.2.2.2.1
  refine inv_more (s := v) h a5.2.2 (i2.mask h6 g2 e ⟨by omega, by omega, by omega⟩) (by omega) (fun z => ?_) g0 (by omega) (by omega) (fun m hm => ⟨e _ (by omega) (by omega) (by omega) (by omega) (by omega), e _ (by omega) (by omega) (by omega) (by omega) (by omega)⟩) (fun p hp => ⟨e _ (by omega) (by omega) (by omega) (by omega) (by omega), e _ (by omega) (by omega) (by omega) (by omega) (by omega), e _ (by omega) (by omega) (by omega) (by omega) (by omega)⟩) (i7.keep (tp := tp) (sz := sz) (e := v.1) (n := 5 + v.2.1 2) (by omega) hk2.2.2.2.1 hk2.2.2.2.2.1 hw.1 hf eh (fun x hx => ?_) ?_) (fun p hp hp6 => ?_) (fun x hx hx8 => ?_)
  · have := i4 (by omega); omega
  · unfold tn; rw [g1, g2, g3]; omega
  · unfold tn; omega
  · have := i8 p (by omega) hp6
    have w1 := e (38 + p) (by omega) (by omega) (by omega) (by omega) (by omega)
    have w2 := e (44 + p) (by omega) (by omega) (by omega) (by omega) (by omega)
    have w3 := e (50 + p) (by omega) (by omega) (by omega) (by omega) (by omega)
    omega
  · have := i9 x (by omega) hx8
    have w1 := e (132 + 5 * x) (by omega) (by omega) (by omega) (by omega) (by omega)
    omega
theorem inv_person (hb : ∀ i, i < sz → tp i < 256) (h : PInv sz s) (h6 : s.2.1 3 < 6) (hl : lPerson tp sz s = .inr u) : PInv sz u ∧ s.1 ≤ u.1 := by
  obtain ⟨v, h1, g⟩ := bnd_i hl
  obtain ⟨rfl, hk, hf⟩ := qNew_i h1
  obtain ⟨a, h2, g⟩ := bnd_i g
  obtain ⟨c, h3, g⟩ := bnd_i g
  obtain ⟨t, h4, g⟩ := bnd_i g
  obtain ⟨d, h5, g⟩ := bnd_i g
  have a1 := ad_nx (tp := tp) hb h.1
  obtain ⟨a2, b1, b2⟩ := qWhole_i (s := kept tp sz (11 + v.2.1 3) v) hb a1.2.2 h2
  obtain ⟨a3, c1, c2⟩ := qWhole_i hb a2.2.2 h3
  obtain ⟨a4, d1⟩ := qChild_i (tp := tp) hb a3.2.2
  obtain ⟨a5, t1⟩ := qHabit_i hb a4.2.2 h4
  obtain ⟨a6, r1⟩ := qDoes_i hb a5.2.2 h5
  have a7 := a2.trans (a3.trans (a4.trans (a5.trans a6)))
  have hk2 := tk_2 hb h.1 (nmok_2 hk)
  have hw := tL_wok hb h.1 (nmok_2 hk)
  obtain ⟨i1, i2, i3, i4, i5, i6, i7, i8, i9⟩ := id h
  cases g
  have eF : d.2.2.1 = keepF tp sz v.2.1 v.1 (11 + v.2.1 3) := congrArg Prod.fst a7.1
  have eL : d.2.2.2 = v.2.2 := by have q := congrArg Prod.snd a7.1; exact q
  refine ⟨?_, Nat.le_trans a1.2.1 a7.2.1⟩
  unfold setS
  rw [eF, eL]
  generalize hG : psF (keepF tp sz v.2.1 v.1 (11 + v.2.1 3)) (v.2.1 3) a.1 c.1 (qChild tp sz c.2).1 t.1 d.1 = G
  unfold psF at hG
  have g3 : G 3 = v.2.1 3 + 1 := by rw [← hG]; exact setF_s _ _ _
  have ga : G (26 + v.2.1 3) = a.1 := by rw [← hG, setF_n (by omega), setF_n (by omega), setF_n (by omega), setF_n (by omega), setF_n (by omega)]; exact setF_s _ _ _
  have gb : G (32 + v.2.1 3) = c.1 := by rw [← hG, setF_n (by omega), setF_n (by omega), setF_n (by omega), setF_n (by omega)]; exact setF_s _ _ _
  have gc : G (38 + v.2.1 3) = (qChild tp sz c.2).1 := by rw [← hG, setF_n (by omega), setF_n (by omega), setF_n (by omega)]; exact setF_s _ _ _
  have gd : G (44 + v.2.1 3) = t.1 := by rw [← hG, setF_n (by omega), setF_n (by omega)]; exact setF_s _ _ _
  have ge : G (50 + v.2.1 3) = d.1 := by rw [← hG, setF_n (by omega)]; exact setF_s _ _ _
  have e : ∀ x, x < 192 → x ≠ 3 → x ≠ 26 + v.2.1 3 → x ≠ 32 + v.2.1 3 → x ≠ 38 + v.2.1 3 → x ≠ 44 + v.2.1 3 → x ≠ 50 + v.2.1 3 → G x = v.2.1 x := fun x hx q1 q2 q3 q4 q5 q6 => by rw [← hG, setF_n q1, setF_n q6, setF_n q5, setF_n q4, setF_n q3, setF_n q2, keepF_lo hx]
  have eh : ∀ x, 192 ≤ x → G x = keepF tp sz v.2.1 v.1 (11 + v.2.1 3) x := fun x hx => by rw [← hG, setF_n (by omega), setF_n (by omega), setF_n (by omega), setF_n (by omega), setF_n (by omega), setF_n (by omega)]
  have g0 := e 0 (by decide) (by omega) (by omega) (by omega) (by omega) (by omega) (by omega)
  have g1 := e 1 (by decide) (by omega) (by omega) (by omega) (by omega) (by omega) (by omega)
  have g2 := e 2 (by decide) (by omega) (by omega) (by omega) (by omega) (by omega) (by omega)
  have g4 := e 4 (by decide) (by omega) (by omega) (by omega) (by omega) (by omega) (by omega)
  have g5 := e 5 (by decide) (by omega) (by omega) (by omega) (by omega) (by omega) (by omega)
  have g6 := e 6 (by decide) (by omega) (by omega) (by omega) (by omega) (by omega) (by omega)
  have g7 := e 7 (by decide) (by omega) (by omega) (by omega) (by omega) (by omega) (by omega)
  have o1 := i2.2.1
  have o2 := i2.2.2.1
  refine inv_more (s := v) h a7.2.2 (i2.person h6 g3 e ⟨by omega, by omega, by omega, by omega, by omega⟩) (by omega) (fun z => ?_) g0 (by omega) (by omega) (fun m hm => ⟨e _ (by omega) (by omega) (by omega) (by omega) (by omega) (by omega) (by omega), e _ (by omega) (by omega) (by omega) (by omega) (by omega) (by omega) (by omega)⟩) (fun p hp => ⟨e _ (by omega) (by omega) (by omega) (by omega) (by omega) (by omega) (by omega), e _ (by omega) (by omega) (by omega) (by omega) (by omega) (by omega) (by omega), e _ (by omega) (by omega) (by omega) (by omega) (by omega) (by omega) (by omega)⟩) (i7.keep (tp := tp) (sz := sz) (e := v.1) (n := 11 + v.2.1 3) (by omega) hk2.2.2.2.1 hk2.2.2.2.2.1 hw.1 hf eh (fun x hx => ?_) ?_) (fun p hp hp6 => ?_) (fun x hx hx8 => ?_)
  · have := i4 (by omega); omega
  · unfold tn; rw [g1, g2, g3]; omega
  · unfold tn; omega
  · have := i8 p (by omega) hp6
    have w1 := e (38 + p) (by omega) (by omega) (by omega) (by omega) (by omega) (by omega) (by omega)
    have w2 := e (44 + p) (by omega) (by omega) (by omega) (by omega) (by omega) (by omega) (by omega)
    have w3 := e (50 + p) (by omega) (by omega) (by omega) (by omega) (by omega) (by omega) (by omega)
    omega
  · have := i9 x (by omega) hx8
    have w1 := e (132 + 5 * x) (by omega) (by omega) (by omega) (by omega) (by omega) (by omega) (by omega)
    omega
theorem inv_promise (hb : ∀ i, i < sz → tp i < 256) (h : PInv sz s) (h0 : s.2.1 0 ≠ 0) (h6 : s.2.1 4 < 12) (hl : lPromise tp sz s = .inr u) : PInv sz u ∧ s.1 ≤ u.1 := by
  obtain ⟨m, h1, hl⟩ := bnd_i hl
  obtain ⟨w, h2, hl⟩ := bnd_i hl
  obtain ⟨d, h3, hl⟩ := bnd_i hl
  obtain ⟨v, h4, hl⟩ := bnd_i hl
  obtain ⟨f, h5, hl⟩ := bnd_i hl
  obtain ⟨c, h7, hl⟩ := bnd_i hl
  have t1 : m.1 < s.2.1 2 := told_lt h (by decide) h1
  obtain ⟨E1, -, -, -, -⟩ := qTold_i h1
  have a1 : Ad sz s m.2 := by rw [E1]; exact ad_nx hb h.1
  have t2 : w.1 < m.2.2.1 1 := told_lt (h.ad a1) (by decide) h2
  rw [show m.2.2.1 = s.2.1 from congrArg Prod.fst a1.1] at t2
  obtain ⟨E2, -, -, -, -⟩ := qTold_i h2
  have a2 : Ad sz m.2 w.2 := by rw [E2]; exact ad_nx hb a1.2.2
  obtain ⟨a3, b3, c3⟩ := qWhole_i hb a2.2.2 h3
  obtain ⟨a4, b4, c4⟩ := qWhole_i hb a3.2.2 h4
  obtain ⟨a5, b5, c5⟩ := qWhole_i hb a4.2.2 h5
  obtain ⟨a6, b6, c6⟩ := qWhole_i hb a5.2.2 h7
  have az := a1.trans (a2.trans (a3.trans (a4.trans (a5.trans a6))))
  obtain ⟨i1, i2, i3, i4, i5, i6, i7, i8, i9⟩ := id h
  cases hl
  have eF : c.2.2.1 = s.2.1 := congrArg Prod.fst az.1
  have eL : c.2.2.2 = s.2.2 := congrArg Prod.snd az.1
  refine ⟨?_, az.2.1⟩
  unfold setS
  rw [eF, eL]
  generalize hG : prF s.2.1 m.1 w.1 d.1 v.1 f.1 c.1 = G
  unfold prF at hG
  have gc : G 4 = s.2.1 4 + 1 := by rw [← hG]; exact setF_s _ _ _
  have k0 : G (56 + 6 * s.2.1 4) = m.1 := by rw [← hG, setF_n (by omega), setF_n (by omega), setF_n (by omega), setF_n (by omega), setF_n (by omega), setF_n (by omega)]; exact setF_s _ _ _
  have k1 : G (57 + 6 * s.2.1 4) = w.1 := by rw [← hG, setF_n (by omega), setF_n (by omega), setF_n (by omega), setF_n (by omega), setF_n (by omega)]; exact setF_s _ _ _
  have k2 : G (58 + 6 * s.2.1 4) = d.1 := by rw [← hG, setF_n (by omega), setF_n (by omega), setF_n (by omega), setF_n (by omega)]; exact setF_s _ _ _
  have k3 : G (59 + 6 * s.2.1 4) = v.1 := by rw [← hG, setF_n (by omega), setF_n (by omega), setF_n (by omega)]; exact setF_s _ _ _
  have k4 : G (60 + 6 * s.2.1 4) = f.1 := by rw [← hG, setF_n (by omega), setF_n (by omega)]; exact setF_s _ _ _
  have k5 : G (61 + 6 * s.2.1 4) = c.1 := by rw [← hG, setF_n (by omega)]; exact setF_s _ _ _
  have e : ∀ x, x ≠ 4 → x ≠ 56 + 6 * s.2.1 4 → x ≠ 57 + 6 * s.2.1 4 → x ≠ 58 + 6 * s.2.1 4 → x ≠ 59 + 6 * s.2.1 4 → x ≠ 60 + 6 * s.2.1 4 → x ≠ 61 + 6 * s.2.1 4 → G x = s.2.1 x := fun x q p0 p1 p2 p3 p4 p5 => by rw [← hG, setF_n q, setF_n p5, setF_n p4, setF_n p3, setF_n p2, setF_n p1, setF_n p0]
  have g0 := e 0 (by omega) (by omega) (by omega) (by omega) (by omega) (by omega) (by omega)
  have g1 := e 1 (by omega) (by omega) (by omega) (by omega) (by omega) (by omega) (by omega)
  have g2 := e 2 (by omega) (by omega) (by omega) (by omega) (by omega) (by omega) (by omega)
  have g3 := e 3 (by omega) (by omega) (by omega) (by omega) (by omega) (by omega) (by omega)
  have g5 := e 5 (by omega) (by omega) (by omega) (by omega) (by omega) (by omega) (by omega)
  have g6 := e 6 (by omega) (by omega) (by omega) (by omega) (by omega) (by omega) (by omega)
  have g7 := e 7 (by omega) (by omega) (by omega) (by omega) (by omega) (by omega) (by omega)
  have o0 := i2.1
  have o1 := i2.2.1
  have o2 := i2.2.2.1
  have o3 := i2.2.2.2.1
  refine inv_more (s := s) h az.2.2 (i2.promise h6 gc (fun x _ => e x) ⟨by omega, by omega, by omega, by omega, by omega, by omega, by omega⟩) (by omega) (fun z => by omega) g0 (by omega) (by omega) (fun m hm => ⟨e _ (by omega) (by omega) (by omega) (by omega) (by omega) (by omega) (by omega), e _ (by omega) (by omega) (by omega) (by omega) (by omega) (by omega) (by omega)⟩) (fun p hp => ⟨e _ (by omega) (by omega) (by omega) (by omega) (by omega) (by omega) (by omega), e _ (by omega) (by omega) (by omega) (by omega) (by omega) (by omega) (by omega), e _ (by omega) (by omega) (by omega) (by omega) (by omega) (by omega) (by omega)⟩) (i7.same (fun x hx => e x (by omega) (by omega) (by omega) (by omega) (by omega) (by omega) (by omega)) g1 g2 g3) (fun p hp hp6 => ?_) (fun x hx hx8 => ?_)
  · have := i8 p (by omega) hp6
    have w1 := e (38 + p) (by omega) (by omega) (by omega) (by omega) (by omega) (by omega) (by omega)
    have w2 := e (44 + p) (by omega) (by omega) (by omega) (by omega) (by omega) (by omega) (by omega)
    have w3 := e (50 + p) (by omega) (by omega) (by omega) (by omega) (by omega) (by omega) (by omega)
    omega
  · have := i9 x (by omega) hx8
    have w1 := e (132 + 5 * x) (by omega) (by omega) (by omega) (by omega) (by omega) (by omega) (by omega)
    omega
theorem inv_seen (hb : ∀ i, i < sz → tp i < 256) (h : PInv sz s) (h0 : s.2.1 0 ≠ 0) (h6 : s.2.1 5 < 8) (hl : lSeen tp sz s = .inr u) : PInv sz u ∧ s.1 ≤ u.1 := by
  obtain ⟨m, h1, hl⟩ := bnd_i hl
  obtain ⟨d, h2, hl⟩ := bnd_i hl
  obtain ⟨v, h3, hl⟩ := bnd_i hl
  obtain ⟨w, h4, hl⟩ := bnd_i hl
  obtain ⟨c, h5, hl⟩ := bnd_i hl
  have t1 : m.1 < s.2.1 2 := told_lt h (by decide) h1
  obtain ⟨E1, -, -, -, -⟩ := qTold_i h1
  have a1 : Ad sz s m.2 := by rw [E1]; exact ad_nx hb h.1
  obtain ⟨a2, b2, c2⟩ := qWhole_i hb a1.2.2 h2
  obtain ⟨a3, b3, c3⟩ := qWhole_i hb a2.2.2 h3
  obtain ⟨a4, b4, c4⟩ := qWhole_i hb a3.2.2 h4
  obtain ⟨a5, b5⟩ := qHabit_i hb a4.2.2 h5
  have az := a1.trans (a2.trans (a3.trans (a4.trans a5)))
  obtain ⟨i1, i2, i3, i4, i5, i6, i7, i8, i9⟩ := id h
  cases hl
  have eF : c.2.2.1 = s.2.1 := congrArg Prod.fst az.1
  have eL : c.2.2.2 = s.2.2 := congrArg Prod.snd az.1
  refine ⟨?_, az.2.1⟩
  unfold setS
  rw [eF, eL]
  generalize hG : sgF s.2.1 m.1 d.1 v.1 w.1 c.1 = G
  unfold sgF at hG
  have gc : G 5 = s.2.1 5 + 1 := by rw [← hG]; exact setF_s _ _ _
  have k0 : G (128 + 5 * s.2.1 5) = m.1 := by rw [← hG, setF_n (by omega), setF_n (by omega), setF_n (by omega), setF_n (by omega), setF_n (by omega)]; exact setF_s _ _ _
  have k1 : G (129 + 5 * s.2.1 5) = d.1 := by rw [← hG, setF_n (by omega), setF_n (by omega), setF_n (by omega), setF_n (by omega)]; exact setF_s _ _ _
  have k2 : G (130 + 5 * s.2.1 5) = v.1 := by rw [← hG, setF_n (by omega), setF_n (by omega), setF_n (by omega)]; exact setF_s _ _ _
  have k3 : G (131 + 5 * s.2.1 5) = w.1 := by rw [← hG, setF_n (by omega), setF_n (by omega)]; exact setF_s _ _ _
  have k4 : G (132 + 5 * s.2.1 5) = c.1 := by rw [← hG, setF_n (by omega)]; exact setF_s _ _ _
  have e : ∀ x, x ≠ 5 → x ≠ 128 + 5 * s.2.1 5 → x ≠ 129 + 5 * s.2.1 5 → x ≠ 130 + 5 * s.2.1 5 → x ≠ 131 + 5 * s.2.1 5 → x ≠ 132 + 5 * s.2.1 5 → G x = s.2.1 x := fun x q p0 p1 p2 p3 p4 => by rw [← hG, setF_n q, setF_n p4, setF_n p3, setF_n p2, setF_n p1, setF_n p0]
  have g0 := e 0 (by omega) (by omega) (by omega) (by omega) (by omega) (by omega)
  have g1 := e 1 (by omega) (by omega) (by omega) (by omega) (by omega) (by omega)
  have g2 := e 2 (by omega) (by omega) (by omega) (by omega) (by omega) (by omega)
  have g3 := e 3 (by omega) (by omega) (by omega) (by omega) (by omega) (by omega)
  have g4 := e 4 (by omega) (by omega) (by omega) (by omega) (by omega) (by omega)
  have g6 := e 6 (by omega) (by omega) (by omega) (by omega) (by omega) (by omega)
  have g7 := e 7 (by omega) (by omega) (by omega) (by omega) (by omega) (by omega)
  have o0 := i2.1
  have o1 := i2.2.1
  have o2 := i2.2.2.1
  have o3 := i2.2.2.2.1
  refine inv_more (s := s) h az.2.2 (i2.seen h6 gc (fun x _ => e x) ⟨by omega, by omega, by omega, by omega, by omega, by omega⟩) (by omega) (fun z => by omega) g0 (by omega) (by omega) (fun m hm => ⟨e _ (by omega) (by omega) (by omega) (by omega) (by omega) (by omega), e _ (by omega) (by omega) (by omega) (by omega) (by omega) (by omega)⟩) (fun p hp => ⟨e _ (by omega) (by omega) (by omega) (by omega) (by omega) (by omega), e _ (by omega) (by omega) (by omega) (by omega) (by omega) (by omega), e _ (by omega) (by omega) (by omega) (by omega) (by omega) (by omega)⟩) (i7.same (fun x hx => e x (by omega) (by omega) (by omega) (by omega) (by omega) (by omega)) g1 g2 g3) (fun p hp hp6 => ?_) (fun x hx hx8 => ?_)
  · have := i8 p (by omega) hp6
    have w1 := e (38 + p) (by omega) (by omega) (by omega) (by omega) (by omega) (by omega)
    have w2 := e (44 + p) (by omega) (by omega) (by omega) (by omega) (by omega) (by omega)
    have w3 := e (50 + p) (by omega) (by omega) (by omega) (by omega) (by omega) (by omega)
    omega
  · have := i9 x (by omega) hx8
    have w1 := e (132 + 5 * x) (by omega) (by omega) (by omega) (by omega) (by omega) (by omega)
    omega
theorem inv_letter (hb : ∀ i, i < sz → tp i < 256) (h : PInv sz s) (h0 : s.2.1 0 ≠ 0) (h6 : s.2.1 6 < 8) (hl : lLetter tp sz s = .inr u) : PInv sz u ∧ s.1 ≤ u.1 := by
  obtain ⟨a, h1, hl⟩ := bnd_i hl
  obtain ⟨r, h2, hl⟩ := bnd_i hl
  obtain ⟨w, h3, hl⟩ := bnd_i hl
  obtain ⟨c, h4, hl⟩ := bnd_i hl
  have t1 : a.1 < s.2.1 2 := told_lt h (by decide) h1
  obtain ⟨E1, -, -, -, -⟩ := qTold_i h1
  have a1 : Ad sz s a.2 := by rw [E1]; exact ad_nx hb h.1
  obtain ⟨E2, -⟩ := qWord_i h2
  have a2 : Ad sz a.2 r := by rw [E2]; exact ad_nx hb a1.2.2
  have t2 : w.1 < r.2.1 2 := told_lt ((h.ad a1).ad a2) (by decide) h3
  rw [show r.2.1 = s.2.1 from (congrArg Prod.fst a2.1).trans (congrArg Prod.fst a1.1)] at t2
  obtain ⟨E3, -, -, -, N3⟩ := qTold_i h3
  have a3 : Ad sz r w.2 := by rw [E3]; exact ad_nx hb a2.2.2
  have hne : a.1 ≠ w.1 := fun q => by rw [← q, Nat.testBit_two_pow_self] at N3; cases N3
  obtain ⟨a4, b4, c4⟩ := qWhole_i hb a3.2.2 h4
  have az := a1.trans (a2.trans (a3.trans a4))
  obtain ⟨i1, i2, i3, i4, i5, i6, i7, i8, i9⟩ := id h
  cases hl
  have eF : c.2.2.1 = s.2.1 := congrArg Prod.fst az.1
  have eL : c.2.2.2 = s.2.2 := congrArg Prod.snd az.1
  refine ⟨?_, az.2.1⟩
  unfold setS
  rw [eF, eL]
  generalize hG : ltF s.2.1 a.1 w.1 c.1 = G
  unfold ltF at hG
  have gc : G 6 = s.2.1 6 + 1 := by rw [← hG]; exact setF_s _ _ _
  have k0 : G (168 + 3 * s.2.1 6) = a.1 := by rw [← hG, setF_n (by omega), setF_n (by omega), setF_n (by omega)]; exact setF_s _ _ _
  have k1 : G (169 + 3 * s.2.1 6) = w.1 := by rw [← hG, setF_n (by omega), setF_n (by omega)]; exact setF_s _ _ _
  have k2 : G (170 + 3 * s.2.1 6) = c.1 := by rw [← hG, setF_n (by omega)]; exact setF_s _ _ _
  have e : ∀ x, x ≠ 6 → x ≠ 168 + 3 * s.2.1 6 → x ≠ 169 + 3 * s.2.1 6 → x ≠ 170 + 3 * s.2.1 6 → G x = s.2.1 x := fun x q p0 p1 p2 => by rw [← hG, setF_n q, setF_n p2, setF_n p1, setF_n p0]
  have g0 := e 0 (by omega) (by omega) (by omega) (by omega)
  have g1 := e 1 (by omega) (by omega) (by omega) (by omega)
  have g2 := e 2 (by omega) (by omega) (by omega) (by omega)
  have g3 := e 3 (by omega) (by omega) (by omega) (by omega)
  have g4 := e 4 (by omega) (by omega) (by omega) (by omega)
  have g5 := e 5 (by omega) (by omega) (by omega) (by omega)
  have g7 := e 7 (by omega) (by omega) (by omega) (by omega)
  have o0 := i2.1
  have o1 := i2.2.1
  have o2 := i2.2.2.1
  have o3 := i2.2.2.2.1
  refine inv_more (s := s) h az.2.2 (i2.letter h6 gc (fun x _ => e x) ⟨by omega, by omega, by omega, by omega, by omega⟩) (by omega) (fun z => by omega) g0 (by omega) (by omega) (fun m hm => ⟨e _ (by omega) (by omega) (by omega) (by omega), e _ (by omega) (by omega) (by omega) (by omega)⟩) (fun p hp => ⟨e _ (by omega) (by omega) (by omega) (by omega), e _ (by omega) (by omega) (by omega) (by omega), e _ (by omega) (by omega) (by omega) (by omega)⟩) (i7.same (fun x hx => e x (by omega) (by omega) (by omega) (by omega)) g1 g2 g3) (fun p hp hp6 => ?_) (fun x hx hx8 => ?_)
  · have := i8 p (by omega) hp6
    have w1 := e (38 + p) (by omega) (by omega) (by omega) (by omega)
    have w2 := e (44 + p) (by omega) (by omega) (by omega) (by omega)
    have w3 := e (50 + p) (by omega) (by omega) (by omega) (by omega)
    omega
  · have := i9 x (by omega) hx8
    have w1 := e (132 + 5 * x) (by omega) (by omega) (by omega) (by omega)
    omega
theorem inv_lent (hb : ∀ i, i < sz → tp i < 256) (h : PInv sz s) (h0 : s.2.1 0 ≠ 0) (h6 : s.2.2.1 < 12) (hl : lLent tp sz s = .inr u) : PInv sz u ∧ s.1 ≤ u.1 := by
  obtain ⟨m, h1, hl⟩ := bnd_i hl
  obtain ⟨r, h2, hl⟩ := bnd_i hl
  obtain ⟨p, h3, hl⟩ := bnd_i hl
  obtain ⟨f, h4, hl⟩ := bnd_i hl
  obtain ⟨t, h5, hl⟩ := bnd_i hl
  obtain ⟨c, h7, hl⟩ := bnd_i hl
  have t1 : m.1 < s.2.1 2 := told_lt h (by decide) h1
  obtain ⟨E1, -, -, -, -⟩ := qTold_i h1
  have a1 : Ad sz s m.2 := by rw [E1]; exact ad_nx hb h.1
  obtain ⟨E2, -⟩ := qWord_i h2
  have a2 : Ad sz m.2 r := by rw [E2]; exact ad_nx hb a1.2.2
  have t2 : p.1 < r.2.1 3 := told_lt ((h.ad a1).ad a2) (by decide) h3
  rw [show r.2.1 = s.2.1 from (congrArg Prod.fst a2.1).trans (congrArg Prod.fst a1.1)] at t2
  obtain ⟨E3, -, -, -, -⟩ := qTold_i h3
  have a3 : Ad sz r p.2 := by rw [E3]; exact ad_nx hb a2.2.2
  obtain ⟨a4, b4, c4⟩ := qWhole_i hb a3.2.2 h4
  obtain ⟨E5, -⟩ := qWord_i h5
  have a5 : Ad sz f.2 t := by rw [E5]; exact ad_nx hb a4.2.2
  obtain ⟨E7, -, b7, c7, -⟩ := qNum_i h7
  have a7 : Ad sz t c.2 := by rw [E7]; exact ad_nx hb a5.2.2
  have az := a1.trans (a2.trans (a3.trans (a4.trans (a5.trans a7))))
  obtain ⟨i1, i2, i3, i4, i5, i6, i7, i8, i9⟩ := id h
  have o0 := i2.1
  have o2 := i2.2.2.1
  have o3 := i2.2.2.2.1
  split at hl
  · next q =>
    cases hl
    unfold okL at q
    rw [Bool.and_eq_true, Bool.and_eq_true] at q
    obtain ⟨⟨q1, q2⟩, q3⟩ := q
    refine ⟨⟨az.2.2, i2, i3, fun z => absurd z h0, by show s.2.2.1 + 1 ≤ 12; omega, lok_ins i6 (by omega) ⟨⟨by show m.1 < 6; omega, by show p.1 < 6; omega, b4, b7, by show c.1 ≤ 20; omega⟩, t1, t2, c7, q1⟩ ⟨fup_isNone q2, fup_isNone q3⟩, i7, i8, i9⟩, az.2.1⟩
  · cases hl
theorem inv_break (hb : ∀ i, i < sz → tp i < 256) (h : PInv sz s) (h0 : s.2.1 0 ≠ 0) (h6 : s.2.1 7 < 8) (hl : lBreak tp sz s = .inr u) : PInv sz u ∧ s.1 ≤ u.1 := by
  obtain ⟨p, h1, hl⟩ := bnd_i hl
  obtain ⟨r, h2, hl⟩ := bnd_i hl
  obtain ⟨d, h3, hl⟩ := bnd_i hl
  obtain ⟨E1, -, -, -, -⟩ := qTold_i h1
  have a1 : Ad sz s p.2 := by rw [E1]; exact ad_nx hb h.1
  obtain ⟨E2, -⟩ := qWord_i h2
  have a2 : Ad sz p.2 r := by rw [E2]; exact ad_nx hb a1.2.2
  obtain ⟨E7, -, b7, c7, -⟩ := qNum_i h3
  have a7 : Ad sz r d.2 := by rw [E7]; exact ad_nx hb a2.2.2
  have az := a1.trans (a2.trans a7)
  obtain ⟨i1, i2, i3, i4, i5, i6, i7, i8, i9⟩ := id h
  split at hl
  · cases hl
  · cases hl
    refine ⟨?_, az.2.1⟩
    have o0 := i2.1
    have e : ∀ x, x ≠ 7 → setF s.2.1 7 (s.2.1 7 + 1) x = s.2.1 x := fun x hx => setF_n hx
    have i2' := i2
    have hF : FOK (setF s.2.1 7 (s.2.1 7 + 1)) := by
      obtain ⟨f0, f1, f2, f3, f4, f5, f6, fm, fp, fo, fs, fl⟩ := i2
      refine ⟨by rw [e 0 (by decide)]; exact f0, by rw [e 1 (by decide)]; exact f1, by rw [e 2 (by decide)]; exact f2, by rw [e 3 (by decide)]; exact f3, by rw [e 4 (by decide)]; exact f4, by rw [e 5 (by decide)]; exact f5, by rw [e 6 (by decide)]; exact f6, fun m q => ?_, fun m q => ?_, fun m q => ?_, fun m q => ?_, fun m q => ?_⟩
      · rw [e 2 (by decide)] at q; rw [e (8 + m) (by omega), e (14 + m) (by omega), e (20 + m) (by omega)]; exact fm m q
      · rw [e 3 (by decide)] at q; rw [e (26 + m) (by omega), e (32 + m) (by omega), e (38 + m) (by omega), e (44 + m) (by omega), e (50 + m) (by omega)]; exact fp m q
      · rw [e 4 (by decide)] at q; rw [e (56 + 6 * m) (by omega), e (57 + 6 * m) (by omega), e (58 + 6 * m) (by omega), e (59 + 6 * m) (by omega), e (60 + 6 * m) (by omega), e (61 + 6 * m) (by omega), e 0 (by decide), e 2 (by decide)]; exact fo m q
      · rw [e 5 (by decide)] at q; rw [e (128 + 5 * m) (by omega), e (129 + 5 * m) (by omega), e (130 + 5 * m) (by omega), e (131 + 5 * m) (by omega), e (132 + 5 * m) (by omega), e 0 (by decide), e 2 (by decide)]; exact fs m q
      · rw [e 6 (by decide)] at q; rw [e (168 + 3 * m) (by omega), e (169 + 3 * m) (by omega), e (170 + 3 * m) (by omega), e 0 (by decide), e 2 (by decide)]; exact fl m q
    have h1 := inv_more (F' := setF s.2.1 7 (s.2.1 7 + 1)) (e' := d.2.1) h az.2.2 hF (by rw [setF_s]; omega) (fun z => absurd (by rw [e 0 (by decide)] at z; exact z) h0) (e 0 (by decide)) (by rw [e 2 (by decide)]; exact Nat.le_refl _) (by rw [e 3 (by decide)]; exact Nat.le_refl _) (fun m hm => ⟨e _ (by omega), e _ (by omega)⟩) (fun m hm => ⟨e _ (by omega), e _ (by omega), e _ (by omega)⟩) (i7.same (fun x hx => e x (by omega)) (e 1 (by decide)) (e 2 (by decide)) (e 3 (by decide))) (fun p hp hp6 => by rw [e 3 (by decide)] at hp; rw [e _ (by omega), e _ (by omega), e _ (by omega)]; exact i8 p hp hp6) (fun x hx hx8 => by rw [e 5 (by decide)] at hx; rw [e _ (by omega)]; exact i9 x hx hx8)
    exact pinv_mk h1.1 hF (by rw [setF_s]; omega) (fun z => absurd (by rw [e 0 (by decide)] at z; exact z) h0) (show (flipS s.2.2 p.1 d.1).1 ≤ 12 from i5) (lok_flip (show LOK (setF s.2.1 7 (s.2.1 7 + 1)) s.2.2 from h1.2.2.2.2.2.1) (by omega)) h1.2.2.2.2.2.2.1 h1.2.2.2.2.2.2.2.1 h1.2.2.2.2.2.2.2.2
theorem isW_lt (hb : ∀ i, i < sz → tp i < 256) (he : s.1 ≤ sz) {w : List Nat} (h : isW tp sz w s.1 = true) : s.1 < (nx tp sz s).1 := by
  unfold isW at h
  rw [Bool.and_eq_true, decide_eq_true_eq] at h
  have h1 := tA_b (tp := tp) he
  have h2 := (tE_b hb he).2.2 (by rw [h.1]; decide)
  show s.1 < tE tp sz s.1
  omega
theorem inv_line (hb : ∀ i, i < sz → tp i < 256) (h : PInv sz s) (hl : line tp sz s = .inr u) : PInv sz u ∧ s.1 < u.1 := by
  have a := ad_nx (tp := tp) hb h.1
  have hn := h.ad a
  have key : ∀ w : List Nat, isW tp sz w s.1 = true → PInv sz u ∧ (nx tp sz s).1 ≤ u.1 → PInv sz u ∧ s.1 < u.1 := fun w hw q => ⟨q.1, Nat.lt_of_lt_of_le (isW_lt hb h.1 hw) q.2⟩
  unfold line at hl
  split at hl
  · next q =>
    split at hl
    · next q2 => exact key _ q (inv_town hb hn q2 hl)
    · cases hl
  split at hl
  · next q => exact key _ q (inv_work hb _ _ _ hn hl)
  split at hl
  · next q =>
    split at hl
    · next q2 => exact key _ q (inv_mask hb hn q2 hl)
    · cases hl
  split at hl
  · next q =>
    split at hl
    · next q2 => exact key _ q (inv_person hb hn q2 hl)
    · cases hl
  split at hl
  · next q =>
    unfold qDay at hl
    split at hl
    · cases hl
    · next q2 =>
      split at hl
      · next q3 => exact key _ q (inv_promise hb hn q2 q3 hl)
      · cases hl
  split at hl
  · next q =>
    unfold qDay at hl
    split at hl
    · cases hl
    · next q2 =>
      split at hl
      · next q3 => exact key _ q (inv_lent hb hn q2 q3 hl)
      · cases hl
  split at hl
  · next q =>
    unfold qDay at hl
    split at hl
    · cases hl
    · next q2 =>
      split at hl
      · next q3 => exact key _ q (inv_seen hb hn q2 q3 hl)
      · cases hl
  split at hl
  · next q =>
    unfold qDay at hl
    split at hl
    · cases hl
    · next q2 =>
      split at hl
      · next q3 => exact key _ q (inv_letter hb hn q2 q3 hl)
      · cases hl
  split at hl
  · next q =>
    unfold qDay at hl
    split at hl
    · cases hl
    · next q2 =>
      split at hl
      · next q3 => exact key _ q (inv_break hb hn q2 q3 hl)
      · cases hl
  cases hl
theorem inv_0 : PInv sz ps0 := by
  refine ⟨Nat.zero_le _, ?_, by decide, fun _ => ⟨rfl, rfl, rfl, rfl, rfl⟩, by decide, ?_, ?_, fun p _ _ => ⟨rfl, rfl, rfl⟩, fun x _ _ => rfl⟩
  · refine ⟨by decide, by decide, by decide, by decide, by decide, by decide, by decide, fun m q => absurd q (Nat.not_lt_zero _), fun m q => absurd q (Nat.not_lt_zero _), fun m q => absurd q (Nat.not_lt_zero _), fun m q => absurd q (Nat.not_lt_zero _), fun m q => absurd q (Nat.not_lt_zero _)⟩
  · exact ⟨by decide, fun i q => absurd q (Nat.not_lt_zero _), fun i j _ q => absurd q (Nat.not_lt_zero _), fun p => (by decide : 0 < 2097152)⟩
  · have hn : ∀ n, n < 17 → ¬ tn (fun _ => 0) n := fun n hn q => by
      have q2 : n < 0 ∨ (5 ≤ n ∧ n < 5 + 0) ∨ (11 ≤ n ∧ n < 11 + 0) := q
      omega
    exact ⟨fun n h => ⟨fun q => absurd q (Nat.lt_irrefl _), fun q => absurd q (hn n h)⟩, fun n h q => absurd q (hn n h), fun n k h _ q => absurd q (hn n h)⟩
theorem inv_lns (hb : ∀ i, i < sz → tp i < 256) : ∀ (n : Nat) (s u : PS), PInv sz s → lns tp sz n s = .inr u → PInv sz u
  | 0, s, u, h, hl => (inv_line hb h hl).1
  | n + 1, s, u, h, hl => by
    obtain ⟨v, h1, h2⟩ := bnd_i hl
    have hv := (inv_line hb h h1).1
    split at h2
    · exact inv_lns hb n _ u (hv.ad (ad_nx hb hv.1)) h2
    · cases h2; exact hv
theorem inv_pars (hb : ∀ i, i < sz → tp i < 256) (h : pars tp sz = .inr u) : PInv sz u ∧ u.2.1 0 ≠ 0 ∧ u.2.1 2 ≠ 0 ∧ u.2.1 3 ≠ 0 := by
  obtain ⟨v, h1, h2⟩ := bnd_i h
  have hv := inv_lns hb sz ps0 v inv_0 h1
  unfold finP at h2
  split at h2
  · split at h2
    · cases h2
    · next q => cases h2; exact ⟨hv, by omega, by omega, by omega⟩
  · cases h2
end
