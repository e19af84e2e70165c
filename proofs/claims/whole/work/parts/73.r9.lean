/-! a text's faults: their numbers and places -/
def Gd {α : Type} (sz : Nat) (pr : (Nat × Nat) ⊕ α) : Prop := ∀ f p, pr = .inl (f, p) → f < 8 ∧ p ≤ sz
theorem Gd.inr {α : Type} {sz : Nat} {v : α} : Gd sz (.inr v : (Nat × Nat) ⊕ α) := fun f p h => by cases h
theorem Gd.inl {α : Type} {sz f p : Nat} (hf : f < 8) (hp : p ≤ sz) : Gd sz (.inl (f, p) : (Nat × Nat) ⊕ α) := fun f p h => by cases h; exact ⟨hf, hp⟩
theorem Gd.bnd {α β : Type} {sz : Nat} {x : (Nat × Nat) ⊕ α} {g : α → (Nat × Nat) ⊕ β} (h : Gd sz x) (h2 : ∀ v, x = .inr v → Gd sz (g v)) : Gd sz (bnd x g) := by
  intro f p q
  cases x with
  | inl e => have q2 : (Sum.inl e : (Nat × Nat) ⊕ β) = .inl (f, p) := q; cases q2; exact h f p rfl
  | inr v => exact h2 v rfl f p q
section
variable {tp : Nat → Nat} {sz : Nat} {s : PS}
theorem gd_word {w : List Nat} (he : s.1 ≤ sz) : Gd sz (qWord tp sz w s) := by
  unfold qWord; split
  · exact Gd.inr
  · exact Gd.inl (by decide) (tA_b he).2
theorem gd_num {lo hi : Nat} (he : s.1 ≤ sz) : Gd sz (qNum tp sz lo hi s) := by
  unfold qNum; split
  · split
    · exact Gd.inr
    · exact Gd.inl (by decide) (tA_b he).2
  · exact Gd.inl (by decide) (tA_b he).2
theorem gd_whole {w : List Nat} {lo hi : Nat} (hb : ∀ i, i < sz → tp i < 256) (he : s.1 ≤ sz) : Gd sz (qWhole tp sz w lo hi s) := by
  unfold qWhole
  exact (gd_word he).bnd (fun v hv => by obtain ⟨rfl, -⟩ := qWord_i hv; exact gd_num (ad_nx hb he).2.2)
theorem gd_new (he : s.1 ≤ sz) : Gd sz (qNew tp sz s) := by
  unfold qNew; split
  · split
    · exact Gd.inr
    · exact Gd.inl (by decide) (tA_b he).2
  · exact Gd.inl (by decide) (tA_b he).2
theorem gd_told {t but : Nat} (he : s.1 ≤ sz) : Gd sz (qTold tp sz t but s) := by
  unfold qTold; split
  · split
    · exact Gd.inl (by decide) (tA_b he).2
    · split
      · split
        · exact Gd.inl (by decide) (tA_b he).2
        · exact Gd.inr
      · exact Gd.inl (by decide) (tA_b he).2
  · exact Gd.inl (by decide) (tA_b he).2
theorem told_le {t but : Nat} {v : Nat × PS} (hb : ∀ i, i < sz → tp i < 256) (he : s.1 ≤ sz) (h : qTold tp sz t but s = .inr v) : v.2.1 ≤ sz := by
  rw [(qTold_i h).1]; exact (ad_nx hb he).2.2
theorem word_le {w : List Nat} {u : PS} (hb : ∀ i, i < sz → tp i < 256) (he : s.1 ≤ sz) (h : qWord tp sz w s = .inr u) : u.1 ≤ sz := by
  rw [(qWord_i h).1]; exact (ad_nx hb he).2.2
theorem gd_kind (he : s.1 ≤ sz) : Gd sz (qKind tp sz s) := by
  unfold qKind
  split; · exact Gd.inr
  split; · exact Gd.inr
  split; · exact Gd.inr
  split; · exact Gd.inr
  split; · exact Gd.inr
  exact Gd.inl (by decide) (tA_b he).2
theorem gd_habit (hb : ∀ i, i < sz → tp i < 256) (he : s.1 ≤ sz) : Gd sz (qHabit tp sz s) := by
  unfold qHabit; split
  · exact gd_whole hb he
  · exact Gd.inr
theorem gd_does (hb : ∀ i, i < sz → tp i < 256) : ∀ (n set : Nat) (s : PS), s.1 ≤ sz → Gd sz (lDoes tp sz n set s)
  | 0, set, s, he => Gd.inr
  | n + 1, set, s, he => by
    refine (gd_told he).bnd (fun v hv => ?_)
    have h1 := told_le hb he hv
    split
    · exact gd_does hb n _ _ (ad_nx hb h1).2.2
    · exact Gd.inr
theorem gd_qdoes (hb : ∀ i, i < sz → tp i < 256) (he : s.1 ≤ sz) : Gd sz (qDoes tp sz s) := by
  unfold qDoes; split
  · exact gd_does hb 6 0 _ (ad_nx hb he).2.2
  · exact Gd.inr
theorem gd_work (hb : ∀ i, i < sz → tp i < 256) : ∀ (n : Nat) (s : PS), s.1 ≤ sz → Gd sz (lWork tp sz n s)
  | 0, s, he => Gd.inr
  | n + 1, s, he => by
    refine (gd_new he).bnd (fun v hv => ?_)
    obtain ⟨rfl, -, -⟩ := qNew_i hv
    split
    · exact Gd.inl (by decide) (tA_b he).2
    · split
      · exact gd_work hb n _ (ad_nx (s := wkS tp sz v) hb (ad_nx (tp := tp) hb he).2.2).2.2
      · exact Gd.inr
theorem gd_mask (hb : ∀ i, i < sz → tp i < 256) (he : s.1 ≤ sz) : Gd sz (lMask tp sz s) := by
  refine (gd_new he).bnd (fun v hv => ?_)
  obtain ⟨rfl, -, -⟩ := qNew_i hv
  have h1 : (kept tp sz (5 + v.2.1 2) v).1 ≤ sz := (ad_nx (tp := tp) hb he).2.2
  refine (gd_kind h1).bnd (fun k hk => ?_)
  have h2 : k.2.1 ≤ sz := by rw [(qKind_i hk).1]; exact (ad_nx hb h1).2.2
  refine (gd_whole hb h2).bnd (fun a ha => ?_)
  exact (gd_whole hb (qWhole_i hb h2 ha).1.2.2).bnd (fun c hc => Gd.inr)
theorem gd_person (hb : ∀ i, i < sz → tp i < 256) (he : s.1 ≤ sz) : Gd sz (lPerson tp sz s) := by
  refine (gd_new he).bnd (fun v hv => ?_)
  obtain ⟨rfl, -, -⟩ := qNew_i hv
  have h1 : (kept tp sz (11 + v.2.1 3) v).1 ≤ sz := (ad_nx (tp := tp) hb he).2.2
  refine (gd_whole hb h1).bnd (fun a ha => ?_)
  have h2 := (qWhole_i hb h1 ha).1.2.2
  refine (gd_whole hb h2).bnd (fun c hc => ?_)
  have h3 := (qChild_i (tp := tp) hb (qWhole_i hb h2 hc).1.2.2).1.2.2
  refine (gd_habit hb h3).bnd (fun d hd => ?_)
  exact (gd_qdoes hb (qHabit_i hb h3 hd).1.2.2).bnd (fun e _ => Gd.inr)
theorem gd_promise (hb : ∀ i, i < sz → tp i < 256) (he : s.1 ≤ sz) : Gd sz (lPromise tp sz s) := by
  refine (gd_told he).bnd (fun m hm => ?_)
  have h1 := told_le hb he hm
  refine (gd_told h1).bnd (fun w hw => ?_)
  have h2 := told_le hb h1 hw
  refine (gd_whole hb h2).bnd (fun a ha => ?_)
  have h3 := (qWhole_i hb h2 ha).1.2.2
  refine (gd_whole hb h3).bnd (fun c hc => ?_)
  have h4 := (qWhole_i hb h3 hc).1.2.2
  refine (gd_whole hb h4).bnd (fun d hd => ?_)
  exact (gd_whole hb (qWhole_i hb h4 hd).1.2.2).bnd (fun e _ => Gd.inr)
theorem gd_lent (hb : ∀ i, i < sz → tp i < 256) (he : s.1 ≤ sz) : Gd sz (lLent tp sz s) := by
  refine (gd_told he).bnd (fun m hm => ?_)
  have h1 := told_le hb he hm
  refine (gd_word h1).bnd (fun w hw => ?_)
  have h2 := word_le hb h1 hw
  refine (gd_told h2).bnd (fun p hp => ?_)
  have h3 := told_le hb h2 hp
  refine (gd_whole hb h3).bnd (fun c hc => ?_)
  have h4 := (qWhole_i hb h3 hc).1.2.2
  refine (gd_word h4).bnd (fun d hd => ?_)
  have h5 := word_le hb h4 hd
  refine (gd_num h5).bnd (fun e _ => ?_)
  split
  · exact Gd.inr
  · exact Gd.inl (by decide) (tA_b h5).2
theorem gd_seen (hb : ∀ i, i < sz → tp i < 256) (he : s.1 ≤ sz) : Gd sz (lSeen tp sz s) := by
  refine (gd_told he).bnd (fun m hm => ?_)
  have h1 := told_le hb he hm
  refine (gd_whole hb h1).bnd (fun a ha => ?_)
  have h3 := (qWhole_i hb h1 ha).1.2.2
  refine (gd_whole hb h3).bnd (fun c hc => ?_)
  have h4 := (qWhole_i hb h3 hc).1.2.2
  refine (gd_whole hb h4).bnd (fun d hd => ?_)
  exact (gd_habit hb (qWhole_i hb h4 hd).1.2.2).bnd (fun e _ => Gd.inr)
theorem gd_letter (hb : ∀ i, i < sz → tp i < 256) (he : s.1 ≤ sz) : Gd sz (lLetter tp sz s) := by
  refine (gd_told he).bnd (fun m hm => ?_)
  have h1 := told_le hb he hm
  refine (gd_word h1).bnd (fun w hw => ?_)
  have h2 := word_le hb h1 hw
  refine (gd_told h2).bnd (fun p hp => ?_)
  exact (gd_whole hb (told_le hb h2 hp)).bnd (fun c hc => Gd.inr)
theorem gd_break (hb : ∀ i, i < sz → tp i < 256) (he : s.1 ≤ sz) : Gd sz (lBreak tp sz s) := by
  refine (gd_told he).bnd (fun m hm => ?_)
  have h1 := told_le hb he hm
  refine (gd_word h1).bnd (fun w hw => ?_)
  have h2 := word_le hb h1 hw
  refine (gd_num h2).bnd (fun e _ => ?_)
  split
  · exact Gd.inl (by decide) (tA_b h2).2
  · exact Gd.inr
theorem gd_line (hb : ∀ i, i < sz → tp i < 256) (he : s.1 ≤ sz) : Gd sz (line tp sz s) := by
  have hn : (nx tp sz s).1 ≤ sz := (ad_nx hb he).2.2
  have bad : ∀ k, k < 8 → Gd sz (.inl (k, tA tp sz s.1) : PR) := fun k hk => Gd.inl hk (tA_b he).2
  unfold line
  split
  · split
    · exact (gd_whole hb hn).bnd (fun _ _ => Gd.inr)
    · exact bad _ (by decide)
  split
  · exact gd_work hb _ _ hn
  split
  · split
    · exact gd_mask hb hn
    · exact bad _ (by decide)
  split
  · split
    · exact gd_person hb hn
    · exact bad _ (by decide)
  split
  · unfold qDay
    split
    · exact bad _ (by decide)
    · split
      · exact gd_promise hb hn
      · exact bad _ (by decide)
  split
  · unfold qDay
    split
    · exact bad _ (by decide)
    · split
      · exact gd_lent hb hn
      · exact bad _ (by decide)
  split
  · unfold qDay
    split
    · exact bad _ (by decide)
    · split
      · exact gd_seen hb hn
      · exact bad _ (by decide)
  split
  · unfold qDay
    split
    · exact bad _ (by decide)
    · split
      · exact gd_letter hb hn
      · exact bad _ (by decide)
  split
  · unfold qDay
    split
    · exact bad _ (by decide)
    · split
      · exact gd_break hb hn
      · exact bad _ (by decide)
  exact bad _ (by decide)
theorem gd_lns (hb : ∀ i, i < sz → tp i < 256) : ∀ (n : Nat) (s : PS), PInv sz s → Gd sz (lns tp sz n s)
  | 0, s, h => gd_line hb h.1
  | n + 1, s, h => by
    refine (gd_line hb h.1).bnd (fun v hv => ?_)
    have h1 := (inv_line hb h hv).1
    split
    · exact gd_lns hb n _ (h1.ad (ad_nx hb h1.1))
    · exact Gd.inr
theorem gd_pars (hb : ∀ i, i < sz → tp i < 256) : Gd sz (pars tp sz) := by
  refine (gd_lns hb sz ps0 inv_0).bnd (fun v hv => ?_)
  have h1 := inv_lns hb sz ps0 v inv_0 hv
  unfold finP
  split
  · split
    · exact Gd.inl (by decide) (tA_b h1.1).2
    · exact Gd.inr
  · exact Gd.inl (by decide) (tA_b h1.1).2
end
section
variable {b : Nat} {ad : Nat → Nat} {I J K : HI} {L M : HL} {R R' : HR} {Q : QT} {B B2 t : Nat} {tp : Nat → Nat} {nt tr fa pl : Nat} {F F' : bkF} {S : Nat → LSt} {u r : Nat} {im : Nat → LSt} {ic : Nat} {l : LSt}
theorem bk_far (hB : SH B = .inl 0) (hB2 : SH B2 = .inl 0) (hne : B ≠ B2) (hf : FrB B2 I J L M) : (∀ x, x < 145 → x ≠ 88 → x ≠ 89 → x ≠ 92 → x ≠ 93 → ¬ (B2 ≤ x ∧ x ≤ B2 + 42) → J x = I x) ∧ (∀ x, B ≤ x → x ≤ B + 42 → J x = I x) := by
  have h1 := shB hB
  have h2 := shB hB2
  refine ⟨fun x _ a c d e f => hf.1 x a c d e f, fun x a c => hf.1 x (by omega) (by omega) (by omega) (by omega) (by omega)⟩
theorem cb_fail {f p : Nat} (h : ClsB I L R B B2 t tp nt tr fa pl F S u r im ic) (hf : FrB B2 I J L M) (k1 : K 0 1 = nI 0) (k2 : K 0 2 = nI 4) (k3 : K 0 3 = nI f) (hf8 : f < 8) (k4 : K 0 4 = nI p) (hp : p ≤ 900) (kx : ∀ x, x ≠ 0 → K x = J x) (hR' : RO R') (hr' : R' 0 = R 0) : ClsB K M R' B B2 t tp 0 4 f p F S u r im ic := by
  obtain ⟨a1, ⟨b1, b2, b3, b4, b5⟩, ⟨c1, c2, c3⟩, ⟨d1, d2, d3, d4, d5⟩, ⟨e1, e2, e3⟩, ⟨f1, f2, f3, f4, f5, f6⟩, ⟨g1, g2, g3⟩, k0⟩ := h
  have h1 := shB b3
  have h2 := shB b4
  have hx : ∀ x, x ≠ 0 → x ≠ 88 → x ≠ 89 → x ≠ 92 → x ≠ 93 → ¬ (B2 ≤ x ∧ x ≤ B2 + 42) → K x = I x := fun x q a c d e f => (kx x q).trans (hf.1 x a c d e f)
  refine ⟨hR', ⟨by rw [hr']; exact b1, by rw [hr']; exact b2, b3, b4, b5⟩, ⟨k1, by decide, fun i hi => absurd hi (Nat.not_lt_zero _)⟩, ⟨k2, by decide, k3, hf8, fun _ => ⟨k4, hp⟩⟩, ⟨e1.all e2 (fun x q1 q2 => hx x (by omega) (by omega) (by omega) (by omega) (by omega) (by omega)), e2, e3⟩, ⟨by rw [hx 94 (by omega) (by omega) (by omega) (by omega) (by omega) (by omega)]; exact f1, f2, by rw [hx 94 (by omega) (by omega) (by omega) (by omega) (by omega) (by omega)]; exact f3, by rw [hx 94 (by omega) (by omega) (by omega) (by omega) (by omega) (by omega)]; exact f4, f5, fun k hk => ⟨(f6 k hk).1.same (hx _ (by unfold ring; omega) (by unfold ring; omega) (by unfold ring; omega) (by unfold ring; omega) (by unfold ring; omega) (by unfold ring; omega)) (hx _ (by unfold ring; omega) (by unfold ring; omega) (by unfold ring; omega) (by unfold ring; omega) (by unfold ring; omega) (by unfold ring; omega)) (hx _ (by unfold ring; omega) (by unfold ring; omega) (by unfold ring; omega) (by unfold ring; omega) (by unfold ring; omega) (by unfold ring; omega)), (f6 k hk).2⟩⟩, ⟨by rw [hx 94 (by omega) (by omega) (by omega) (by omega) (by omega) (by omega)]; exact g1, g2, fun c hc => ⟨(g3 c hc).1.same (hx _ (by omega) (by omega) (by omega) (by omega) (by omega) (by omega)) (hx _ (by omega) (by omega) (by omega) (by omega) (by omega) (by omega)) (hx _ (by omega) (by omega) (by omega) (by omega) (by omega) (by omega)), (g3 c hc).2⟩⟩, fun i hi => ⟨by rw [(hf.2.2 i hi).1]; exact (k0 i hi).1, by rw [kx 92 (by decide), (hf.2.2 i hi).2]; exact (k0 i hi).2⟩⟩
theorem cb_book (h : ClsB I L R B B2 t tp nt tr fa pl F S u r im ic) (hf : FrB B2 I J L M) (hF : BkI J B2 F') (hO : FOK F') (h0 : F' 0 ≠ 0) (hK : LOK F' l) (k1 : K 0 1 = nI 0) (k2 : K 0 2 = nI 0) (k3 : K 0 3 = nI 0) (q1 : LDI K (97 + 3 * t) l.1 l.2.1 l.2.2) (q2 : K 94 1 = nI t) (q3 : K 94 2 = nI 0) (q4 : K 94 3 = nI 0) (q5 : K 94 5 = nI 0) (kx : ∀ x, x ≠ 0 → x ≠ 94 → x ≠ 97 + 3 * t → x ≠ 97 + 3 * t + 1 → x ≠ 97 + 3 * t + 2 → K x = J x) (hR' : RO R') (hr5 : R' 0 5 = some B2) (hr6 : R' 0 6 = some B) : ClsB K M R' B2 B t tp 0 0 0 pl F' (putS S l) 0 0 im 0 := by
  obtain ⟨a1, ⟨b1, b2, b3, b4, b5⟩, ⟨c1, c2, c3⟩, ⟨d1, d2, d3, d4, d5⟩, ⟨e1, e2, e3⟩, ⟨f1, f2, f3, f4, f5, f6⟩, ⟨g1, g2, g3⟩, k0⟩ := h
  have h1 := shB b3
  have h2 := shB b4
  refine ⟨hR', ⟨hr5, hr6, b4, b3, b5.symm⟩, ⟨k1, by decide, fun i hi => absurd hi (Nat.not_lt_zero _)⟩, ⟨k2, by decide, k3, by decide, fun q => by cases q⟩, ⟨hF.all hO (fun x p1 p2 => kx x (by omega) (by omega) (by omega) (by omega) (by omega)), hO, fun q => absurd q h0⟩, ⟨q2, f2, q3, q4, by decide, fun k hk => ?_⟩, ⟨q5, by decide, fun c hc => absurd hc (Nat.not_lt_zero _)⟩, fun i hi => ⟨by rw [(hf.2.2 i hi).1]; exact (k0 i hi).1, by rw [kx 92 (by decide) (by decide) (by omega) (by omega) (by omega), (hf.2.2 i hi).2]; exact (k0 i hi).2⟩⟩
  have hk0 : k = 0 := by unfold live at hk; omega
  subst hk0
  rw [ring0 f2]
  exact ⟨q1, hK⟩
theorem hi_frb (hB2 : SH B2 = .inl 0) (hf : FrB B2 I J L M) (kx : ∀ x, 157 ≤ x → K x = J x) (hr : ∀ x, 157 ≤ x → R' x = R x) : Hi I K L M R R' := by
  have h2 := shB hB2
  exact fun a ha => ⟨(kx a ha).trans (hf.1 a (by omega) (by omega) (by omega) (by omega) (by omega)), hf.2.1 a (by omega) (by omega), hr a ha⟩
theorem c_X11_book {x : Int32} (h : ClsB I L R B B2 t tp nt tr fa pl F S u r im ic) (hQ2 : indn x nt = false → XQ I L R tp nt 2 fa pl F S u r im ic (-1) Q) (hQ0 : indn x nt = true → ∀ f p, pars tp (tN x) = .inl (f, p) → XQ I L R tp 0 4 f p F S u r im ic (-1) Q) (hQ1 : indn x nt = true → ∀ v, pars tp (tN x) = .inr v → XQ I L R tp 0 0 0 pl v.2.1 (putS S v.2.2) 0 0 im 0 (nI (v.2.1 2)) Q) : KK 12 mX11_book b ad [.ref (b + 0), .int x] I L R Q := by
  have hR := cb_R h
  have n0 := h.2.2.1.1
  have n900 := h.2.2.1.2.1
  have htp := h.2.2.1.2.2
  have hB := h.2.1.2.2.1
  have hB2 := h.2.1.2.2.2.1
  have hb5 := h.2.1.1
  have hb6 := h.2.1.2.1
  have h1 := shB hB
  have h2 := shB hB2
  refine K.of (M := mX11_book) (lv := [some (.ref (b + 0)), some (.int x), none, none]) (by decide) (Nat.le_of_ble_eq_true rfl) rfl ?_
  have cut : VV yX11_book cX11_book 4 (some .int) 12 Q b ad 19 [some (.ref (b + 0)), some (.int x), none, none] [.int (bI (indn x nt)), .int (bI true), .ref (b + 0)] I L R := by
    refine u_callV_2 dX11_book_19 ml_X11_68 mv_X11_admit (by first | assumption | rfl | exact led_1 (by assumption) | exact led_2 (by assumption) | exact bk_m (by assumption) (by first | assumption | omega) | exact bk_p (by assumption) (by first | assumption | omega) | exact bk_o (by assumption) (by first | assumption | omega) | exact bk_s (by assumption) (by first | assumption | omega) | exact bk_1 (by assumption) | exact bk_2 (by assumption) | exact bk_3 (by assumption) | exact bk_4 (by assumption) | exact bk_5 (by assumption) | exact bk_6 (by assumption) | exact bk_7 (by assumption) | exact bk_8 (by assumption) | exact sh_ring _ (by first | assumption | omega) | exact sh_imgs _ (by first | assumption | omega)) (by decide) rfl (by decide) (Nat.le_of_ble_eq_true rfl) (c_X11_admit (p := true) (q := indn x nt) ?_)
    refine v_if_ne (tgt := 27) dX11_book_22 (by decide) (fun hc22 => ?_) (fun hc22 => ?_)
    · rw [bI_0, Bool.not_eq_false, Bool.true_and] at hc22
      obtain ⟨n, rfl, hn⟩ := indn_ex (by omega) hc22
      have en : tN (nI n) = n := tN_nI (by omega)
      have hQ0 := hQ0 hc22
      have hQ1 := hQ1 hc22
      rw [en] at hQ0 hQ1
      have hby : ∀ i, i < n → ui I 0 2 (nI (trc true (indn (nI n) nt))) 1 i = byt (tp i) ∧ tp i < 256 := fun i hi => by rw [ui_ne (by decide)]; exact htp i (by omega)
      have hrs : ∀ i, i < 13 → L 91 i = rsv i ∧ ui I 0 2 (nI (trc true (indn (nI n) nt))) 92 i = nI 3 := fun i hi => by rw [ui_ne (by decide)]; exact h.2.2.2.2.2.2.2 i hi
      have ht0 : trc true (indn (nI n) nt) = 0 := by rw [hc22]; rfl
      rw [ht0] at hby hrs ⊢
      have hcb := cb_tr (v := 0) h (by decide) (by decide)
      have hh : Hi I (ui I 0 2 (nI 0)) L L R R := hi_ui (by decide)
      refine v_aload_0 dX11_book_27 ?_
      refine u_getR dX11_book_28 gf_X11_39 (by first | assumption | rfl | exact led_1 (by assumption) | exact led_2 (by assumption) | exact bk_m (by assumption) (by first | assumption | omega) | exact bk_p (by assumption) (by first | assumption | omega) | exact bk_o (by assumption) (by first | assumption | omega) | exact bk_s (by assumption) (by first | assumption | omega) | exact bk_1 (by assumption) | exact bk_2 (by assumption) | exact bk_3 (by assumption) | exact bk_4 (by assumption) | exact bk_5 (by assumption) | exact bk_6 (by assumption) | exact bk_7 (by assumption) | exact bk_8 (by assumption) | exact sh_ring _ (by first | assumption | omega) | exact sh_imgs _ (by first | assumption | omega)) (ro_X11_7 (by assumption)) ?_
      refine v_aload_0 dX11_book_31 ?_
      refine u_getR dX11_book_32 gf_X11_9 (by first | assumption | rfl | exact led_1 (by assumption) | exact led_2 (by assumption) | exact bk_m (by assumption) (by first | assumption | omega) | exact bk_p (by assumption) (by first | assumption | omega) | exact bk_o (by assumption) (by first | assumption | omega) | exact bk_s (by assumption) (by first | assumption | omega) | exact bk_1 (by assumption) | exact bk_2 (by assumption) | exact bk_3 (by assumption) | exact bk_4 (by assumption) | exact bk_5 (by assumption) | exact bk_6 (by assumption) | exact bk_7 (by assumption) | exact bk_8 (by assumption) | exact sh_ring _ (by first | assumption | omega) | exact sh_imgs _ (by first | assumption | omega)) (ro_X11_0 (by assumption)) ?_
      refine v_iload_1 dX11_book_35 ?_
      refine v_aload_0 dX11_book_36 ?_
      refine u_getR dX11_book_37 gf_X11_33 (by first | assumption | rfl | exact led_1 (by assumption) | exact led_2 (by assumption) | exact bk_m (by assumption) (by first | assumption | omega) | exact bk_p (by assumption) (by first | assumption | omega) | exact bk_o (by assumption) (by first | assumption | omega) | exact bk_s (by assumption) (by first | assumption | omega) | exact bk_1 (by assumption) | exact bk_2 (by assumption) | exact bk_3 (by assumption) | exact bk_4 (by assumption) | exact bk_5 (by assumption) | exact bk_6 (by assumption) | exact bk_7 (by assumption) | exact bk_8 (by assumption) | exact sh_ring _ (by first | assumption | omega) | exact sh_imgs _ (by first | assumption | omega)) (by assumption) ?_
      refine u_callV_3 dX11_book_40 ml_X11_72 mv_X7_read (by first | assumption | rfl | exact led_1 (by assumption) | exact led_2 (by assumption) | exact bk_m (by assumption) (by first | assumption | omega) | exact bk_p (by assumption) (by first | assumption | omega) | exact bk_o (by assumption) (by first | assumption | omega) | exact bk_s (by assumption) (by first | assumption | omega) | exact bk_1 (by assumption) | exact bk_2 (by assumption) | exact bk_3 (by assumption) | exact bk_4 (by assumption) | exact bk_5 (by assumption) | exact bk_6 (by assumption) | exact bk_7 (by assumption) | exact bk_8 (by assumption) | exact sh_ring _ (by first | assumption | omega) | exact sh_imgs _ (by first | assumption | omega)) (by decide) rfl (by decide) (Nat.le_of_ble_eq_true rfl) (c_X7_read (B := B2) (tp := tp) (sz := n) hR hB2 (by omega) hby hrs (fun f p q J M p1 p2 hf => ?_) (fun v q J M p1 hF hL hf => ?_))
      · have hRa : RO (ur R 88 2 (some B2)) := hR.up (Or.inr (Or.inl ⟨rfl, rfl⟩))
        have hRb : RO (ur (ur R 88 2 (some B2)) 89 0 (some 1)) := hRa.up (Or.inr (Or.inr (Or.inl ⟨rfl, rfl⟩)))
        have r0 : (ur (ur R 88 2 (some B2)) 89 0 (some 1)) 0 = R 0 := by rw [ur_ne (by decide), ur_ne (by decide)]
        refine v_istore_2 rfl dX11_book_43 ?_
        refine v_aload_0 dX11_book_44 ?_
        refine v_iconst (v := nI 0) dX11_book_45 (by decide) ?_
        refine u_putI dX11_book_46 gf_X11_13 (by first | assumption | rfl | exact led_1 (by assumption) | exact led_2 (by assumption) | exact bk_m (by assumption) (by first | assumption | omega) | exact bk_p (by assumption) (by first | assumption | omega) | exact bk_o (by assumption) (by first | assumption | omega) | exact bk_s (by assumption) (by first | assumption | omega) | exact bk_1 (by assumption) | exact bk_2 (by assumption) | exact bk_3 (by assumption) | exact bk_4 (by assumption) | exact bk_5 (by assumption) | exact bk_6 (by assumption) | exact bk_7 (by assumption) | exact bk_8 (by assumption) | exact sh_ring _ (by first | assumption | omega) | exact sh_imgs _ (by first | assumption | omega)) rfl rfl rfl ?_
        refine v_aload_0 dX11_book_49 ?_
        refine v_aload_0 dX11_book_50 ?_
        refine u_getR dX11_book_51 gf_X11_39 (by first | assumption | rfl | exact led_1 (by assumption) | exact led_2 (by assumption) | exact bk_m (by assumption) (by first | assumption | omega) | exact bk_p (by assumption) (by first | assumption | omega) | exact bk_o (by assumption) (by first | assumption | omega) | exact bk_s (by assumption) (by first | assumption | omega) | exact bk_1 (by assumption) | exact bk_2 (by assumption) | exact bk_3 (by assumption) | exact bk_4 (by assumption) | exact bk_5 (by assumption) | exact bk_6 (by assumption) | exact bk_7 (by assumption) | exact bk_8 (by assumption) | exact sh_ring _ (by first | assumption | omega) | exact sh_imgs _ (by first | assumption | omega)) (ro_X11_7 (by assumption)) ?_
        refine u_getI dX11_book_54 gf_X11_76 (by first | assumption | rfl | exact led_1 (by assumption) | exact led_2 (by assumption) | exact bk_m (by assumption) (by first | assumption | omega) | exact bk_p (by assumption) (by first | assumption | omega) | exact bk_o (by assumption) (by first | assumption | omega) | exact bk_s (by assumption) (by first | assumption | omega) | exact bk_1 (by assumption) | exact bk_2 (by assumption) | exact bk_3 (by assumption) | exact bk_4 (by assumption) | exact bk_5 (by assumption) | exact bk_6 (by assumption) | exact bk_7 (by assumption) | exact bk_8 (by assumption) | exact sh_ring _ (by first | assumption | omega) | exact sh_imgs _ (by first | assumption | omega)) ?_
        rw [ui_ne (by decide), p1]
        refine u_putI dX11_book_57 gf_X11_20 (by first | assumption | rfl | exact led_1 (by assumption) | exact led_2 (by assumption) | exact bk_m (by assumption) (by first | assumption | omega) | exact bk_p (by assumption) (by first | assumption | omega) | exact bk_o (by assumption) (by first | assumption | omega) | exact bk_s (by assumption) (by first | assumption | omega) | exact bk_1 (by assumption) | exact bk_2 (by assumption) | exact bk_3 (by assumption) | exact bk_4 (by assumption) | exact bk_5 (by assumption) | exact bk_6 (by assumption) | exact bk_7 (by assumption) | exact bk_8 (by assumption) | exact sh_ring _ (by first | assumption | omega) | exact sh_imgs _ (by first | assumption | omega)) rfl rfl rfl ?_
        refine v_aload_0 dX11_book_60 ?_
        refine v_aload_0 dX11_book_61 ?_
        refine u_getR dX11_book_62 gf_X11_39 (by first | assumption | rfl | exact led_1 (by assumption) | exact led_2 (by assumption) | exact bk_m (by assumption) (by first | assumption | omega) | exact bk_p (by assumption) (by first | assumption | omega) | exact bk_o (by assumption) (by first | assumption | omega) | exact bk_s (by assumption) (by first | assumption | omega) | exact bk_1 (by assumption) | exact bk_2 (by assumption) | exact bk_3 (by assumption) | exact bk_4 (by assumption) | exact bk_5 (by assumption) | exact bk_6 (by assumption) | exact bk_7 (by assumption) | exact bk_8 (by assumption) | exact sh_ring _ (by first | assumption | omega) | exact sh_imgs _ (by first | assumption | omega)) (ro_X11_7 (by assumption)) ?_
        refine u_getI dX11_book_65 gf_X11_77 (by first | assumption | rfl | exact led_1 (by assumption) | exact led_2 (by assumption) | exact bk_m (by assumption) (by first | assumption | omega) | exact bk_p (by assumption) (by first | assumption | omega) | exact bk_o (by assumption) (by first | assumption | omega) | exact bk_s (by assumption) (by first | assumption | omega) | exact bk_1 (by assumption) | exact bk_2 (by assumption) | exact bk_3 (by assumption) | exact bk_4 (by assumption) | exact bk_5 (by assumption) | exact bk_6 (by assumption) | exact bk_7 (by assumption) | exact bk_8 (by assumption) | exact sh_ring _ (by first | assumption | omega) | exact sh_imgs _ (by first | assumption | omega)) ?_
        rw [ui_ne (by decide), ui_ne (by decide), p2]
        refine u_putI dX11_book_68 gf_X11_23 (by first | assumption | rfl | exact led_1 (by assumption) | exact led_2 (by assumption) | exact bk_m (by assumption) (by first | assumption | omega) | exact bk_p (by assumption) (by first | assumption | omega) | exact bk_o (by assumption) (by first | assumption | omega) | exact bk_s (by assumption) (by first | assumption | omega) | exact bk_1 (by assumption) | exact bk_2 (by assumption) | exact bk_3 (by assumption) | exact bk_4 (by assumption) | exact bk_5 (by assumption) | exact bk_6 (by assumption) | exact bk_7 (by assumption) | exact bk_8 (by assumption) | exact sh_ring _ (by first | assumption | omega) | exact sh_imgs _ (by first | assumption | omega)) rfl rfl rfl ?_
        refine v_iload_2 dX11_book_71 ?_
        refine v_if_ne (tgt := 83) dX11_book_72 (by decide) (fun hc72 => ?_) (fun hc72 => ?_)
        · exact absurd rfl hc72
        · (first | rw [bI_0, Bool.not_eq_false] at hc72 | rw [bI_0] at hc72 | rw [show (0 : Int32) = nI 0 from rfl, nI_eq (by omega) (by omega)] at hc72 | skip)
          refine v_aload_0 dX11_book_75 ?_
          refine v_iconst (v := nI 4) dX11_book_76 (by decide) ?_
          refine u_callV_1 dX11_book_77 ml_X11_78 mv_X11_refuse (by first | assumption | rfl | exact led_1 (by assumption) | exact led_2 (by assumption) | exact bk_m (by assumption) (by first | assumption | omega) | exact bk_p (by assumption) (by first | assumption | omega) | exact bk_o (by assumption) (by first | assumption | omega) | exact bk_s (by assumption) (by first | assumption | omega) | exact bk_1 (by assumption) | exact bk_2 (by assumption) | exact bk_3 (by assumption) | exact bk_4 (by assumption) | exact bk_5 (by assumption) | exact bk_6 (by assumption) | exact bk_7 (by assumption) | exact bk_8 (by assumption) | exact sh_ring _ (by first | assumption | omega) | exact sh_imgs _ (by first | assumption | omega)) (by decide) rfl (by decide) (Nat.le_of_ble_eq_true rfl) (c_X11_refuse ?_)
          refine v_pop dX11_book_80 rfl ?_
          refine v_iconst (v := -1) dX11_book_81 (by decide) ?_
          refine v_iret dX11_book_82 rfl rfl rfl rfl ?_
          have hg := gd_pars (fun i hi => (htp i (by omega)).2) f p q
          exact (hQ0 f p q).fin (cb_fail hcb hf (by rw [ui_o (by decide), ui_o (by decide), ui_o (by decide), ui_s]) (ui_s _ _ _ _) (by rw [ui_o (by decide), ui_o (by decide), ui_s]) hg.1 (by rw [ui_o (by decide), ui_s]) (by omega) (fun x hx => by rw [ui_ne hx, ui_ne hx, ui_ne hx, ui_ne hx]) hRb r0) (hh.trans (hi_frb hB2 hf (fun x hx => by rw [ui_ne (by omega), ui_ne (by omega), ui_ne (by omega), ui_ne (by omega)]) (fun x hx => by rw [ur_ne (by omega), ur_ne (by omega)]))) rfl rfl
      · have hRa : RO (ur R 88 2 (some B2)) := hR.up (Or.inr (Or.inl ⟨rfl, rfl⟩))
        have hRb : RO (ur (ur R 88 2 (some B2)) 89 0 (some 1)) := hRa.up (Or.inr (Or.inr (Or.inl ⟨rfl, rfl⟩)))
        have r0 : (ur (ur R 88 2 (some B2)) 89 0 (some 1)) 0 = R 0 := by rw [ur_ne (by decide), ur_ne (by decide)]
        have r5 : (ur (ur R 88 2 (some B2)) 89 0 (some 1)) 0 5 = some B := by rw [r0]; exact hb5
        have r6 : (ur (ur R 88 2 (some B2)) 89 0 (some 1)) 0 6 = some B2 := by rw [r0]; exact hb6
        have hRc : RO (ur (ur (ur (ur R 88 2 (some B2)) 89 0 (some 1)) 0 5 (some B2)) 0 6 (some B)) := (hRb.up (Or.inl ⟨rfl, Or.inl rfl⟩)).up (Or.inl ⟨rfl, Or.inr rfl⟩)
        have c5 : ur (ur (ur (ur R 88 2 (some B2)) 89 0 (some 1)) 0 5 (some B2)) 0 6 (some B) 0 5 = some B2 := by simp [ur, va_up]
        have c6 : ur (ur (ur (ur R 88 2 (some B2)) 89 0 (some 1)) 0 5 (some B2)) 0 6 (some B) 0 6 = some B := ur_s
        have hip := inv_pars (fun i hi => (htp i (by omega)).2) q
        have hO := hip.1.2.1
        have ht := cb_t h
        have h94 : J 94 1 = nI t := by rw [hf.1 94 (by omega) (by omega) (by omega) (by omega) (by omega), ui_ne (by decide)]; exact cb_1 h
        refine v_istore_2 rfl dX11_book_43 ?_
        refine v_aload_0 dX11_book_44 ?_
        refine v_iconst (v := nI 0) dX11_book_45 (by decide) ?_
        refine u_putI dX11_book_46 gf_X11_13 (by first | assumption | rfl | exact led_1 (by assumption) | exact led_2 (by assumption) | exact bk_m (by assumption) (by first | assumption | omega) | exact bk_p (by assumption) (by first | assumption | omega) | exact bk_o (by assumption) (by first | assumption | omega) | exact bk_s (by assumption) (by first | assumption | omega) | exact bk_1 (by assumption) | exact bk_2 (by assumption) | exact bk_3 (by assumption) | exact bk_4 (by assumption) | exact bk_5 (by assumption) | exact bk_6 (by assumption) | exact bk_7 (by assumption) | exact bk_8 (by assumption) | exact sh_ring _ (by first | assumption | omega) | exact sh_imgs _ (by first | assumption | omega)) rfl rfl rfl ?_
        refine v_aload_0 dX11_book_49 ?_
        refine v_aload_0 dX11_book_50 ?_
        refine u_getR dX11_book_51 gf_X11_39 (by first | assumption | rfl | exact led_1 (by assumption) | exact led_2 (by assumption) | exact bk_m (by assumption) (by first | assumption | omega) | exact bk_p (by assumption) (by first | assumption | omega) | exact bk_o (by assumption) (by first | assumption | omega) | exact bk_s (by assumption) (by first | assumption | omega) | exact bk_1 (by assumption) | exact bk_2 (by assumption) | exact bk_3 (by assumption) | exact bk_4 (by assumption) | exact bk_5 (by assumption) | exact bk_6 (by assumption) | exact bk_7 (by assumption) | exact bk_8 (by assumption) | exact sh_ring _ (by first | assumption | omega) | exact sh_imgs _ (by first | assumption | omega)) (ro_X11_7 (by assumption)) ?_
        refine u_getI dX11_book_54 gf_X11_76 (by first | assumption | rfl | exact led_1 (by assumption) | exact led_2 (by assumption) | exact bk_m (by assumption) (by first | assumption | omega) | exact bk_p (by assumption) (by first | assumption | omega) | exact bk_o (by assumption) (by first | assumption | omega) | exact bk_s (by assumption) (by first | assumption | omega) | exact bk_1 (by assumption) | exact bk_2 (by assumption) | exact bk_3 (by assumption) | exact bk_4 (by assumption) | exact bk_5 (by assumption) | exact bk_6 (by assumption) | exact bk_7 (by assumption) | exact bk_8 (by assumption) | exact sh_ring _ (by first | assumption | omega) | exact sh_imgs _ (by first | assumption | omega)) ?_
        rw [ui_ne (by decide), p1]
        refine u_putI dX11_book_57 gf_X11_20 (by first | assumption | rfl | exact led_1 (by assumption) | exact led_2 (by assumption) | exact bk_m (by assumption) (by first | assumption | omega) | exact bk_p (by assumption) (by first | assumption | omega) | exact bk_o (by assumption) (by first | assumption | omega) | exact bk_s (by assumption) (by first | assumption | omega) | exact bk_1 (by assumption) | exact bk_2 (by assumption) | exact bk_3 (by assumption) | exact bk_4 (by assumption) | exact bk_5 (by assumption) | exact bk_6 (by assumption) | exact bk_7 (by assumption) | exact bk_8 (by assumption) | exact sh_ring _ (by first | assumption | omega) | exact sh_imgs _ (by first | assumption | omega)) rfl rfl rfl ?_
        refine v_aload_0 dX11_book_60 ?_
        refine v_aload_0 dX11_book_61 ?_
        refine u_getR dX11_book_62 gf_X11_39 (by first | assumption | rfl | exact led_1 (by assumption) | exact led_2 (by assumption) | exact bk_m (by assumption) (by first | assumption | omega) | exact bk_p (by assumption) (by first | assumption | omega) | exact bk_o (by assumption) (by first | assumption | omega) | exact bk_s (by assumption) (by first | assumption | omega) | exact bk_1 (by assumption) | exact bk_2 (by assumption) | exact bk_3 (by assumption) | exact bk_4 (by assumption) | exact bk_5 (by assumption) | exact bk_6 (by assumption) | exact bk_7 (by assumption) | exact bk_8 (by assumption) | exact sh_ring _ (by first | assumption | omega) | exact sh_imgs _ (by first | assumption | omega)) (ro_X11_7 (by assumption)) ?_
        refine u_getI dX11_book_65 gf_X11_77 (by first | assumption | rfl | exact led_1 (by assumption) | exact led_2 (by assumption) | exact bk_m (by assumption) (by first | assumption | omega) | exact bk_p (by assumption) (by first | assumption | omega) | exact bk_o (by assumption) (by first | assumption | omega) | exact bk_s (by assumption) (by first | assumption | omega) | exact bk_1 (by assumption) | exact bk_2 (by assumption) | exact bk_3 (by assumption) | exact bk_4 (by assumption) | exact bk_5 (by assumption) | exact bk_6 (by assumption) | exact bk_7 (by assumption) | exact bk_8 (by assumption) | exact sh_ring _ (by first | assumption | omega) | exact sh_imgs _ (by first | assumption | omega)) ?_
        rw [ui_ne (by decide), ui_ne (by decide)]
        refine u_putI dX11_book_68 gf_X11_23 (by first | assumption | rfl | exact led_1 (by assumption) | exact led_2 (by assumption) | exact bk_m (by assumption) (by first | assumption | omega) | exact bk_p (by assumption) (by first | assumption | omega) | exact bk_o (by assumption) (by first | assumption | omega) | exact bk_s (by assumption) (by first | assumption | omega) | exact bk_1 (by assumption) | exact bk_2 (by assumption) | exact bk_3 (by assumption) | exact bk_4 (by assumption) | exact bk_5 (by assumption) | exact bk_6 (by assumption) | exact bk_7 (by assumption) | exact bk_8 (by assumption) | exact sh_ring _ (by first | assumption | omega) | exact sh_imgs _ (by first | assumption | omega)) rfl rfl rfl ?_
        refine v_iload_2 dX11_book_71 ?_
        refine v_if_ne (tgt := 83) dX11_book_72 (by decide) (fun hc72 => ?_) (fun hc72 => ?_)
        · (first | rw [bI_0, Bool.not_eq_false] at hc72 | rw [bI_0] at hc72 | rw [show (0 : Int32) = nI 0 from rfl, nI_eq (by omega) (by omega)] at hc72 | skip)
          refine v_aload_0 dX11_book_83 ?_
          refine u_getR dX11_book_84 gf_X11_29 (by first | assumption | rfl | exact led_1 (by assumption) | exact led_2 (by assumption) | exact bk_m (by assumption) (by first | assumption | omega) | exact bk_p (by assumption) (by first | assumption | omega) | exact bk_o (by assumption) (by first | assumption | omega) | exact bk_s (by assumption) (by first | assumption | omega) | exact bk_1 (by assumption) | exact bk_2 (by assumption) | exact bk_3 (by assumption) | exact bk_4 (by assumption) | exact bk_5 (by assumption) | exact bk_6 (by assumption) | exact bk_7 (by assumption) | exact bk_8 (by assumption) | exact sh_ring _ (by first | assumption | omega) | exact sh_imgs _ (by first | assumption | omega)) (by assumption) ?_
          refine v_astore_3 rfl dX11_book_87 ?_
          refine v_aload_0 dX11_book_88 ?_
          refine v_aload_0 dX11_book_89 ?_
          refine u_getR dX11_book_90 gf_X11_33 (by first | assumption | rfl | exact led_1 (by assumption) | exact led_2 (by assumption) | exact bk_m (by assumption) (by first | assumption | omega) | exact bk_p (by assumption) (by first | assumption | omega) | exact bk_o (by assumption) (by first | assumption | omega) | exact bk_s (by assumption) (by first | assumption | omega) | exact bk_1 (by assumption) | exact bk_2 (by assumption) | exact bk_3 (by assumption) | exact bk_4 (by assumption) | exact bk_5 (by assumption) | exact bk_6 (by assumption) | exact bk_7 (by assumption) | exact bk_8 (by assumption) | exact sh_ring _ (by first | assumption | omega) | exact sh_imgs _ (by first | assumption | omega)) (by assumption) ?_
          refine u_putR dX11_book_93 gf_X11_29 (by first | assumption | rfl | exact led_1 (by assumption) | exact led_2 (by assumption) | exact bk_m (by assumption) (by first | assumption | omega) | exact bk_p (by assumption) (by first | assumption | omega) | exact bk_o (by assumption) (by first | assumption | omega) | exact bk_s (by assumption) (by first | assumption | omega) | exact bk_1 (by assumption) | exact bk_2 (by assumption) | exact bk_3 (by assumption) | exact bk_4 (by assumption) | exact bk_5 (by assumption) | exact bk_6 (by assumption) | exact bk_7 (by assumption) | exact bk_8 (by assumption) | exact sh_ring _ (by first | assumption | omega) | exact sh_imgs _ (by first | assumption | omega)) (fun _ => rfl) (fun _ => rfl) rfl ?_
          refine v_aload_0 dX11_book_96 ?_
          refine v_aload_3 dX11_book_97 ?_
          refine u_putR dX11_book_98 gf_X11_33 (by first | assumption | rfl | exact led_1 (by assumption) | exact led_2 (by assumption) | exact bk_m (by assumption) (by first | assumption | omega) | exact bk_p (by assumption) (by first | assumption | omega) | exact bk_o (by assumption) (by first | assumption | omega) | exact bk_s (by assumption) (by first | assumption | omega) | exact bk_1 (by assumption) | exact bk_2 (by assumption) | exact bk_3 (by assumption) | exact bk_4 (by assumption) | exact bk_5 (by assumption) | exact bk_6 (by assumption) | exact bk_7 (by assumption) | exact bk_8 (by assumption) | exact sh_ring _ (by first | assumption | omega) | exact sh_imgs _ (by first | assumption | omega)) (fun _ => rfl) (fun _ => rfl) rfl ?_
          refine v_aload_0 dX11_book_101 ?_
          refine u_getR dX11_book_102 gf_X11_46 (by first | assumption | rfl | exact led_1 (by assumption) | exact led_2 (by assumption) | exact bk_m (by assumption) (by first | assumption | omega) | exact bk_p (by assumption) (by first | assumption | omega) | exact bk_o (by assumption) (by first | assumption | omega) | exact bk_s (by assumption) (by first | assumption | omega) | exact bk_1 (by assumption) | exact bk_2 (by assumption) | exact bk_3 (by assumption) | exact bk_4 (by assumption) | exact bk_5 (by assumption) | exact bk_6 (by assumption) | exact bk_7 (by assumption) | exact bk_8 (by assumption) | exact sh_ring _ (by first | assumption | omega) | exact sh_imgs _ (by first | assumption | omega)) (ro_X11_8 (by assumption)) ?_
          refine u_callV_0 dX11_book_105 ml_X11_82 mv_X1_dropImages (by first | assumption | rfl | exact led_1 (by assumption) | exact led_2 (by assumption) | exact bk_m (by assumption) (by first | assumption | omega) | exact bk_p (by assumption) (by first | assumption | omega) | exact bk_o (by assumption) (by first | assumption | omega) | exact bk_s (by assumption) (by first | assumption | omega) | exact bk_1 (by assumption) | exact bk_2 (by assumption) | exact bk_3 (by assumption) | exact bk_4 (by assumption) | exact bk_5 (by assumption) | exact bk_6 (by assumption) | exact bk_7 (by assumption) | exact bk_8 (by assumption) | exact sh_ring _ (by first | assumption | omega) | exact sh_imgs _ (by first | assumption | omega)) (by decide) rfl (by decide) (Nat.le_of_ble_eq_true rfl) (c_X1_dropImages ?_)
          refine v_aload_0 dX11_book_108 ?_
          refine u_getR dX11_book_109 gf_X11_46 (by first | assumption | rfl | exact led_1 (by assumption) | exact led_2 (by assumption) | exact bk_m (by assumption) (by first | assumption | omega) | exact bk_p (by assumption) (by first | assumption | omega) | exact bk_o (by assumption) (by first | assumption | omega) | exact bk_s (by assumption) (by first | assumption | omega) | exact bk_1 (by assumption) | exact bk_2 (by assumption) | exact bk_3 (by assumption) | exact bk_4 (by assumption) | exact bk_5 (by assumption) | exact bk_6 (by assumption) | exact bk_7 (by assumption) | exact bk_8 (by assumption) | exact sh_ring _ (by first | assumption | omega) | exact sh_imgs _ (by first | assumption | omega)) (ro_X11_8 (by assumption)) ?_
          refine v_aload_0 dX11_book_112 ?_
          refine u_getR dX11_book_113 gf_X11_29 (by first | assumption | rfl | exact led_1 (by assumption) | exact led_2 (by assumption) | exact bk_m (by assumption) (by first | assumption | omega) | exact bk_p (by assumption) (by first | assumption | omega) | exact bk_o (by assumption) (by first | assumption | omega) | exact bk_s (by assumption) (by first | assumption | omega) | exact bk_1 (by assumption) | exact bk_2 (by assumption) | exact bk_3 (by assumption) | exact bk_4 (by assumption) | exact bk_5 (by assumption) | exact bk_6 (by assumption) | exact bk_7 (by assumption) | exact bk_8 (by assumption) | exact sh_ring _ (by first | assumption | omega) | exact sh_imgs _ (by first | assumption | omega)) (by assumption) ?_
          refine u_getR dX11_book_116 gf_X11_85 (by first | assumption | rfl | exact led_1 (by assumption) | exact led_2 (by assumption) | exact bk_m (by assumption) (by first | assumption | omega) | exact bk_p (by assumption) (by first | assumption | omega) | exact bk_o (by assumption) (by first | assumption | omega) | exact bk_s (by assumption) (by first | assumption | omega) | exact bk_1 (by assumption) | exact bk_2 (by assumption) | exact bk_3 (by assumption) | exact bk_4 (by assumption) | exact bk_5 (by assumption) | exact bk_6 (by assumption) | exact bk_7 (by assumption) | exact bk_8 (by assumption) | exact sh_ring _ (by first | assumption | omega) | exact sh_imgs _ (by first | assumption | omega)) (ro_X0_14 (by assumption) (by assumption)) ?_
          refine u_callV_1 dX11_book_119 ml_X11_89 mv_X1_begin (by first | assumption | rfl | exact led_1 (by assumption) | exact led_2 (by assumption) | exact bk_m (by assumption) (by first | assumption | omega) | exact bk_p (by assumption) (by first | assumption | omega) | exact bk_o (by assumption) (by first | assumption | omega) | exact bk_s (by assumption) (by first | assumption | omega) | exact bk_1 (by assumption) | exact bk_2 (by assumption) | exact bk_3 (by assumption) | exact bk_4 (by assumption) | exact bk_5 (by assumption) | exact bk_6 (by assumption) | exact bk_7 (by assumption) | exact bk_8 (by assumption) | exact sh_ring _ (by first | assumption | omega) | exact sh_imgs _ (by first | assumption | omega)) (by decide) rfl (by decide) (Nat.le_of_ble_eq_true rfl) (c_X1_begin (n := v.2.2.1) (g := v.2.2.2.1) (br := v.2.2.2.2) (t := t) hRc (by rw [ui_o (by decide), ui_ne (by decide), ui_ne (by decide), ui_ne (by decide)]; exact h94) ht (bk_8 hB2) (hL.same (by rw [ui_ne (by omega), ui_ne (by omega), ui_ne (by omega), ui_ne (by omega)]) (by rw [ui_ne (by omega), ui_ne (by omega), ui_ne (by omega), ui_ne (by omega)]) (by rw [ui_ne (by omega), ui_ne (by omega), ui_ne (by omega), ui_ne (by omega)])) (fun K q1 q2 q3 q4 q5 q6 => ?_))
          refine v_aload_0 dX11_book_122 ?_
          refine u_getR dX11_book_123 gf_X11_29 (by first | assumption | rfl | exact led_1 (by assumption) | exact led_2 (by assumption) | exact bk_m (by assumption) (by first | assumption | omega) | exact bk_p (by assumption) (by first | assumption | omega) | exact bk_o (by assumption) (by first | assumption | omega) | exact bk_s (by assumption) (by first | assumption | omega) | exact bk_1 (by assumption) | exact bk_2 (by assumption) | exact bk_3 (by assumption) | exact bk_4 (by assumption) | exact bk_5 (by assumption) | exact bk_6 (by assumption) | exact bk_7 (by assumption) | exact bk_8 (by assumption) | exact sh_ring _ (by first | assumption | omega) | exact sh_imgs _ (by first | assumption | omega)) (by assumption) ?_
          refine u_getI dX11_book_126 gf_X11_93 (by first | assumption | rfl | exact led_1 (by assumption) | exact led_2 (by assumption) | exact bk_m (by assumption) (by first | assumption | omega) | exact bk_p (by assumption) (by first | assumption | omega) | exact bk_o (by assumption) (by first | assumption | omega) | exact bk_s (by assumption) (by first | assumption | omega) | exact bk_1 (by assumption) | exact bk_2 (by assumption) | exact bk_3 (by assumption) | exact bk_4 (by assumption) | exact bk_5 (by assumption) | exact bk_6 (by assumption) | exact bk_7 (by assumption) | exact bk_8 (by assumption) | exact sh_ring _ (by first | assumption | omega) | exact sh_imgs _ (by first | assumption | omega)) ?_
          (try rw [bx2 hF])
          rw [q6 B2 (by omega) (by omega) (by omega) (by omega), ui_ne (by omega), ui_ne (by omega), ui_ne (by omega), ui_ne (by omega), bx2 hF]
          refine v_iret dX11_book_129 rfl rfl rfl rfl ?_
          have q7 : ∀ x, x ≠ 0 → x ≠ 94 → x ≠ 97 + 3 * t → x ≠ 97 + 3 * t + 1 → x ≠ 97 + 3 * t + 2 → K x = J x := fun x a c d e f => by rw [q6 x c d e f, ui_ne c, ui_ne a, ui_ne a, ui_ne a]
          have k0 : ∀ j, K 0 j = ui (ui (ui J 0 1 (nI 0)) 0 3 (nI 0)) 0 4 (J 88 1) 0 j := fun j => by rw [q6 0 (by omega) (by omega) (by omega) (by omega), ui_ne (by decide)]
          exact (hQ1 v q).fin (cb_book hcb hf hF hO hip.2.1 hip.1.2.2.2.2.2.1 (by rw [k0 1, ui_o (by decide), ui_o (by decide), ui_s]) (by rw [k0 2, ui_o (by decide), ui_o (by decide), ui_o (by decide), hf.1 0 (by omega) (by omega) (by omega) (by omega) (by omega), ui_s]) (by rw [k0 3, ui_o (by decide), ui_s]) q1 q2 q3 q4 (by rw [q5, ui_s]) q7 hRc c5 c6) (hh.trans (hi_frb hB2 hf (fun x hx => q7 x (by omega) (by omega) (by omega) (by omega) (by omega)) (fun x hx => by rw [ur_ne (by omega), ur_ne (by omega), ur_ne (by omega), ur_ne (by omega)]))) rfl rfl
        · exact absurd hc72 (by decide)
    · rw [bI_0, Bool.true_and] at hc22
      have ht2 : trc true (indn x nt) = 2 := by rw [hc22]; rfl
      rw [ht2]
      refine v_iconst (v := -1) dX11_book_25 (by decide) ?_
      refine v_iret dX11_book_26 rfl rfl rfl rfl ?_
      exact (hQ2 hc22).fin (cb_tr h (by decide) (by decide)) (hi_ui (by decide)) rfl rfl
  refine v_aload_0 dX11_book_0 ?_
  refine v_iconst (v := nI 1) dX11_book_1 (by decide) ?_
  refine v_iload_1 dX11_book_2 ?_
  refine v_if_lt (tgt := 18) dX11_book_3 (by decide) (fun hc3 => ?_) (fun hc3 => ?_)
  · skip
    refine v_iconst (v := nI 0) dX11_book_18 (by decide) ?_
    have e : indn x nt = false := by unfold indn; first | simp only [dle_f hc11, Bool.and_false] | simp only [dle_f hc3, Bool.false_and]
    rw [e] at cut
    exact cut
  · skip
    refine v_iload_1 dX11_book_6 ?_
    refine v_aload_0 dX11_book_7 ?_
    refine u_getI dX11_book_8 gf_X11_13 (by first | assumption | rfl | exact led_1 (by assumption) | exact led_2 (by assumption) | exact bk_m (by assumption) (by first | assumption | omega) | exact bk_p (by assumption) (by first | assumption | omega) | exact bk_o (by assumption) (by first | assumption | omega) | exact bk_s (by assumption) (by first | assumption | omega) | exact bk_1 (by assumption) | exact bk_2 (by assumption) | exact bk_3 (by assumption) | exact bk_4 (by assumption) | exact bk_5 (by assumption) | exact bk_6 (by assumption) | exact bk_7 (by assumption) | exact bk_8 (by assumption) | exact sh_ring _ (by first | assumption | omega) | exact sh_imgs _ (by first | assumption | omega)) ?_
    rw [n0]
    refine v_icmp_gt (tgt := 18) dX11_book_11 (by decide) (fun hc11 => ?_) (fun hc11 => ?_)
    · skip
      refine v_iconst (v := nI 0) dX11_book_18 (by decide) ?_
      have e : indn x nt = false := by unfold indn; first | simp only [dle_f hc11, Bool.and_false] | simp only [dle_f hc3, Bool.false_and]
      rw [e] at cut
      exact cut
    · skip
      refine v_iconst (v := nI 1) dX11_book_14 (by decide) ?_
      refine v_goto (tgt := 19) dX11_book_15 (by decide) ?_
      have e : indn x nt = true := by unfold indn; simp only [hc3, hc11, dle_t, not_false_eq_true, Bool.and_true]
      rw [e] at cut
      exact cut
end
