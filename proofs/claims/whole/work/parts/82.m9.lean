section
variable {b : Nat} {ad : Nat → Nat} {I J : HI} {L M : HL} {R : HR} {Q : QT} {tp : Nat → Nat} {nt tr fa pl : Nat} {F : bkF} {S : Nat → LSt} {u r : Nat} {im : Nat → LSt} {ic : Nat}
theorem rf_mk {S' : Nat → LSt} {u' r' ic' : Nat} {im' : Nat → LSt} (h : RefB I tp nt tr fa pl F S u r im ic) (hs : StI J 162 0 (S' 0)) (hk : LOK F (S' 0)) (j23 : J 157 23 = nI u') (j24 : J 157 24 = nI r') (j25 : J 157 25 = nI ic') (ur : u' + r' ≤ 12) (hU : ∀ j, j < u' → StI J 165 (87 * j) (S' (13 - (u' - j)))) (hRd : ∀ j, j < r' → StI J 166 (87 * j) (S' (r' - j))) (hc3 : ic' ≤ 3) (hi : ∀ c, c < ic' → StI J 167 (87 * c) (im' c)) (hf : F 0 ≠ 0) (j11 : J 157 11 = nI 0) (hj : ∀ j, j = 2 ∨ j = 9 ∨ j = 14 → J 157 j = I 157 j) (hx : ∀ x, x = 158 ∨ x = 160 → J x = I x) : RefB J tp nt 0 fa pl F S' u' r' im' ic' := by
  obtain ⟨⟨a1, a2, a3⟩, ⟨b1, b2, b3, b4⟩, c, -, -, f⟩ := h
  exact ⟨⟨by rw [hj 2 (by decide)]; exact a1, a2, fun i hi => by rw [hx 158 (by decide)]; exact a3 i hi⟩, ⟨j11, by rw [hj 9 (by decide)]; exact b2, (fun (q : 0 = 4) => absurd q (by decide)), by decide⟩, ⟨c.1.fr (hx 160 (by decide)) (hj 14 (by decide)), hs, hk⟩, ⟨j23, j24, ur, hU, hRd⟩, ⟨j25, hc3, hi⟩, fun q => absurd q hf⟩
theorem r_undo  (hR : RO R) (h : RefB I tp nt tr fa pl F S u r im ic) (hl : ∀ k, live u r k → LOK F (S k)) (hQ0 : u = 0 → YQ I L R tp nt 6 fa pl F S u r im ic 0 Q) (hQ1 : ¬ u = 0 → YQ I L R tp nt 0 fa pl F (backS S) (u - 1) (r + 1) im ic 1 Q) : KK 8 mX12_undo b ad [.ref (b + 157)] I L R Q := by
  have hO := h.2.2.1.1.2.2.1
  have o0 := hO.1
  have o1 := hO.2.1
  have o2 := hO.2.2.1
  have o3 := hO.2.2.2.1
  have o4 := hO.2.2.2.2.1
  have o5 := hO.2.2.2.2.2.1
  have o6 := hO.2.2.2.2.2.2.1
  have hK := h.2.2.1.2.2
  have hn20 := hK.1
  have hok : ∀ i, i < (S 0).1 → ok4 ((S 0).2.1 i) := fun i hi => (hK.2.1 i hi).1
  have h1 := h
  obtain ⟨D1, D2, D3, D4, D5⟩ := h.2.2.2.1
  obtain ⟨E1, E2, E3⟩ := h.2.2.2.2.1
  have H6 := h.2.2.2.2.2
  have hS0 := h.2.2.1.2.1
  refine K.of (M := mX12_undo) (lv := [some (.ref (b + 157))]) (by decide) (Nat.le_of_ble_eq_true rfl) rfl ?_
  refine v_aload_0 dX12_undo_0 ?_
  refine u_callV_0 dX12_undo_1 ml_X12_173 mv_X12_good (by first | assumption | rfl | exact led_1 (by assumption) | exact led_2 (by assumption) | exact bk_m (by assumption) (by first | assumption | omega) | exact bk_p (by assumption) (by first | assumption | omega) | exact bk_o (by assumption) (by first | assumption | omega) | exact bk_s (by assumption) (by first | assumption | omega) | exact bk_1 (by assumption) | exact bk_2 (by assumption) | exact bk_3 (by assumption) | exact bk_4 (by assumption) | exact bk_5 (by assumption) | exact bk_6 (by assumption) | exact bk_7 (by assumption) | exact bk_8 (by assumption) | exact sh_ring _ (by first | assumption | omega) | exact sh_imgs _ (by first | assumption | omega)) (by decide) rfl (by decide) (Nat.le_of_ble_eq_true rfl) (c_X12_good ?_)
  have h := rf_good h
  have hr : RfI _ F (S 0) := h.2.2.1
  have hS := hr.2.1
  have u23 := h.2.2.2.1.1
  have u24 := h.2.2.2.1.2.1
  refine v_aload_0 dX12_undo_4 ?_
  refine u_getI dX12_undo_5 gf_X12_189 (by first | assumption | rfl | exact led_1 (by assumption) | exact led_2 (by assumption) | exact bk_m (by assumption) (by first | assumption | omega) | exact bk_p (by assumption) (by first | assumption | omega) | exact bk_o (by assumption) (by first | assumption | omega) | exact bk_s (by assumption) (by first | assumption | omega) | exact bk_1 (by assumption) | exact bk_2 (by assumption) | exact bk_3 (by assumption) | exact bk_4 (by assumption) | exact bk_5 (by assumption) | exact bk_6 (by assumption) | exact bk_7 (by assumption) | exact bk_8 (by assumption) | exact sh_ring _ (by first | assumption | omega) | exact sh_imgs _ (by first | assumption | omega)) ?_
  rw [u23]
  refine v_if_ne (tgt := 18) dX12_undo_8 (by decide) (fun hc8 => ?_) (fun hc8 => ?_)
  · (first | rw [bI_0, Bool.not_eq_false] at hc8 | rw [bI_0] at hc8 | rw [show (0 : Int32) = nI 0 from rfl, nI_eq (by omega) (by omega)] at hc8 | skip)
    refine v_aload_0 dX12_undo_18 ?_
    refine v_aload_0 dX12_undo_19 ?_
    refine u_getR dX12_undo_20 gf_X12_38 (by first | assumption | rfl | exact led_1 (by assumption) | exact led_2 (by assumption) | exact bk_m (by assumption) (by first | assumption | omega) | exact bk_p (by assumption) (by first | assumption | omega) | exact bk_o (by assumption) (by first | assumption | omega) | exact bk_s (by assumption) (by first | assumption | omega) | exact bk_1 (by assumption) | exact bk_2 (by assumption) | exact bk_3 (by assumption) | exact bk_4 (by assumption) | exact bk_5 (by assumption) | exact bk_6 (by assumption) | exact bk_7 (by assumption) | exact bk_8 (by assumption) | exact sh_ring _ (by first | assumption | omega) | exact sh_imgs _ (by first | assumption | omega)) (ro_X12_21 (by assumption)) ?_
    refine v_aload_0 dX12_undo_23 ?_
    refine u_getI dX12_undo_24 gf_X12_192 (by first | assumption | rfl | exact led_1 (by assumption) | exact led_2 (by assumption) | exact bk_m (by assumption) (by first | assumption | omega) | exact bk_p (by assumption) (by first | assumption | omega) | exact bk_o (by assumption) (by first | assumption | omega) | exact bk_s (by assumption) (by first | assumption | omega) | exact bk_1 (by assumption) | exact bk_2 (by assumption) | exact bk_3 (by assumption) | exact bk_4 (by assumption) | exact bk_5 (by assumption) | exact bk_6 (by assumption) | exact bk_7 (by assumption) | exact bk_8 (by assumption) | exact sh_ring _ (by first | assumption | omega) | exact sh_imgs _ (by first | assumption | omega)) ?_
    rw [u24]
    refine v_aload_0 dX12_undo_27 ?_
    refine u_getR dX12_undo_28 gf_X12_26 (by first | assumption | rfl | exact led_1 (by assumption) | exact led_2 (by assumption) | exact bk_m (by assumption) (by first | assumption | omega) | exact bk_p (by assumption) (by first | assumption | omega) | exact bk_o (by assumption) (by first | assumption | omega) | exact bk_s (by assumption) (by first | assumption | omega) | exact bk_1 (by assumption) | exact bk_2 (by assumption) | exact bk_3 (by assumption) | exact bk_4 (by assumption) | exact bk_5 (by assumption) | exact bk_6 (by assumption) | exact bk_7 (by assumption) | exact bk_8 (by assumption) | exact sh_ring _ (by first | assumption | omega) | exact sh_imgs _ (by first | assumption | omega)) (ro_X12_17 (by assumption)) ?_
    refine u_callS_3 dX12_undo_31 ml_X12_419 ms_X12_keep (by decide) (Nat.le_of_ble_eq_true rfl) (c_X12_keep (n := r) rfl rfl (by decide) (by omega) (fun J1 q1 q2 => ?_))
    refine u_putI dX12_undo_34 gf_X12_192 (by first | assumption | rfl | exact led_1 (by assumption) | exact led_2 (by assumption) | exact bk_m (by assumption) (by first | assumption | omega) | exact bk_p (by assumption) (by first | assumption | omega) | exact bk_o (by assumption) (by first | assumption | omega) | exact bk_s (by assumption) (by first | assumption | omega) | exact bk_1 (by assumption) | exact bk_2 (by assumption) | exact bk_3 (by assumption) | exact bk_4 (by assumption) | exact bk_5 (by assumption) | exact bk_6 (by assumption) | exact bk_7 (by assumption) | exact bk_8 (by assumption) | exact sh_ring _ (by first | assumption | omega) | exact sh_imgs _ (by first | assumption | omega)) rfl rfl rfl ?_
    refine v_aload_0 dX12_undo_37 ?_
    refine v_dup dX12_undo_38 rfl ?_
    refine u_getI dX12_undo_39 gf_X12_189 (by first | assumption | rfl | exact led_1 (by assumption) | exact led_2 (by assumption) | exact bk_m (by assumption) (by first | assumption | omega) | exact bk_p (by assumption) (by first | assumption | omega) | exact bk_o (by assumption) (by first | assumption | omega) | exact bk_s (by assumption) (by first | assumption | omega) | exact bk_1 (by assumption) | exact bk_2 (by assumption) | exact bk_3 (by assumption) | exact bk_4 (by assumption) | exact bk_5 (by assumption) | exact bk_6 (by assumption) | exact bk_7 (by assumption) | exact bk_8 (by assumption) | exact sh_ring _ (by first | assumption | omega) | exact sh_imgs _ (by first | assumption | omega)) ?_
    rw [ui_o (by decide), q2 157 (by decide), u23]
    refine v_iconst (v := nI 1) dX12_undo_42 (by decide) ?_
    refine v_isub dX12_undo_43 ?_
    rw [pk_sub (by omega)]
    refine u_putI dX12_undo_44 gf_X12_189 (by first | assumption | rfl | exact led_1 (by assumption) | exact led_2 (by assumption) | exact bk_m (by assumption) (by first | assumption | omega) | exact bk_p (by assumption) (by first | assumption | omega) | exact bk_o (by assumption) (by first | assumption | omega) | exact bk_s (by assumption) (by first | assumption | omega) | exact bk_1 (by assumption) | exact bk_2 (by assumption) | exact bk_3 (by assumption) | exact bk_4 (by assumption) | exact bk_5 (by assumption) | exact bk_6 (by assumption) | exact bk_7 (by assumption) | exact bk_8 (by assumption) | exact sh_ring _ (by first | assumption | omega) | exact sh_imgs _ (by first | assumption | omega)) rfl rfl rfl ?_
    refine v_aload_0 dX12_undo_47 ?_
    refine u_getR dX12_undo_48 gf_X12_35 (by first | assumption | rfl | exact led_1 (by assumption) | exact led_2 (by assumption) | exact bk_m (by assumption) (by first | assumption | omega) | exact bk_p (by assumption) (by first | assumption | omega) | exact bk_o (by assumption) (by first | assumption | omega) | exact bk_s (by assumption) (by first | assumption | omega) | exact bk_1 (by assumption) | exact bk_2 (by assumption) | exact bk_3 (by assumption) | exact bk_4 (by assumption) | exact bk_5 (by assumption) | exact bk_6 (by assumption) | exact bk_7 (by assumption) | exact bk_8 (by assumption) | exact sh_ring _ (by first | assumption | omega) | exact sh_imgs _ (by first | assumption | omega)) (ro_X12_20 (by assumption)) ?_
    refine v_bipush (v := nI 87) dX12_undo_51 (by decide) ?_
    refine v_aload_0 dX12_undo_53 ?_
    refine u_getI dX12_undo_54 gf_X12_189 (by first | assumption | rfl | exact led_1 (by assumption) | exact led_2 (by assumption) | exact bk_m (by assumption) (by first | assumption | omega) | exact bk_p (by assumption) (by first | assumption | omega) | exact bk_o (by assumption) (by first | assumption | omega) | exact bk_s (by assumption) (by first | assumption | omega) | exact bk_1 (by assumption) | exact bk_2 (by assumption) | exact bk_3 (by assumption) | exact bk_4 (by assumption) | exact bk_5 (by assumption) | exact bk_6 (by assumption) | exact bk_7 (by assumption) | exact bk_8 (by assumption) | exact sh_ring _ (by first | assumption | omega) | exact sh_imgs _ (by first | assumption | omega)) ?_
    rw [ui_s]
    refine v_imul dX12_undo_57 ?_
    rw [pk_mul]
    refine v_aload_0 dX12_undo_58 ?_
    refine u_getR dX12_undo_59 gf_X12_26 (by first | assumption | rfl | exact led_1 (by assumption) | exact led_2 (by assumption) | exact bk_m (by assumption) (by first | assumption | omega) | exact bk_p (by assumption) (by first | assumption | omega) | exact bk_o (by assumption) (by first | assumption | omega) | exact bk_s (by assumption) (by first | assumption | omega) | exact bk_1 (by assumption) | exact bk_2 (by assumption) | exact bk_3 (by assumption) | exact bk_4 (by assumption) | exact bk_5 (by assumption) | exact bk_6 (by assumption) | exact bk_7 (by assumption) | exact bk_8 (by assumption) | exact sh_ring _ (by first | assumption | omega) | exact sh_imgs _ (by first | assumption | omega)) (ro_X12_17 (by assumption)) ?_
    refine v_iconst (v := nI 0) dX12_undo_62 (by decide) ?_
    refine v_bipush (v := nI 87) dX12_undo_63 (by decide) ?_
    refine u_callS_5 dX12_undo_65 ml_X12_182 ms_X12_copy (by decide) (Nat.le_of_ble_eq_true rfl) (c_X12_copy (i0 := 87 * (u - 1)) (j0 := 0) (m := 87) rfl rfl (by decide) (by omega) (by omega) (by decide) (by decide) (fun J2 p1 p2 => ?_))
    refine v_iconst (v := nI 1) dX12_undo_68 (by decide) ?_
    refine v_zret dX12_undo_69 (by first | rfl | exact bI_n _) rfl rfl rfl rfl ?_
    have hne : ¬ u = 0 := hc8
    have n20 : ∀ k, live u r k → (S k).1 ≤ 20 := fun k q => (hl k q).1
    have hL : live u r 12 := ⟨by omega, by omega⟩
    have k0 : ∀ x, x ≠ 162 → x ≠ 157 → x ≠ 166 → J2 x = I x := fun x a1 a2 a3 => by rw [p2 x a1]; simp only [ui_ne a2]; rw [q2 x a3]; simp only [ui_ne a2]
    have kK : ∀ k, k < 1044 → J2 166 k = J1 166 k := fun k _ => by rw [p2 166 (by decide)]; simp only [ui_ne (show (166:Nat) ≠ 157 by decide)]
    have kJ : ∀ j, j ≠ 0 → j ≠ 11 → j ≠ 23 → j ≠ 24 → J2 157 j = I 157 j := fun j a1 a2 a3 a4 => by rw [p2 157 (by decide)]; simp only [ui_o a1, ui_o a2, ui_o a3, ui_o a4]; rw [q2 157 (by decide)]; simp only [ui_o a1, ui_o a2]
    have q1a : ∀ k, k < 1044 → J2 166 k = if 87 * r ≤ k ∧ k < 87 * r + 87 then I 162 (k - 87 * r) else I 166 k := fun k hk => by rw [kK k hk, q1 k hk, if_pos (by omega)]; simp only [ui_ne (show (162:Nat) ≠ 157 by decide), ui_ne (show (166:Nat) ≠ 157 by decide)]
    have hold : ∀ j, j < r → ∀ s : LSt, s.1 ≤ 20 → StI I 166 (87 * j) s → StI J2 166 (87 * j) s := fun j hj s hs hst => hst.cp hs (fun k hk => by rw [q1a _ (by omega), if_neg (by omega)])
    have hnew : StI J2 166 (87 * r) (S 0) := hS0.cp (n20 0 (live0 _ _)) (fun k hk => by rw [q1a _ (by omega), if_pos ⟨by omega, by omega⟩, show 87 * r + k - 87 * r = k by omega, Nat.zero_add])
    have hsrc : J2 165 = I 165 := k0 165 (by decide) (by decide) (by decide)
    have hs0 : StI J2 162 0 (S 12) := by
      have := D4 (u - 1) (by omega)
      rw [show 13 - (u - (u - 1)) = 12 by omega] at this
      exact this.cp (n20 12 hL) (fun k hk => by rw [p1, if_pos ⟨Nat.zero_le _, by omega⟩]; simp only [ui_ne (show (165:Nat) ≠ 157 by decide)]; rw [q2 165 (by decide), show 87 * (u - 1) + (0 + k - 0) = 87 * (u - 1) + k by omega, ui_ne (by decide), ui_ne (by decide)])
    have j23 : J2 157 23 = nI (u - 1) := by rw [p2 157 (by decide), ui_s]
    have j24 : J2 157 24 = nI (r + 1) := by rw [p2 157 (by decide), ui_o (by decide), ui_s, if_pos (by omega)]
    have hU : ∀ j, j < u - 1 → StI J2 165 (87 * j) (backS S (13 - (u - 1 - j))) := fun j hj => by show StI J2 165 _ (S ((13 - (u - 1 - j) + 12) % 13)); rw [show (13 - (u - 1 - j) + 12) % 13 = 13 - (u - j) by omega]; exact (D4 j (by omega)).fr hsrc
    have hRd : ∀ j, j < r + 1 → StI J2 166 (87 * j) (backS S (r + 1 - j)) := fun j hj => by
        show StI J2 166 _ (S ((r + 1 - j + 12) % 13))
        by_cases e : j = r
        · subst e; rw [show (j + 1 - j + 12) % 13 = 0 by omega]; exact hnew
        · rw [show (r + 1 - j + 12) % 13 = r - j by omega]; exact hold j (by omega) _ (n20 _ ⟨by omega, by omega⟩) (D5 j (by omega))
    have hff0 : F 0 ≠ 0 := fun q => by have := H6 q; omega
    refine (hQ1 hne).fin (rf_mk h1 (S' := backS S) hs0 (hl 12 hL) j23 j24 (by rw [kJ 25 (by decide) (by decide) (by decide) (by decide)]; exact E1) (by omega) hU hRd E2 (fun c hc => (E3 c hc).fr (k0 167 (by decide) (by decide) (by decide))) hff0 ?_ (fun j hj => kJ j (by omega) (by omega) (by omega) (by omega)) (fun x hx => k0 x (by omega) (by omega) (by omega))) (fun x hx => k0 x (by omega) (by omega) (by omega)) (fun _ _ => rfl) rfl rfl
    rw [p2 157 (by decide), ui_o (by decide), ui_o (by decide), q2 157 (by decide), ui_s]
  · (first | rw [bI_0, Bool.not_eq_false] at hc8 | rw [bI_0] at hc8 | rw [show (0 : Int32) = nI 0 from rfl, nI_eq (by omega) (by omega)] at hc8 | skip)
    refine v_aload_0 dX12_undo_11 ?_
    refine v_bipush (v := nI 6) dX12_undo_12 (by decide) ?_
    refine u_callV_1 dX12_undo_14 ml_X12_423 mv_X12_isNot (by first | assumption | rfl | exact led_1 (by assumption) | exact led_2 (by assumption) | exact bk_m (by assumption) (by first | assumption | omega) | exact bk_p (by assumption) (by first | assumption | omega) | exact bk_o (by assumption) (by first | assumption | omega) | exact bk_s (by assumption) (by first | assumption | omega) | exact bk_1 (by assumption) | exact bk_2 (by assumption) | exact bk_3 (by assumption) | exact bk_4 (by assumption) | exact bk_5 (by assumption) | exact bk_6 (by assumption) | exact bk_7 (by assumption) | exact bk_8 (by assumption) | exact sh_ring _ (by first | assumption | omega) | exact sh_imgs _ (by first | assumption | omega)) (by decide) rfl (by decide) (Nat.le_of_ble_eq_true rfl) (c_X12_isNot (k := 6) ?_)
    refine v_zret dX12_undo_17 (by first | rfl | exact bI_n _) rfl rfl rfl rfl ?_
    exact (hQ0 hc8).fin (rf_tr h (by decide)) (fun x hx => by simp only [ui_ne (show x ≠ 157 by omega)]) (fun _ _ => rfl) rfl rfl
theorem r_redo  (hR : RO R) (h : RefB I tp nt tr fa pl F S u r im ic) (hl : ∀ k, live u r k → LOK F (S k)) (hQ0 : r = 0 → YQ I L R tp nt 6 fa pl F S u r im ic 0 Q) (hQ1 : ¬ r = 0 → YQ I L R tp nt 0 fa pl F (forthS S) (u + 1) (r - 1) im ic 1 Q) : KK 8 mX12_redo b ad [.ref (b + 157)] I L R Q := by
  have hO := h.2.2.1.1.2.2.1
  have o0 := hO.1
  have o1 := hO.2.1
  have o2 := hO.2.2.1
  have o3 := hO.2.2.2.1
  have o4 := hO.2.2.2.2.1
  have o5 := hO.2.2.2.2.2.1
  have o6 := hO.2.2.2.2.2.2.1
  have hK := h.2.2.1.2.2
  have hn20 := hK.1
  have hok : ∀ i, i < (S 0).1 → ok4 ((S 0).2.1 i) := fun i hi => (hK.2.1 i hi).1
  have h1 := h
  obtain ⟨D1, D2, D3, D4, D5⟩ := h.2.2.2.1
  obtain ⟨E1, E2, E3⟩ := h.2.2.2.2.1
  have H6 := h.2.2.2.2.2
  have hS0 := h.2.2.1.2.1
  refine K.of (M := mX12_redo) (lv := [some (.ref (b + 157))]) (by decide) (Nat.le_of_ble_eq_true rfl) rfl ?_
  refine v_aload_0 dX12_redo_0 ?_
  refine u_callV_0 dX12_redo_1 ml_X12_173 mv_X12_good (by first | assumption | rfl | exact led_1 (by assumption) | exact led_2 (by assumption) | exact bk_m (by assumption) (by first | assumption | omega) | exact bk_p (by assumption) (by first | assumption | omega) | exact bk_o (by assumption) (by first | assumption | omega) | exact bk_s (by assumption) (by first | assumption | omega) | exact bk_1 (by assumption) | exact bk_2 (by assumption) | exact bk_3 (by assumption) | exact bk_4 (by assumption) | exact bk_5 (by assumption) | exact bk_6 (by assumption) | exact bk_7 (by assumption) | exact bk_8 (by assumption) | exact sh_ring _ (by first | assumption | omega) | exact sh_imgs _ (by first | assumption | omega)) (by decide) rfl (by decide) (Nat.le_of_ble_eq_true rfl) (c_X12_good ?_)
  have h := rf_good h
  have hr : RfI _ F (S 0) := h.2.2.1
  have hS := hr.2.1
  have u23 := h.2.2.2.1.1
  have u24 := h.2.2.2.1.2.1
  refine v_aload_0 dX12_redo_4 ?_
  refine u_getI dX12_redo_5 gf_X12_192 (by first | assumption | rfl | exact led_1 (by assumption) | exact led_2 (by assumption) | exact bk_m (by assumption) (by first | assumption | omega) | exact bk_p (by assumption) (by first | assumption | omega) | exact bk_o (by assumption) (by first | assumption | omega) | exact bk_s (by assumption) (by first | assumption | omega) | exact bk_1 (by assumption) | exact bk_2 (by assumption) | exact bk_3 (by assumption) | exact bk_4 (by assumption) | exact bk_5 (by assumption) | exact bk_6 (by assumption) | exact bk_7 (by assumption) | exact bk_8 (by assumption) | exact sh_ring _ (by first | assumption | omega) | exact sh_imgs _ (by first | assumption | omega)) ?_
  rw [u24]
  refine v_if_ne (tgt := 18) dX12_redo_8 (by decide) (fun hc8 => ?_) (fun hc8 => ?_)
  · (first | rw [bI_0, Bool.not_eq_false] at hc8 | rw [bI_0] at hc8 | rw [show (0 : Int32) = nI 0 from rfl, nI_eq (by omega) (by omega)] at hc8 | skip)
    refine v_aload_0 dX12_redo_18 ?_
    refine v_aload_0 dX12_redo_19 ?_
    refine u_getR dX12_redo_20 gf_X12_35 (by first | assumption | rfl | exact led_1 (by assumption) | exact led_2 (by assumption) | exact bk_m (by assumption) (by first | assumption | omega) | exact bk_p (by assumption) (by first | assumption | omega) | exact bk_o (by assumption) (by first | assumption | omega) | exact bk_s (by assumption) (by first | assumption | omega) | exact bk_1 (by assumption) | exact bk_2 (by assumption) | exact bk_3 (by assumption) | exact bk_4 (by assumption) | exact bk_5 (by assumption) | exact bk_6 (by assumption) | exact bk_7 (by assumption) | exact bk_8 (by assumption) | exact sh_ring _ (by first | assumption | omega) | exact sh_imgs _ (by first | assumption | omega)) (ro_X12_20 (by assumption)) ?_
    refine v_aload_0 dX12_redo_23 ?_
    refine u_getI dX12_redo_24 gf_X12_189 (by first | assumption | rfl | exact led_1 (by assumption) | exact led_2 (by assumption) | exact bk_m (by assumption) (by first | assumption | omega) | exact bk_p (by assumption) (by first | assumption | omega) | exact bk_o (by assumption) (by first | assumption | omega) | exact bk_s (by assumption) (by first | assumption | omega) | exact bk_1 (by assumption) | exact bk_2 (by assumption) | exact bk_3 (by assumption) | exact bk_4 (by assumption) | exact bk_5 (by assumption) | exact bk_6 (by assumption) | exact bk_7 (by assumption) | exact bk_8 (by assumption) | exact sh_ring _ (by first | assumption | omega) | exact sh_imgs _ (by first | assumption | omega)) ?_
    rw [u23]
    refine v_aload_0 dX12_redo_27 ?_
    refine u_getR dX12_redo_28 gf_X12_26 (by first | assumption | rfl | exact led_1 (by assumption) | exact led_2 (by assumption) | exact bk_m (by assumption) (by first | assumption | omega) | exact bk_p (by assumption) (by first | assumption | omega) | exact bk_o (by assumption) (by first | assumption | omega) | exact bk_s (by assumption) (by first | assumption | omega) | exact bk_1 (by assumption) | exact bk_2 (by assumption) | exact bk_3 (by assumption) | exact bk_4 (by assumption) | exact bk_5 (by assumption) | exact bk_6 (by assumption) | exact bk_7 (by assumption) | exact bk_8 (by assumption) | exact sh_ring _ (by first | assumption | omega) | exact sh_imgs _ (by first | assumption | omega)) (ro_X12_17 (by assumption)) ?_
    refine u_callS_3 dX12_redo_31 ml_X12_419 ms_X12_keep (by decide) (Nat.le_of_ble_eq_true rfl) (c_X12_keep (n := u) rfl rfl (by decide) (by omega) (fun J1 q1 q2 => ?_))
    refine u_putI dX12_redo_34 gf_X12_189 (by first | assumption | rfl | exact led_1 (by assumption) | exact led_2 (by assumption) | exact bk_m (by assumption) (by first | assumption | omega) | exact bk_p (by assumption) (by first | assumption | omega) | exact bk_o (by assumption) (by first | assumption | omega) | exact bk_s (by assumption) (by first | assumption | omega) | exact bk_1 (by assumption) | exact bk_2 (by assumption) | exact bk_3 (by assumption) | exact bk_4 (by assumption) | exact bk_5 (by assumption) | exact bk_6 (by assumption) | exact bk_7 (by assumption) | exact bk_8 (by assumption) | exact sh_ring _ (by first | assumption | omega) | exact sh_imgs _ (by first | assumption | omega)) rfl rfl rfl ?_
    refine v_aload_0 dX12_redo_37 ?_
    refine v_dup dX12_redo_38 rfl ?_
    refine u_getI dX12_redo_39 gf_X12_192 (by first | assumption | rfl | exact led_1 (by assumption) | exact led_2 (by assumption) | exact bk_m (by assumption) (by first | assumption | omega) | exact bk_p (by assumption) (by first | assumption | omega) | exact bk_o (by assumption) (by first | assumption | omega) | exact bk_s (by assumption) (by first | assumption | omega) | exact bk_1 (by assumption) | exact bk_2 (by assumption) | exact bk_3 (by assumption) | exact bk_4 (by assumption) | exact bk_5 (by assumption) | exact bk_6 (by assumption) | exact bk_7 (by assumption) | exact bk_8 (by assumption) | exact sh_ring _ (by first | assumption | omega) | exact sh_imgs _ (by first | assumption | omega)) ?_
    rw [ui_o (by decide), q2 157 (by decide), u24]
    refine v_iconst (v := nI 1) dX12_redo_42 (by decide) ?_
    refine v_isub dX12_redo_43 ?_
    rw [pk_sub (by omega)]
    refine u_putI dX12_redo_44 gf_X12_192 (by first | assumption | rfl | exact led_1 (by assumption) | exact led_2 (by assumption) | exact bk_m (by assumption) (by first | assumption | omega) | exact bk_p (by assumption) (by first | assumption | omega) | exact bk_o (by assumption) (by first | assumption | omega) | exact bk_s (by assumption) (by first | assumption | omega) | exact bk_1 (by assumption) | exact bk_2 (by assumption) | exact bk_3 (by assumption) | exact bk_4 (by assumption) | exact bk_5 (by assumption) | exact bk_6 (by assumption) | exact bk_7 (by assumption) | exact bk_8 (by assumption) | exact sh_ring _ (by first | assumption | omega) | exact sh_imgs _ (by first | assumption | omega)) rfl rfl rfl ?_
    refine v_aload_0 dX12_redo_47 ?_
    refine u_getR dX12_redo_48 gf_X12_38 (by first | assumption | rfl | exact led_1 (by assumption) | exact led_2 (by assumption) | exact bk_m (by assumption) (by first | assumption | omega) | exact bk_p (by assumption) (by first | assumption | omega) | exact bk_o (by assumption) (by first | assumption | omega) | exact bk_s (by assumption) (by first | assumption | omega) | exact bk_1 (by assumption) | exact bk_2 (by assumption) | exact bk_3 (by assumption) | exact bk_4 (by assumption) | exact bk_5 (by assumption) | exact bk_6 (by assumption) | exact bk_7 (by assumption) | exact bk_8 (by assumption) | exact sh_ring _ (by first | assumption | omega) | exact sh_imgs _ (by first | assumption | omega)) (ro_X12_21 (by assumption)) ?_
    refine v_bipush (v := nI 87) dX12_redo_51 (by decide) ?_
    refine v_aload_0 dX12_redo_53 ?_
    refine u_getI dX12_redo_54 gf_X12_192 (by first | assumption | rfl | exact led_1 (by assumption) | exact led_2 (by assumption) | exact bk_m (by assumption) (by first | assumption | omega) | exact bk_p (by assumption) (by first | assumption | omega) | exact bk_o (by assumption) (by first | assumption | omega) | exact bk_s (by assumption) (by first | assumption | omega) | exact bk_1 (by assumption) | exact bk_2 (by assumption) | exact bk_3 (by assumption) | exact bk_4 (by assumption) | exact bk_5 (by assumption) | exact bk_6 (by assumption) | exact bk_7 (by assumption) | exact bk_8 (by assumption) | exact sh_ring _ (by first | assumption | omega) | exact sh_imgs _ (by first | assumption | omega)) ?_
    rw [ui_s]
    refine v_imul dX12_redo_57 ?_
    rw [pk_mul]
    refine v_aload_0 dX12_redo_58 ?_
    refine u_getR dX12_redo_59 gf_X12_26 (by first | assumption | rfl | exact led_1 (by assumption) | exact led_2 (by assumption) | exact bk_m (by assumption) (by first | assumption | omega) | exact bk_p (by assumption) (by first | assumption | omega) | exact bk_o (by assumption) (by first | assumption | omega) | exact bk_s (by assumption) (by first | assumption | omega) | exact bk_1 (by assumption) | exact bk_2 (by assumption) | exact bk_3 (by assumption) | exact bk_4 (by assumption) | exact bk_5 (by assumption) | exact bk_6 (by assumption) | exact bk_7 (by assumption) | exact bk_8 (by assumption) | exact sh_ring _ (by first | assumption | omega) | exact sh_imgs _ (by first | assumption | omega)) (ro_X12_17 (by assumption)) ?_
    refine v_iconst (v := nI 0) dX12_redo_62 (by decide) ?_
    refine v_bipush (v := nI 87) dX12_redo_63 (by decide) ?_
    refine u_callS_5 dX12_redo_65 ml_X12_182 ms_X12_copy (by decide) (Nat.le_of_ble_eq_true rfl) (c_X12_copy (i0 := 87 * (r - 1)) (j0 := 0) (m := 87) rfl rfl (by decide) (by omega) (by omega) (by decide) (by decide) (fun J2 p1 p2 => ?_))
    refine v_iconst (v := nI 1) dX12_redo_68 (by decide) ?_
    refine v_zret dX12_redo_69 (by first | rfl | exact bI_n _) rfl rfl rfl rfl ?_
    have hne : ¬ r = 0 := hc8
    have n20 : ∀ k, live u r k → (S k).1 ≤ 20 := fun k q => (hl k q).1
    have hL : live u r 1 := ⟨by omega, by omega⟩
    have k0 : ∀ x, x ≠ 162 → x ≠ 157 → x ≠ 165 → J2 x = I x := fun x a1 a2 a3 => by rw [p2 x a1]; simp only [ui_ne a2]; rw [q2 x a3]; simp only [ui_ne a2]
    have kK : ∀ k, k < 1044 → J2 165 k = J1 165 k := fun k _ => by rw [p2 165 (by decide)]; simp only [ui_ne (show (165:Nat) ≠ 157 by decide)]
    have kJ : ∀ j, j ≠ 0 → j ≠ 11 → j ≠ 23 → j ≠ 24 → J2 157 j = I 157 j := fun j a1 a2 a3 a4 => by rw [p2 157 (by decide)]; simp only [ui_o a1, ui_o a2, ui_o a3, ui_o a4]; rw [q2 157 (by decide)]; simp only [ui_o a1, ui_o a2]
    have q1a : ∀ k, k < 1044 → J2 165 k = if 87 * u ≤ k ∧ k < 87 * u + 87 then I 162 (k - 87 * u) else I 165 k := fun k hk => by rw [kK k hk, q1 k hk, if_pos (by omega)]; simp only [ui_ne (show (162:Nat) ≠ 157 by decide), ui_ne (show (165:Nat) ≠ 157 by decide)]
    have hold : ∀ j, j < u → ∀ s : LSt, s.1 ≤ 20 → StI I 165 (87 * j) s → StI J2 165 (87 * j) s := fun j hj s hs hst => hst.cp hs (fun k hk => by rw [q1a _ (by omega), if_neg (by omega)])
    have hnew : StI J2 165 (87 * u) (S 0) := hS0.cp (n20 0 (live0 _ _)) (fun k hk => by rw [q1a _ (by omega), if_pos ⟨by omega, by omega⟩, show 87 * u + k - 87 * u = k by omega, Nat.zero_add])
    have hsrc : J2 166 = I 166 := k0 166 (by decide) (by decide) (by decide)
    have hs0 : StI J2 162 0 (S 1) := by
      have := D5 (r - 1) (by omega)
      rw [show r - (r - 1) = 1 by omega] at this
      exact this.cp (n20 1 hL) (fun k hk => by rw [p1, if_pos ⟨Nat.zero_le _, by omega⟩]; simp only [ui_ne (show (166:Nat) ≠ 157 by decide)]; rw [q2 166 (by decide), show 87 * (r - 1) + (0 + k - 0) = 87 * (r - 1) + k by omega, ui_ne (by decide), ui_ne (by decide)])
    have j24 : J2 157 24 = nI (r - 1) := by rw [p2 157 (by decide), ui_s]
    have j23 : J2 157 23 = nI (u + 1) := by rw [p2 157 (by decide), ui_o (by decide), ui_s, if_pos (by omega)]
    have hU : ∀ j, j < u + 1 → StI J2 165 (87 * j) (forthS S (13 - (u + 1 - j))) := fun j hj => by
        show StI J2 165 _ (S ((13 - (u + 1 - j) + 1) % 13))
        by_cases e : j = u
        · subst e; rw [show (13 - (j + 1 - j) + 1) % 13 = 0 by omega]; exact hnew
        · rw [show (13 - (u + 1 - j) + 1) % 13 = 13 - (u - j) by omega]; exact hold j (by omega) _ (n20 _ ⟨by omega, by omega⟩) (D4 j (by omega))
    have hRd : ∀ j, j < r - 1 → StI J2 166 (87 * j) (forthS S (r - 1 - j)) := fun j hj => by show StI J2 166 _ (S ((r - 1 - j + 1) % 13)); rw [show (r - 1 - j + 1) % 13 = r - j by omega]; exact (D5 j (by omega)).fr hsrc
    have hff0 : F 0 ≠ 0 := fun q => by have := H6 q; omega
    refine (hQ1 hne).fin (rf_mk h1 (S' := forthS S) hs0 (hl 1 hL) j23 j24 (by rw [kJ 25 (by decide) (by decide) (by decide) (by decide)]; exact E1) (by omega) hU hRd E2 (fun c hc => (E3 c hc).fr (k0 167 (by decide) (by decide) (by decide))) hff0 ?_ (fun j hj => kJ j (by omega) (by omega) (by omega) (by omega)) (fun x hx => k0 x (by omega) (by omega) (by omega))) (fun x hx => k0 x (by omega) (by omega) (by omega)) (fun _ _ => rfl) rfl rfl
    rw [p2 157 (by decide), ui_o (by decide), ui_o (by decide), q2 157 (by decide), ui_s]
  · (first | rw [bI_0, Bool.not_eq_false] at hc8 | rw [bI_0] at hc8 | rw [show (0 : Int32) = nI 0 from rfl, nI_eq (by omega) (by omega)] at hc8 | skip)
    refine v_aload_0 dX12_redo_11 ?_
    refine v_bipush (v := nI 6) dX12_redo_12 (by decide) ?_
    refine u_callV_1 dX12_redo_14 ml_X12_423 mv_X12_isNot (by first | assumption | rfl | exact led_1 (by assumption) | exact led_2 (by assumption) | exact bk_m (by assumption) (by first | assumption | omega) | exact bk_p (by assumption) (by first | assumption | omega) | exact bk_o (by assumption) (by first | assumption | omega) | exact bk_s (by assumption) (by first | assumption | omega) | exact bk_1 (by assumption) | exact bk_2 (by assumption) | exact bk_3 (by assumption) | exact bk_4 (by assumption) | exact bk_5 (by assumption) | exact bk_6 (by assumption) | exact bk_7 (by assumption) | exact bk_8 (by assumption) | exact sh_ring _ (by first | assumption | omega) | exact sh_imgs _ (by first | assumption | omega)) (by decide) rfl (by decide) (Nat.le_of_ble_eq_true rfl) (c_X12_isNot (k := 6) ?_)
    refine v_zret dX12_redo_17 (by first | rfl | exact bI_n _) rfl rfl rfl rfl ?_
    exact (hQ0 hc8).fin (rf_tr h (by decide)) (fun x hx => by simp only [ui_ne (show x ≠ 157 by omega)]) (fun _ _ => rfl) rfl rfl
theorem r_image  (hR : RO R) (h : RefB I tp nt tr fa pl F S u r im ic) (hI : ∀ c, c < ic → LOK F (im c)) (hQ0 : k_image F ic ≠ 0 → YQ I L R tp nt (k_image F ic) fa pl F S u r im ic (-1) Q) (hQ1 : k_image F ic = 0 → YQ I L R tp nt 0 fa pl F S u r (fun c => if c = ic then S 0 else im c) (ic + 1) (nI ic) Q) : KK 8 mX12_image b ad [.ref (b + 157)] I L R Q := by
  have hO := h.2.2.1.1.2.2.1
  have o0 := hO.1
  have o1 := hO.2.1
  have o2 := hO.2.2.1
  have o3 := hO.2.2.2.1
  have o4 := hO.2.2.2.2.1
  have o5 := hO.2.2.2.2.2.1
  have o6 := hO.2.2.2.2.2.2.1
  have hK := h.2.2.1.2.2
  have hn20 := hK.1
  have hok : ∀ i, i < (S 0).1 → ok4 ((S 0).2.1 i) := fun i hi => (hK.2.1 i hi).1
  have h1 := h
  obtain ⟨D1, D2, D3, D4, D5⟩ := h.2.2.2.1
  obtain ⟨E1, E2, E3⟩ := h.2.2.2.2.1
  have H6 := h.2.2.2.2.2
  have hS0 := h.2.2.1.2.1
  refine K.of (M := mX12_image) (lv := [some (.ref (b + 157))]) (by decide) (Nat.le_of_ble_eq_true rfl) rfl ?_
  refine v_aload_0 dX12_image_0 ?_
  refine u_callV_0 dX12_image_1 ml_X12_173 mv_X12_good (by first | assumption | rfl | exact led_1 (by assumption) | exact led_2 (by assumption) | exact bk_m (by assumption) (by first | assumption | omega) | exact bk_p (by assumption) (by first | assumption | omega) | exact bk_o (by assumption) (by first | assumption | omega) | exact bk_s (by assumption) (by first | assumption | omega) | exact bk_1 (by assumption) | exact bk_2 (by assumption) | exact bk_3 (by assumption) | exact bk_4 (by assumption) | exact bk_5 (by assumption) | exact bk_6 (by assumption) | exact bk_7 (by assumption) | exact bk_8 (by assumption) | exact sh_ring _ (by first | assumption | omega) | exact sh_imgs _ (by first | assumption | omega)) (by decide) rfl (by decide) (Nat.le_of_ble_eq_true rfl) (c_X12_good ?_)
  have h := rf_good h
  have hr : RfI _ F (S 0) := h.2.2.1
  have hS := hr.2.1
  have b14 := hr.1.2.1
  have i25 := h.2.2.2.2.1.1
  refine v_aload_0 dX12_image_4 ?_
  refine u_getI dX12_image_5 gf_X12_186 (by first | assumption | rfl | exact led_1 (by assumption) | exact led_2 (by assumption) | exact bk_m (by assumption) (by first | assumption | omega) | exact bk_p (by assumption) (by first | assumption | omega) | exact bk_o (by assumption) (by first | assumption | omega) | exact bk_s (by assumption) (by first | assumption | omega) | exact bk_1 (by assumption) | exact bk_2 (by assumption) | exact bk_3 (by assumption) | exact bk_4 (by assumption) | exact bk_5 (by assumption) | exact bk_6 (by assumption) | exact bk_7 (by assumption) | exact bk_8 (by assumption) | exact sh_ring _ (by first | assumption | omega) | exact sh_imgs _ (by first | assumption | omega)) ?_
  rw [b14]
  refine v_if_ne (tgt := 17) dX12_image_8 (by decide) (fun hc8 => ?_) (fun hc8 => ?_)
  · (first | rw [bI_0, Bool.not_eq_false] at hc8 | rw [bI_0] at hc8 | rw [show (0 : Int32) = nI 0 from rfl, nI_eq (by omega) (by omega)] at hc8 | skip)
    refine v_aload_0 dX12_image_17 ?_
    refine u_getI dX12_image_18 gf_X12_195 (by first | assumption | rfl | exact led_1 (by assumption) | exact led_2 (by assumption) | exact bk_m (by assumption) (by first | assumption | omega) | exact bk_p (by assumption) (by first | assumption | omega) | exact bk_o (by assumption) (by first | assumption | omega) | exact bk_s (by assumption) (by first | assumption | omega) | exact bk_1 (by assumption) | exact bk_2 (by assumption) | exact bk_3 (by assumption) | exact bk_4 (by assumption) | exact bk_5 (by assumption) | exact bk_6 (by assumption) | exact bk_7 (by assumption) | exact bk_8 (by assumption) | exact sh_ring _ (by first | assumption | omega) | exact sh_imgs _ (by first | assumption | omega)) ?_
    rw [i25]
    refine v_iconst (v := nI 3) dX12_image_21 (by decide) ?_
    refine v_icmp_ne (tgt := 31) dX12_image_22 (by decide) (fun hc22 => ?_) (fun hc22 => ?_)
    · (try rw [nI_eq (by omega) (by omega)] at hc22)
      refine v_aload_0 dX12_image_31 ?_
      refine u_getR dX12_image_32 gf_X12_26 (by first | assumption | rfl | exact led_1 (by assumption) | exact led_2 (by assumption) | exact bk_m (by assumption) (by first | assumption | omega) | exact bk_p (by assumption) (by first | assumption | omega) | exact bk_o (by assumption) (by first | assumption | omega) | exact bk_s (by assumption) (by first | assumption | omega) | exact bk_1 (by assumption) | exact bk_2 (by assumption) | exact bk_3 (by assumption) | exact bk_4 (by assumption) | exact bk_5 (by assumption) | exact bk_6 (by assumption) | exact bk_7 (by assumption) | exact bk_8 (by assumption) | exact sh_ring _ (by first | assumption | omega) | exact sh_imgs _ (by first | assumption | omega)) (ro_X12_17 (by assumption)) ?_
      refine v_iconst (v := nI 0) dX12_image_35 (by decide) ?_
      refine v_aload_0 dX12_image_36 ?_
      refine u_getR dX12_image_37 gf_X12_41 (by first | assumption | rfl | exact led_1 (by assumption) | exact led_2 (by assumption) | exact bk_m (by assumption) (by first | assumption | omega) | exact bk_p (by assumption) (by first | assumption | omega) | exact bk_o (by assumption) (by first | assumption | omega) | exact bk_s (by assumption) (by first | assumption | omega) | exact bk_1 (by assumption) | exact bk_2 (by assumption) | exact bk_3 (by assumption) | exact bk_4 (by assumption) | exact bk_5 (by assumption) | exact bk_6 (by assumption) | exact bk_7 (by assumption) | exact bk_8 (by assumption) | exact sh_ring _ (by first | assumption | omega) | exact sh_imgs _ (by first | assumption | omega)) (ro_X12_22 (by assumption)) ?_
      refine v_bipush (v := nI 87) dX12_image_40 (by decide) ?_
      refine v_aload_0 dX12_image_42 ?_
      refine u_getI dX12_image_43 gf_X12_195 (by first | assumption | rfl | exact led_1 (by assumption) | exact led_2 (by assumption) | exact bk_m (by assumption) (by first | assumption | omega) | exact bk_p (by assumption) (by first | assumption | omega) | exact bk_o (by assumption) (by first | assumption | omega) | exact bk_s (by assumption) (by first | assumption | omega) | exact bk_1 (by assumption) | exact bk_2 (by assumption) | exact bk_3 (by assumption) | exact bk_4 (by assumption) | exact bk_5 (by assumption) | exact bk_6 (by assumption) | exact bk_7 (by assumption) | exact bk_8 (by assumption) | exact sh_ring _ (by first | assumption | omega) | exact sh_imgs _ (by first | assumption | omega)) ?_
      rw [i25]
      refine v_imul dX12_image_46 ?_
      rw [pk_mul]
      refine v_bipush (v := nI 87) dX12_image_47 (by decide) ?_
      refine u_callS_5 dX12_image_49 ml_X12_182 ms_X12_copy (by decide) (Nat.le_of_ble_eq_true rfl) (c_X12_copy (i0 := 0) (j0 := 87 * ic) (m := 87) rfl rfl (by decide) (by omega) (by omega) (by decide) (by decide) (fun J2 p1 p2 => ?_))
      refine v_aload_0 dX12_image_52 ?_
      refine v_dup dX12_image_53 rfl ?_
      refine u_getI dX12_image_54 gf_X12_195 (by first | assumption | rfl | exact led_1 (by assumption) | exact led_2 (by assumption) | exact bk_m (by assumption) (by first | assumption | omega) | exact bk_p (by assumption) (by first | assumption | omega) | exact bk_o (by assumption) (by first | assumption | omega) | exact bk_s (by assumption) (by first | assumption | omega) | exact bk_1 (by assumption) | exact bk_2 (by assumption) | exact bk_3 (by assumption) | exact bk_4 (by assumption) | exact bk_5 (by assumption) | exact bk_6 (by assumption) | exact bk_7 (by assumption) | exact bk_8 (by assumption) | exact sh_ring _ (by first | assumption | omega) | exact sh_imgs _ (by first | assumption | omega)) ?_
      rw [p2 157 (by decide), i25]
      refine v_iconst (v := nI 1) dX12_image_57 (by decide) ?_
      refine v_iadd dX12_image_58 ?_
      rw [nI_add]
      refine u_putI dX12_image_59 gf_X12_195 (by first | assumption | rfl | exact led_1 (by assumption) | exact led_2 (by assumption) | exact bk_m (by assumption) (by first | assumption | omega) | exact bk_p (by assumption) (by first | assumption | omega) | exact bk_o (by assumption) (by first | assumption | omega) | exact bk_s (by assumption) (by first | assumption | omega) | exact bk_1 (by assumption) | exact bk_2 (by assumption) | exact bk_3 (by assumption) | exact bk_4 (by assumption) | exact bk_5 (by assumption) | exact bk_6 (by assumption) | exact bk_7 (by assumption) | exact bk_8 (by assumption) | exact sh_ring _ (by first | assumption | omega) | exact sh_imgs _ (by first | assumption | omega)) rfl rfl rfl ?_
      refine v_aload_0 dX12_image_62 ?_
      refine u_getI dX12_image_63 gf_X12_195 (by first | assumption | rfl | exact led_1 (by assumption) | exact led_2 (by assumption) | exact bk_m (by assumption) (by first | assumption | omega) | exact bk_p (by assumption) (by first | assumption | omega) | exact bk_o (by assumption) (by first | assumption | omega) | exact bk_s (by assumption) (by first | assumption | omega) | exact bk_1 (by assumption) | exact bk_2 (by assumption) | exact bk_3 (by assumption) | exact bk_4 (by assumption) | exact bk_5 (by assumption) | exact bk_6 (by assumption) | exact bk_7 (by assumption) | exact bk_8 (by assumption) | exact sh_ring _ (by first | assumption | omega) | exact sh_imgs _ (by first | assumption | omega)) ?_
      rw [ui_s]
      refine v_iconst (v := nI 1) dX12_image_66 (by decide) ?_
      refine v_isub dX12_image_67 ?_
      rw [pk_sub (by omega), Nat.add_sub_cancel]
      refine v_iret dX12_image_68 rfl rfl rfl rfl ?_
      have hk : k_image F ic = 0 := by rw [k_image, hc8, if_pos (show (true && true) = true from rfl), if_pos (by omega)]
      have k0 : ∀ x, x ≠ 157 → x ≠ 167 → ui J2 157 25 (nI (ic + 1)) x = I x := fun x a1 a2 => by rw [ui_ne a1, p2 x a2]; simp only [ui_ne a1]
      have kJ : ∀ j, j ≠ 0 → j ≠ 11 → j ≠ 25 → ui J2 157 25 (nI (ic + 1)) 157 j = I 157 j := fun j a1 a2 a3 => by rw [ui_o a3, p2 157 (by decide), ui_o a2, ui_o a1]
      have hf0 : F 0 ≠ 0 := by have := of_decide_eq_true hc8; omega
      have n20 : (S 0).1 ≤ 20 := hn20
      refine (hQ1 hk).fin (rf_mk h1 (S' := S) (hS0.fr (k0 162 (by decide) (by decide))) hK (by rw [kJ 23 (by decide) (by decide) (by decide)]; exact D1) (by rw [kJ 24 (by decide) (by decide) (by decide)]; exact D2) (ui_s _ _ _ _) D3 (fun j hj => (D4 j hj).fr (k0 165 (by decide) (by decide))) (fun j hj => (D5 j hj).fr (k0 166 (by decide) (by decide))) (by omega) (fun c hc => ?_) hf0 (by rw [ui_o (by decide), p2 157 (by decide), ui_s]) (fun j hj => kJ j (by omega) (by omega) (by omega)) (fun x hx => k0 x (by omega) (by omega))) (fun x hx => k0 x (by omega) (by omega)) (fun _ _ => rfl) rfl rfl
      by_cases e : c = ic
      · subst e; simp only [if_true]; exact hS0.cp n20 (fun k hk => by rw [ui_ne (by decide), p1, if_pos ⟨by omega, by omega⟩, ui_ne (by decide), ui_ne (by decide), show 0 + (87 * c + k - 87 * c) = 0 + k by omega])
      · simp only [e, if_false]; exact (E3 c (by omega)).cp (hI c (by omega)).1 (fun k hk => by rw [ui_ne (by decide), p1, if_neg (by omega), ui_ne (by decide), ui_ne (by decide)])
    · (try rw [nI_eq (by omega) (by omega)] at hc22)
      refine v_aload_0 dX12_image_25 ?_
      refine v_iconst (v := nI 3) dX12_image_26 (by decide) ?_
      refine u_callV_1 dX12_image_27 ml_X12_176 mv_X12_no (by first | assumption | rfl | exact led_1 (by assumption) | exact led_2 (by assumption) | exact bk_m (by assumption) (by first | assumption | omega) | exact bk_p (by assumption) (by first | assumption | omega) | exact bk_o (by assumption) (by first | assumption | omega) | exact bk_s (by assumption) (by first | assumption | omega) | exact bk_1 (by assumption) | exact bk_2 (by assumption) | exact bk_3 (by assumption) | exact bk_4 (by assumption) | exact bk_5 (by assumption) | exact bk_6 (by assumption) | exact bk_7 (by assumption) | exact bk_8 (by assumption) | exact sh_ring _ (by first | assumption | omega) | exact sh_imgs _ (by first | assumption | omega)) (by decide) rfl (by decide) (Nat.le_of_ble_eq_true rfl) (c_X12_no (k := 3) ?_)
      refine v_iret dX12_image_30 rfl rfl rfl rfl ?_
      have hk : k_image F ic = 3 := by rw [k_image, hc8, if_pos (show (true && true) = true from rfl), if_neg (by omega)]
      exact (hQ0 (by rw [hk]; decide)).fin (rf_tr h (by decide)) (fun x hx => by simp only [ui_ne (show x ≠ 157 by omega)]) (fun _ _ => rfl) hk.symm rfl
  · (first | rw [bI_0, Bool.not_eq_false] at hc8 | rw [bI_0] at hc8 | rw [show (0 : Int32) = nI 0 from rfl, nI_eq (by omega) (by omega)] at hc8 | skip)
    refine v_aload_0 dX12_image_11 ?_
    refine v_iconst (v := nI 1) dX12_image_12 (by decide) ?_
    refine u_callV_1 dX12_image_13 ml_X12_176 mv_X12_no (by first | assumption | rfl | exact led_1 (by assumption) | exact led_2 (by assumption) | exact bk_m (by assumption) (by first | assumption | omega) | exact bk_p (by assumption) (by first | assumption | omega) | exact bk_o (by assumption) (by first | assumption | omega) | exact bk_s (by assumption) (by first | assumption | omega) | exact bk_1 (by assumption) | exact bk_2 (by assumption) | exact bk_3 (by assumption) | exact bk_4 (by assumption) | exact bk_5 (by assumption) | exact bk_6 (by assumption) | exact bk_7 (by assumption) | exact bk_8 (by assumption) | exact sh_ring _ (by first | assumption | omega) | exact sh_imgs _ (by first | assumption | omega)) (by decide) rfl (by decide) (Nat.le_of_ble_eq_true rfl) (c_X12_no (k := 1) ?_)
    refine v_iret dX12_image_16 rfl rfl rfl rfl ?_
    have hk : k_image F ic = 1 := by rw [k_image, hc8]; rfl
    exact (hQ0 (by rw [hk]; decide)).fin (rf_tr h (by decide)) (fun x hx => by simp only [ui_ne (show x ≠ 157 by omega)]) (fun _ _ => rfl) hk.symm rfl
theorem r_back {x : Int32} (hR : RO R) (h : RefB I tp nt tr fa pl F S u r im ic) (hI : ∀ c, c < ic → LOK F (im c)) (hQ0 : k_back ic x ≠ 0 → YQ I L R tp nt (k_back ic x) fa pl F S u r im ic (0) Q) (hQ1 : k_back ic x = 0 → YQ I L R tp nt 0 fa pl F (putS S (im (tN x))) 0 0 im ic (1) Q) : KK 8 mX12_back b ad [.ref (b + 157), .int x] I L R Q := by
  have hO := h.2.2.1.1.2.2.1
  have o0 := hO.1
  have o1 := hO.2.1
  have o2 := hO.2.2.1
  have o3 := hO.2.2.2.1
  have o4 := hO.2.2.2.2.1
  have o5 := hO.2.2.2.2.2.1
  have o6 := hO.2.2.2.2.2.2.1
  have hK := h.2.2.1.2.2
  have hn20 := hK.1
  have hok : ∀ i, i < (S 0).1 → ok4 ((S 0).2.1 i) := fun i hi => (hK.2.1 i hi).1
  have h1 := h
  obtain ⟨D1, D2, D3, D4, D5⟩ := h.2.2.2.1
  obtain ⟨E1, E2, E3⟩ := h.2.2.2.2.1
  have H6 := h.2.2.2.2.2
  have hS0 := h.2.2.1.2.1
  refine K.of (M := mX12_back) (lv := [some (.ref (b + 157)), some (.int x)]) (by decide) (Nat.le_of_ble_eq_true rfl) rfl ?_
  refine v_aload_0 dX12_back_0 ?_
  refine u_callV_0 dX12_back_1 ml_X12_173 mv_X12_good (by first | assumption | rfl | exact led_1 (by assumption) | exact led_2 (by assumption) | exact bk_m (by assumption) (by first | assumption | omega) | exact bk_p (by assumption) (by first | assumption | omega) | exact bk_o (by assumption) (by first | assumption | omega) | exact bk_s (by assumption) (by first | assumption | omega) | exact bk_1 (by assumption) | exact bk_2 (by assumption) | exact bk_3 (by assumption) | exact bk_4 (by assumption) | exact bk_5 (by assumption) | exact bk_6 (by assumption) | exact bk_7 (by assumption) | exact bk_8 (by assumption) | exact sh_ring _ (by first | assumption | omega) | exact sh_imgs _ (by first | assumption | omega)) (by decide) rfl (by decide) (Nat.le_of_ble_eq_true rfl) (c_X12_good ?_)
  have h := rf_good h
  have hr : RfI _ F (S 0) := h.2.2.1
  have hS := hr.2.1
  have i25 := h.2.2.2.2.1.1
  refine v_iload_1 dX12_back_4 ?_
  refine v_iconst (v := nI 0) dX12_back_5 (by decide) ?_
  refine v_aload_0 dX12_back_6 ?_
  refine u_getI dX12_back_7 gf_X12_195 (by first | assumption | rfl | exact led_1 (by assumption) | exact led_2 (by assumption) | exact bk_m (by assumption) (by first | assumption | omega) | exact bk_p (by assumption) (by first | assumption | omega) | exact bk_o (by assumption) (by first | assumption | omega) | exact bk_s (by assumption) (by first | assumption | omega) | exact bk_1 (by assumption) | exact bk_2 (by assumption) | exact bk_3 (by assumption) | exact bk_4 (by assumption) | exact bk_5 (by assumption) | exact bk_6 (by assumption) | exact bk_7 (by assumption) | exact bk_8 (by assumption) | exact sh_ring _ (by first | assumption | omega) | exact sh_imgs _ (by first | assumption | omega)) ?_
  rw [i25]
  refine v_iconst (v := nI 1) dX12_back_10 (by decide) ?_
  refine v_isub dX12_back_11 ?_
  refine u_callS_3 dX12_back_12 ml_X12_154 ms_X12_within (by decide) (Nat.le_of_ble_eq_true rfl) (c_X12_within ?_)
  rw [← inbw (by omega)]
  refine v_if_ne (tgt := 24) dX12_back_15 (by decide) (fun hc15 => ?_) (fun hc15 => ?_)
  · (first | rw [bI_0, Bool.not_eq_false] at hc15 | rw [bI_0] at hc15 | rw [show (0 : Int32) = nI 0 from rfl, nI_eq (by omega) (by omega)] at hc15 | skip)
    obtain ⟨c, rfl, hcc⟩ := inb_ex (by omega) hc15
    have ec : tN (nI c) = c := tN_nI (by omega)
    refine v_aload_0 dX12_back_24 ?_
    refine u_getR dX12_back_25 gf_X12_41 (by first | assumption | rfl | exact led_1 (by assumption) | exact led_2 (by assumption) | exact bk_m (by assumption) (by first | assumption | omega) | exact bk_p (by assumption) (by first | assumption | omega) | exact bk_o (by assumption) (by first | assumption | omega) | exact bk_s (by assumption) (by first | assumption | omega) | exact bk_1 (by assumption) | exact bk_2 (by assumption) | exact bk_3 (by assumption) | exact bk_4 (by assumption) | exact bk_5 (by assumption) | exact bk_6 (by assumption) | exact bk_7 (by assumption) | exact bk_8 (by assumption) | exact sh_ring _ (by first | assumption | omega) | exact sh_imgs _ (by first | assumption | omega)) (ro_X12_22 (by assumption)) ?_
    refine v_bipush (v := nI 87) dX12_back_28 (by decide) ?_
    refine v_iload_1 dX12_back_30 ?_
    refine v_imul dX12_back_31 ?_
    rw [pk_mul]
    refine v_aload_0 dX12_back_32 ?_
    refine u_getR dX12_back_33 gf_X12_26 (by first | assumption | rfl | exact led_1 (by assumption) | exact led_2 (by assumption) | exact bk_m (by assumption) (by first | assumption | omega) | exact bk_p (by assumption) (by first | assumption | omega) | exact bk_o (by assumption) (by first | assumption | omega) | exact bk_s (by assumption) (by first | assumption | omega) | exact bk_1 (by assumption) | exact bk_2 (by assumption) | exact bk_3 (by assumption) | exact bk_4 (by assumption) | exact bk_5 (by assumption) | exact bk_6 (by assumption) | exact bk_7 (by assumption) | exact bk_8 (by assumption) | exact sh_ring _ (by first | assumption | omega) | exact sh_imgs _ (by first | assumption | omega)) (ro_X12_17 (by assumption)) ?_
    refine v_iconst (v := nI 0) dX12_back_36 (by decide) ?_
    refine v_bipush (v := nI 87) dX12_back_37 (by decide) ?_
    refine u_callS_5 dX12_back_39 ml_X12_182 ms_X12_copy (by decide) (Nat.le_of_ble_eq_true rfl) (c_X12_copy (i0 := 87 * c) (j0 := 0) (m := 87) rfl rfl (by decide) (by omega) (by omega) (by decide) (by decide) (fun J2 p1 p2 => ?_))
    refine v_aload_0 dX12_back_42 ?_
    refine v_iconst (v := nI 0) dX12_back_43 (by decide) ?_
    refine u_putI dX12_back_44 gf_X12_189 (by first | assumption | rfl | exact led_1 (by assumption) | exact led_2 (by assumption) | exact bk_m (by assumption) (by first | assumption | omega) | exact bk_p (by assumption) (by first | assumption | omega) | exact bk_o (by assumption) (by first | assumption | omega) | exact bk_s (by assumption) (by first | assumption | omega) | exact bk_1 (by assumption) | exact bk_2 (by assumption) | exact bk_3 (by assumption) | exact bk_4 (by assumption) | exact bk_5 (by assumption) | exact bk_6 (by assumption) | exact bk_7 (by assumption) | exact bk_8 (by assumption) | exact sh_ring _ (by first | assumption | omega) | exact sh_imgs _ (by first | assumption | omega)) rfl rfl rfl ?_
    refine v_aload_0 dX12_back_47 ?_
    refine v_iconst (v := nI 0) dX12_back_48 (by decide) ?_
    refine u_putI dX12_back_49 gf_X12_192 (by first | assumption | rfl | exact led_1 (by assumption) | exact led_2 (by assumption) | exact bk_m (by assumption) (by first | assumption | omega) | exact bk_p (by assumption) (by first | assumption | omega) | exact bk_o (by assumption) (by first | assumption | omega) | exact bk_s (by assumption) (by first | assumption | omega) | exact bk_1 (by assumption) | exact bk_2 (by assumption) | exact bk_3 (by assumption) | exact bk_4 (by assumption) | exact bk_5 (by assumption) | exact bk_6 (by assumption) | exact bk_7 (by assumption) | exact bk_8 (by assumption) | exact sh_ring _ (by first | assumption | omega) | exact sh_imgs _ (by first | assumption | omega)) rfl rfl rfl ?_
    refine v_iconst (v := nI 1) dX12_back_52 (by decide) ?_
    refine v_zret dX12_back_53 (by first | rfl | exact bI_n _) rfl rfl rfl rfl ?_
    have hk : k_back ic (nI c) = 0 := by simp [k_back, hc15, trc]
    have hfin := hQ1 hk
    rw [ec] at hfin
    have k0 : ∀ x, x ≠ 157 → x ≠ 162 → ui (ui J2 157 23 (nI 0)) 157 24 (nI 0) x = I x := fun x a1 a2 => by rw [ui_ne a1, ui_ne a1, p2 x a2]; simp only [ui_ne a1]
    have kJ : ∀ j, j ≠ 0 → j ≠ 11 → j ≠ 23 → j ≠ 24 → ui (ui J2 157 23 (nI 0)) 157 24 (nI 0) 157 j = I 157 j := fun j a1 a2 a3 a4 => by rw [ui_o a4, ui_o a3, p2 157 (by decide), ui_o a2, ui_o a1]
    have hf0 : F 0 ≠ 0 := fun q => by have := H6 q; omega
    refine hfin.fin (rf_mk h1 (S' := putS S (im c)) ((E3 c hcc).cp (hI c hcc).1 (fun k hk => by rw [ui_ne (by decide), ui_ne (by decide), p1, if_pos ⟨Nat.zero_le _, by omega⟩, ui_ne (by decide), ui_ne (by decide), show 87 * c + (0 + k - 0) = 87 * c + k by omega])) (hI c hcc) (by rw [ui_o (by decide), ui_s]) (ui_s _ _ _ _) (by rw [kJ 25 (by decide) (by decide) (by decide) (by decide)]; exact E1) (by omega) (fun j hj => absurd hj (Nat.not_lt_zero _)) (fun j hj => absurd hj (Nat.not_lt_zero _)) E2 (fun c hc => (E3 c hc).fr (k0 167 (by decide) (by decide))) hf0 (by rw [ui_o (by decide), ui_o (by decide), p2 157 (by decide), ui_s]) (fun j hj => kJ j (by omega) (by omega) (by omega) (by omega)) (fun x hx => k0 x (by omega) (by omega))) (fun x hx => k0 x (by omega) (by omega)) (fun _ _ => rfl) rfl rfl
  · (first | rw [bI_0, Bool.not_eq_false] at hc15 | rw [bI_0] at hc15 | rw [show (0 : Int32) = nI 0 from rfl, nI_eq (by omega) (by omega)] at hc15 | skip)
    refine v_aload_0 dX12_back_18 ?_
    refine v_iconst (v := nI 1) dX12_back_19 (by decide) ?_
    refine u_callV_1 dX12_back_20 ml_X12_423 mv_X12_isNot (by first | assumption | rfl | exact led_1 (by assumption) | exact led_2 (by assumption) | exact bk_m (by assumption) (by first | assumption | omega) | exact bk_p (by assumption) (by first | assumption | omega) | exact bk_o (by assumption) (by first | assumption | omega) | exact bk_s (by assumption) (by first | assumption | omega) | exact bk_1 (by assumption) | exact bk_2 (by assumption) | exact bk_3 (by assumption) | exact bk_4 (by assumption) | exact bk_5 (by assumption) | exact bk_6 (by assumption) | exact bk_7 (by assumption) | exact bk_8 (by assumption) | exact sh_ring _ (by first | assumption | omega) | exact sh_imgs _ (by first | assumption | omega)) (by decide) rfl (by decide) (Nat.le_of_ble_eq_true rfl) (c_X12_isNot (k := 1) ?_)
    refine v_zret dX12_back_23 (by first | rfl | exact bI_n _) rfl rfl rfl rfl ?_
    have hk : k_back ic x = 1 := by simp [k_back, hc15, trc]
    exact (hQ0 (by rw [hk]; decide)).fin (rf_tr h (by decide)) (fun x hx => by simp only [ui_ne (show x ≠ 157 by omega)]) (fun _ _ => rfl) hk.symm rfl
end
