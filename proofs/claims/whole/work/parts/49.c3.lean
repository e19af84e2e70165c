section
variable {b : Nat} {ad : Nat → Nat} {I : HI} {L : HL} {R : HR} {Q : QT} {B B2 t : Nat} {tp : Nat → Nat} {nt tr fa pl : Nat} {F : bkF} {S : Nat → LSt} {u r : Nat} {im : Nat → LSt} {ic : Nat}
def a_ask (F : bkF) (s : LSt) (x y z w : Int32) : Int32 := if ((inb x (F 2) && inb y (F 3)) && (ind z (F 0) && ind w (F 0) && decide (z ≤ w))) = true then (if fitF F (tN x) (tN y) = true then (sui (pricef F (tN x) (tN z) (tN w)) 0 (F 4) 0 * (nI 100 - nI (F (32 + tN y))) + nI 99) / nI 100 else -1) else -1
def t_ask (F : bkF) (s : LSt) (x y z w : Int32) : Nat := if ((inb x (F 2) && inb y (F 3)) && (ind z (F 0) && ind w (F 0) && decide (z ≤ w))) = true then (if fitF F (tN x) (tN y) = true then 0 else 5) else trc (inb x (F 2) && inb y (F 3)) (ind z (F 0) && ind w (F 0) && decide (z ≤ w))
theorem c_X11_ask {x y z w : Int32} (h : ClsB I L R B B2 t tp nt tr fa pl F S u r im ic) (hQ : XQ I L R tp nt (t_ask F (S 0) x y z w) fa pl F S u r im ic (a_ask F (S 0) x y z w) Q) : KK 12 mX11_ask b ad [.ref (b + 0), .int x, .int y, .int z, .int w] I L R Q := by
  have hR := cb_R h
  have hb := cb_b h
  have hB := cb_B h
  have hF := cb_F h
  have hO := cb_O h
  have o0 := hO.1
  have o1 := hO.2.1
  have o2 := hO.2.2.1
  have o3 := hO.2.2.2.1
  have o4 := hO.2.2.2.2.1
  have o5 := hO.2.2.2.2.2.1
  have o6 := hO.2.2.2.2.2.2.1
  have h1 := cb_1 h
  have ht := cb_t h
  have hS := sh_ring t ht
  have hL := cb_L h
  have hK := cb_K h
  have hps := hK.pers
  refine K.of (M := mX11_ask) (lv := [some (.ref (b + 0)), some (.int x), some (.int y), some (.int z), some (.int w)]) (by decide) (Nat.le_of_ble_eq_true rfl) rfl ?_
  have cut : VV yX11_ask cX11_ask 5 (some .int) 12 Q b ad 28 [some (.ref (b + 0)), some (.int x), some (.int y), some (.int z), some (.int w)] [.int (bI (inb x (F 2) && inb y (F 3))), .ref (b + 0)] I L R := by
    refine v_aload_0 dX11_ask_28 ?_
    refine u_getR dX11_ask_29 gf_X11_29 (by first | assumption | rfl | exact led_1 (by assumption) | exact led_2 (by assumption) | exact bk_m (by assumption) (by first | assumption | omega) | exact bk_p (by assumption) (by first | assumption | omega) | exact bk_o (by assumption) (by first | assumption | omega) | exact bk_s (by assumption) (by first | assumption | omega) | exact bk_1 (by assumption) | exact bk_2 (by assumption) | exact bk_3 (by assumption) | exact bk_4 (by assumption) | exact bk_5 (by assumption) | exact bk_6 (by assumption) | exact bk_7 (by assumption) | exact bk_8 (by assumption) | exact sh_ring _ (by first | assumption | omega) | exact sh_imgs _ (by first | assumption | omega)) (by assumption) ?_
    refine v_iload_3 dX11_ask_32 ?_
    refine v_iload_4 dX11_ask_33 ?_
    refine u_callV_2 dX11_ask_35 ml_X11_179 mv_X0_hasDays (by first | assumption | rfl | exact led_1 (by assumption) | exact led_2 (by assumption) | exact bk_m (by assumption) (by first | assumption | omega) | exact bk_p (by assumption) (by first | assumption | omega) | exact bk_o (by assumption) (by first | assumption | omega) | exact bk_s (by assumption) (by first | assumption | omega) | exact bk_1 (by assumption) | exact bk_2 (by assumption) | exact bk_3 (by assumption) | exact bk_4 (by assumption) | exact bk_5 (by assumption) | exact bk_6 (by assumption) | exact bk_7 (by assumption) | exact bk_8 (by assumption) | exact sh_ring _ (by first | assumption | omega) | exact sh_imgs _ (by first | assumption | omega)) (by decide) rfl (by decide) (Nat.le_of_ble_eq_true rfl) (c_X0_hasDays hB hF ?_)
    refine u_callV_2 dX11_ask_38 ml_X11_68 mv_X11_admit (by first | assumption | rfl | exact led_1 (by assumption) | exact led_2 (by assumption) | exact bk_m (by assumption) (by first | assumption | omega) | exact bk_p (by assumption) (by first | assumption | omega) | exact bk_o (by assumption) (by first | assumption | omega) | exact bk_s (by assumption) (by first | assumption | omega) | exact bk_1 (by assumption) | exact bk_2 (by assumption) | exact bk_3 (by assumption) | exact bk_4 (by assumption) | exact bk_5 (by assumption) | exact bk_6 (by assumption) | exact bk_7 (by assumption) | exact bk_8 (by assumption) | exact sh_ring _ (by first | assumption | omega) | exact sh_imgs _ (by first | assumption | omega)) (by decide) rfl (by decide) (Nat.le_of_ble_eq_true rfl) (c_X11_admit (p := inb x (F 2) && inb y (F 3)) (q := (ind z (F 0) && ind w (F 0) && decide (z ≤ w))) ?_)
    have hh : Hi I (ui I 0 2 (nI (trc (inb x (F 2) && inb y (F 3)) ((ind z (F 0) && ind w (F 0) && decide (z ≤ w)))))) L L R R := hi_ui (by decide)
    have h := cb_tr (v := trc (inb x (F 2) && inb y (F 3)) ((ind z (F 0) && ind w (F 0) && decide (z ≤ w)))) h (trc_lt _ _).1 (trc_lt _ _).2
    have hF := cb_F h
    have h1 := cb_1 h
    have hL := cb_L h
    refine v_if_ne (tgt := 46) dX11_ask_41 (by decide) (fun hc41 => ?_) (fun hc41 => ?_)
    · (first | rw [bI_0, Bool.not_eq_false] at hc41 | rw [bI_0] at hc41 | rw [show (0 : Int32) = nI 0 from rfl, nI_eq (by omega) (by omega)] at hc41 | skip)
      have hA := hc41
      rw [Bool.and_eq_true] at hA
      obtain ⟨hA0, hA2⟩ := hA
      rw [Bool.and_eq_true] at hA0
      obtain ⟨hA0, hP1⟩ := hA0
      obtain ⟨m, rfl, hm⟩ := inb_ex (by omega) hA0
      have em : tN (nI m) = m := tN_nI (by omega)
      obtain ⟨p, rfl, hp⟩ := inb_ex (by omega) hP1
      have ep : tN (nI p) = p := tN_nI (by omega)
      rw [Bool.and_eq_true, Bool.and_eq_true] at hA2
      obtain ⟨⟨hz, hw⟩, -⟩ := hA2
      obtain ⟨d, rfl, hd1, hd⟩ := ind_ex (by omega) hz
      have ed : tN (nI d) = d := tN_nI (by omega)
      obtain ⟨d2, rfl, hd21, hd2⟩ := ind_ex (by omega) hw
      have ed2 : tN (nI d2) = d2 := tN_nI (by omega)
      refine v_aload_0 dX11_ask_46 ?_
      refine u_getR dX11_ask_47 gf_X11_29 (by first | assumption | rfl | exact led_1 (by assumption) | exact led_2 (by assumption) | exact bk_m (by assumption) (by first | assumption | omega) | exact bk_p (by assumption) (by first | assumption | omega) | exact bk_o (by assumption) (by first | assumption | omega) | exact bk_s (by assumption) (by first | assumption | omega) | exact bk_1 (by assumption) | exact bk_2 (by assumption) | exact bk_3 (by assumption) | exact bk_4 (by assumption) | exact bk_5 (by assumption) | exact bk_6 (by assumption) | exact bk_7 (by assumption) | exact bk_8 (by assumption) | exact sh_ring _ (by first | assumption | omega) | exact sh_imgs _ (by first | assumption | omega)) (by assumption) ?_
      refine v_iload_1 dX11_ask_50 ?_
      refine v_iload_2 dX11_ask_51 ?_
      refine u_callV_2 dX11_ask_52 ml_X11_102 mv_X0_suits (by first | assumption | rfl | exact led_1 (by assumption) | exact led_2 (by assumption) | exact bk_m (by assumption) (by first | assumption | omega) | exact bk_p (by assumption) (by first | assumption | omega) | exact bk_o (by assumption) (by first | assumption | omega) | exact bk_s (by assumption) (by first | assumption | omega) | exact bk_1 (by assumption) | exact bk_2 (by assumption) | exact bk_3 (by assumption) | exact bk_4 (by assumption) | exact bk_5 (by assumption) | exact bk_6 (by assumption) | exact bk_7 (by assumption) | exact bk_8 (by assumption) | exact sh_ring _ (by first | assumption | omega) | exact sh_imgs _ (by first | assumption | omega)) (by decide) rfl (by decide) (Nat.le_of_ble_eq_true rfl) (c_X0_suits hR hB hF hO hm hp ?_)
      refine v_if_ne (tgt := 66) dX11_ask_55 (by decide) (fun hc55 => ?_) (fun hc55 => ?_)
      · (first | rw [bI_0, Bool.not_eq_false] at hc55 | rw [bI_0] at hc55 | rw [show (0 : Int32) = nI 0 from rfl, nI_eq (by omega) (by omega)] at hc55 | skip)
        refine v_aload_0 dX11_ask_66 ?_
        refine u_getR dX11_ask_67 gf_X11_29 (by first | assumption | rfl | exact led_1 (by assumption) | exact led_2 (by assumption) | exact bk_m (by assumption) (by first | assumption | omega) | exact bk_p (by assumption) (by first | assumption | omega) | exact bk_o (by assumption) (by first | assumption | omega) | exact bk_s (by assumption) (by first | assumption | omega) | exact bk_1 (by assumption) | exact bk_2 (by assumption) | exact bk_3 (by assumption) | exact bk_4 (by assumption) | exact bk_5 (by assumption) | exact bk_6 (by assumption) | exact bk_7 (by assumption) | exact bk_8 (by assumption) | exact sh_ring _ (by first | assumption | omega) | exact sh_imgs _ (by first | assumption | omega)) (by assumption) ?_
        refine v_iload_1 dX11_ask_70 ?_
        refine v_iload_2 dX11_ask_71 ?_
        refine v_iload_3 dX11_ask_72 ?_
        refine v_iload_4 dX11_ask_73 ?_
        refine u_callV_4 dX11_ask_75 ml_X11_182 mv_X0_priceOf (by first | assumption | rfl | exact led_1 (by assumption) | exact led_2 (by assumption) | exact bk_m (by assumption) (by first | assumption | omega) | exact bk_p (by assumption) (by first | assumption | omega) | exact bk_o (by assumption) (by first | assumption | omega) | exact bk_s (by assumption) (by first | assumption | omega) | exact bk_1 (by assumption) | exact bk_2 (by assumption) | exact bk_3 (by assumption) | exact bk_4 (by assumption) | exact bk_5 (by assumption) | exact bk_6 (by assumption) | exact bk_7 (by assumption) | exact bk_8 (by assumption) | exact sh_ring _ (by first | assumption | omega) | exact sh_imgs _ (by first | assumption | omega)) (by decide) rfl (by decide) (Nat.le_of_ble_eq_true rfl) (c_X0_priceOf hR hB hF hO (by omega) hp (by omega) (by omega) ?_)
        refine v_iret dX11_ask_78 rfl rfl rfl rfl ?_
        exact hQ.fin h (hi_ui (by decide)) (by simp only [t_ask, hc41, em, ep, hc55, if_true, trc_0 hc41]) (by simp only [a_ask, hc41, em, ep, ed, ed2, hc55, if_true])
      · (first | rw [bI_0, Bool.not_eq_false] at hc55 | rw [bI_0] at hc55 | rw [show (0 : Int32) = nI 0 from rfl, nI_eq (by omega) (by omega)] at hc55 | skip)
        refine v_aload_0 dX11_ask_58 ?_
        refine v_iconst (v := nI 5) dX11_ask_59 (by decide) ?_
        refine u_callV_1 dX11_ask_60 ml_X11_78 mv_X11_refuse (by first | assumption | rfl | exact led_1 (by assumption) | exact led_2 (by assumption) | exact bk_m (by assumption) (by first | assumption | omega) | exact bk_p (by assumption) (by first | assumption | omega) | exact bk_o (by assumption) (by first | assumption | omega) | exact bk_s (by assumption) (by first | assumption | omega) | exact bk_1 (by assumption) | exact bk_2 (by assumption) | exact bk_3 (by assumption) | exact bk_4 (by assumption) | exact bk_5 (by assumption) | exact bk_6 (by assumption) | exact bk_7 (by assumption) | exact bk_8 (by assumption) | exact sh_ring _ (by first | assumption | omega) | exact sh_imgs _ (by first | assumption | omega)) (by decide) rfl (by decide) (Nat.le_of_ble_eq_true rfl) (c_X11_refuse ?_)
        refine v_pop dX11_ask_63 rfl ?_
        refine v_iconst (v := -1) dX11_ask_64 (by decide) ?_
        refine v_iret dX11_ask_65 rfl rfl rfl rfl ?_
        exact hQ.fin (cb_tr h (by decide) (by decide)) (Hi.trans (hi_ui (by decide)) (hi_ui (by decide))) (by simp only [t_ask, hc41, em, ep, hc55, if_true, Bool.false_eq_true, if_false]) (by simp only [a_ask, hc41, em, ep, hc55, if_true, Bool.false_eq_true, if_false])
    · (first | rw [bI_0, Bool.not_eq_false] at hc41 | rw [bI_0] at hc41 | rw [show (0 : Int32) = nI 0 from rfl, nI_eq (by omega) (by omega)] at hc41 | skip)
      refine v_iconst (v := -1) dX11_ask_44 (by decide) ?_
      refine v_iret dX11_ask_45 rfl rfl rfl rfl ?_
      exact hQ.fin h (hi_ui (by decide)) (by first | rfl | simp only [t_ask, hc41, if_true, Bool.false_eq_true, if_false]) (by simp only [a_ask, hc41, Bool.false_eq_true, if_false])
  refine v_aload_0 dX11_ask_0 ?_
  refine v_aload_0 dX11_ask_1 ?_
  refine u_getR dX11_ask_2 gf_X11_29 (by first | assumption | rfl | exact led_1 (by assumption) | exact led_2 (by assumption) | exact bk_m (by assumption) (by first | assumption | omega) | exact bk_p (by assumption) (by first | assumption | omega) | exact bk_o (by assumption) (by first | assumption | omega) | exact bk_s (by assumption) (by first | assumption | omega) | exact bk_1 (by assumption) | exact bk_2 (by assumption) | exact bk_3 (by assumption) | exact bk_4 (by assumption) | exact bk_5 (by assumption) | exact bk_6 (by assumption) | exact bk_7 (by assumption) | exact bk_8 (by assumption) | exact sh_ring _ (by first | assumption | omega) | exact sh_imgs _ (by first | assumption | omega)) (by assumption) ?_
  refine v_iload_1 dX11_ask_5 ?_
  refine u_callV_1 dX11_ask_6 ml_X11_96 mv_X0_hasMask (by first | assumption | rfl | exact led_1 (by assumption) | exact led_2 (by assumption) | exact bk_m (by assumption) (by first | assumption | omega) | exact bk_p (by assumption) (by first | assumption | omega) | exact bk_o (by assumption) (by first | assumption | omega) | exact bk_s (by assumption) (by first | assumption | omega) | exact bk_1 (by assumption) | exact bk_2 (by assumption) | exact bk_3 (by assumption) | exact bk_4 (by assumption) | exact bk_5 (by assumption) | exact bk_6 (by assumption) | exact bk_7 (by assumption) | exact bk_8 (by assumption) | exact sh_ring _ (by first | assumption | omega) | exact sh_imgs _ (by first | assumption | omega)) (by decide) rfl (by decide) (Nat.le_of_ble_eq_true rfl) (c_X0_hasMask hB hF ?_)
  refine v_if_eq (tgt := 27) dX11_ask_9 (by decide) (fun hc9 => ?_) (fun hc9 => ?_)
  · (first | rw [bI_0, Bool.not_eq_false] at hc9 | rw [bI_0] at hc9 | rw [show (0 : Int32) = nI 0 from rfl, nI_eq (by omega) (by omega)] at hc9 | skip)
    refine v_iconst (v := nI 0) dX11_ask_27 (by decide) ?_
    have e : (inb x (F 2) && inb y (F 3)) = false := by
      simp only [hc9, dle_f, dle_t, dlt_f, dlt_t, not_false_eq_true, Bool.and_true, Bool.and_false, Bool.true_and, Bool.false_and]
    rw [e] at cut
    exact cut
  · (first | rw [bI_0, Bool.not_eq_false] at hc9 | rw [bI_0] at hc9 | rw [show (0 : Int32) = nI 0 from rfl, nI_eq (by omega) (by omega)] at hc9 | skip)
    refine v_aload_0 dX11_ask_12 ?_
    refine u_getR dX11_ask_13 gf_X11_29 (by first | assumption | rfl | exact led_1 (by assumption) | exact led_2 (by assumption) | exact bk_m (by assumption) (by first | assumption | omega) | exact bk_p (by assumption) (by first | assumption | omega) | exact bk_o (by assumption) (by first | assumption | omega) | exact bk_s (by assumption) (by first | assumption | omega) | exact bk_1 (by assumption) | exact bk_2 (by assumption) | exact bk_3 (by assumption) | exact bk_4 (by assumption) | exact bk_5 (by assumption) | exact bk_6 (by assumption) | exact bk_7 (by assumption) | exact bk_8 (by assumption) | exact sh_ring _ (by first | assumption | omega) | exact sh_imgs _ (by first | assumption | omega)) (by assumption) ?_
    refine v_iload_2 dX11_ask_16 ?_
    refine u_callV_1 dX11_ask_17 ml_X11_99 mv_X0_hasPerson (by first | assumption | rfl | exact led_1 (by assumption) | exact led_2 (by assumption) | exact bk_m (by assumption) (by first | assumption | omega) | exact bk_p (by assumption) (by first | assumption | omega) | exact bk_o (by assumption) (by first | assumption | omega) | exact bk_s (by assumption) (by first | assumption | omega) | exact bk_1 (by assumption) | exact bk_2 (by assumption) | exact bk_3 (by assumption) | exact bk_4 (by assumption) | exact bk_5 (by assumption) | exact bk_6 (by assumption) | exact bk_7 (by assumption) | exact bk_8 (by assumption) | exact sh_ring _ (by first | assumption | omega) | exact sh_imgs _ (by first | assumption | omega)) (by decide) rfl (by decide) (Nat.le_of_ble_eq_true rfl) (c_X0_hasPerson hB hF ?_)
    refine v_if_eq (tgt := 27) dX11_ask_20 (by decide) (fun hc20 => ?_) (fun hc20 => ?_)
    · (first | rw [bI_0, Bool.not_eq_false] at hc20 | rw [bI_0] at hc20 | rw [show (0 : Int32) = nI 0 from rfl, nI_eq (by omega) (by omega)] at hc20 | skip)
      refine v_iconst (v := nI 0) dX11_ask_27 (by decide) ?_
      have e : (inb x (F 2) && inb y (F 3)) = false := by
        simp only [hc9, hc20, dle_f, dle_t, dlt_f, dlt_t, not_false_eq_true, Bool.and_true, Bool.and_false, Bool.true_and, Bool.false_and]
      rw [e] at cut
      exact cut
    · (first | rw [bI_0, Bool.not_eq_false] at hc20 | rw [bI_0] at hc20 | rw [show (0 : Int32) = nI 0 from rfl, nI_eq (by omega) (by omega)] at hc20 | skip)
      refine v_iconst (v := nI 1) dX11_ask_23 (by decide) ?_
      refine v_goto (tgt := 28) dX11_ask_24 (by decide) ?_
      have e : (inb x (F 2) && inb y (F 3)) = true := by
        simp only [hc9, hc20, dle_f, dle_t, dlt_f, dlt_t, not_false_eq_true, Bool.and_true, Bool.and_false, Bool.true_and, Bool.false_and]
      rw [e] at cut
      exact cut
def a_mask (F : bkF) (s : LSt) (x : Int32) (y : Int32) : Int32 := if ((inb x (F 2) && decide (0 ≤ y) && decide (y ≤ nI 1)) && true) = true then (if y = 0 then nI (F (8 + tN x)) else nI (F (14 + tN x))) else -1
def t_mask (F : bkF) (s : LSt) (x : Int32) (y : Int32) : Nat := trc (inb x (F 2) && decide (0 ≤ y) && decide (y ≤ nI 1)) (true)
theorem c_X11_mask {x y : Int32} (h : ClsB I L R B B2 t tp nt tr fa pl F S u r im ic) (hQ : XQ I L R tp nt (t_mask F (S 0) x y) fa pl F S u r im ic (a_mask F (S 0) x y) Q) : KK 12 mX11_mask b ad [.ref (b + 0), .int x, .int y] I L R Q := by
  have hR := cb_R h
  have hb := cb_b h
  have hB := cb_B h
  have hF := cb_F h
  have hO := cb_O h
  have o0 := hO.1
  have o1 := hO.2.1
  have o2 := hO.2.2.1
  have o3 := hO.2.2.2.1
  have o4 := hO.2.2.2.2.1
  have o5 := hO.2.2.2.2.2.1
  have o6 := hO.2.2.2.2.2.2.1
  have h1 := cb_1 h
  have ht := cb_t h
  have hS := sh_ring t ht
  have hL := cb_L h
  have hK := cb_K h
  have hps := hK.pers
  refine K.of (M := mX11_mask) (lv := [some (.ref (b + 0)), some (.int x), some (.int y)]) (by decide) (Nat.le_of_ble_eq_true rfl) rfl ?_
  have cut : VV yX11_mask cX11_mask 3 (some .int) 12 Q b ad 26 [some (.ref (b + 0)), some (.int x), some (.int y)] [.int (bI (inb x (F 2) && decide (0 ≤ y) && decide (y ≤ nI 1))), .ref (b + 0)] I L R := by
    refine v_iconst (v := nI 1) dX11_mask_26 (by decide) ?_
    refine u_callV_2 dX11_mask_27 ml_X11_68 mv_X11_admit (by first | assumption | rfl | exact led_1 (by assumption) | exact led_2 (by assumption) | exact bk_m (by assumption) (by first | assumption | omega) | exact bk_p (by assumption) (by first | assumption | omega) | exact bk_o (by assumption) (by first | assumption | omega) | exact bk_s (by assumption) (by first | assumption | omega) | exact bk_1 (by assumption) | exact bk_2 (by assumption) | exact bk_3 (by assumption) | exact bk_4 (by assumption) | exact bk_5 (by assumption) | exact bk_6 (by assumption) | exact bk_7 (by assumption) | exact bk_8 (by assumption) | exact sh_ring _ (by first | assumption | omega) | exact sh_imgs _ (by first | assumption | omega)) (by decide) rfl (by decide) (Nat.le_of_ble_eq_true rfl) (c_X11_admit (p := inb x (F 2) && decide (0 ≤ y) && decide (y ≤ nI 1)) (q := true) ?_)
    have hh : Hi I (ui I 0 2 (nI (trc (inb x (F 2) && decide (0 ≤ y) && decide (y ≤ nI 1)) (true)))) L L R R := hi_ui (by decide)
    have h := cb_tr (v := trc (inb x (F 2) && decide (0 ≤ y) && decide (y ≤ nI 1)) (true)) h (trc_lt _ _).1 (trc_lt _ _).2
    have hF := cb_F h
    have h1 := cb_1 h
    have hL := cb_L h
    refine v_if_ne (tgt := 35) dX11_mask_30 (by decide) (fun hc30 => ?_) (fun hc30 => ?_)
    · (first | rw [bI_0, Bool.not_eq_false] at hc30 | rw [bI_0] at hc30 | rw [show (0 : Int32) = nI 0 from rfl, nI_eq (by omega) (by omega)] at hc30 | skip)
      have hA := hc30
      rw [Bool.and_eq_true] at hA
      obtain ⟨hA0, hA2⟩ := hA
      rw [Bool.and_eq_true] at hA0
      obtain ⟨hA0, hP2⟩ := hA0
      rw [Bool.and_eq_true] at hA0
      obtain ⟨hA0, hP1⟩ := hA0
      obtain ⟨m, rfl, hm⟩ := inb_ex (by omega) hA0
      have em : tN (nI m) = m := tN_nI (by omega)
      refine v_iload_2 dX11_mask_35 ?_
      refine v_if_ne (tgt := 54) dX11_mask_36 (by decide) (fun hc36 => ?_) (fun hc36 => ?_)
      · (first | rw [bI_0, Bool.not_eq_false] at hc36 | rw [bI_0] at hc36 | rw [show (0 : Int32) = nI 0 from rfl, nI_eq (by omega) (by omega)] at hc36 | skip)
        refine v_aload_0 dX11_mask_54 ?_
        refine u_getR dX11_mask_55 gf_X11_29 (by first | assumption | rfl | exact led_1 (by assumption) | exact led_2 (by assumption) | exact bk_m (by assumption) (by first | assumption | omega) | exact bk_p (by assumption) (by first | assumption | omega) | exact bk_o (by assumption) (by first | assumption | omega) | exact bk_s (by assumption) (by first | assumption | omega) | exact bk_1 (by assumption) | exact bk_2 (by assumption) | exact bk_3 (by assumption) | exact bk_4 (by assumption) | exact bk_5 (by assumption) | exact bk_6 (by assumption) | exact bk_7 (by assumption) | exact bk_8 (by assumption) | exact sh_ring _ (by first | assumption | omega) | exact sh_imgs _ (by first | assumption | omega)) (by assumption) ?_
        refine u_getR dX11_mask_58 gf_X11_299 (by first | assumption | rfl | exact led_1 (by assumption) | exact led_2 (by assumption) | exact bk_m (by assumption) (by first | assumption | omega) | exact bk_p (by assumption) (by first | assumption | omega) | exact bk_o (by assumption) (by first | assumption | omega) | exact bk_s (by assumption) (by first | assumption | omega) | exact bk_1 (by assumption) | exact bk_2 (by assumption) | exact bk_3 (by assumption) | exact bk_4 (by assumption) | exact bk_5 (by assumption) | exact bk_6 (by assumption) | exact bk_7 (by assumption) | exact bk_8 (by assumption) | exact sh_ring _ (by first | assumption | omega) | exact sh_imgs _ (by first | assumption | omega)) (ro_X0_7 (by assumption) (by assumption)) ?_
        refine v_iload_1 dX11_mask_61 ?_
        refine u_aald dX11_mask_62 (by first | assumption | rfl | exact led_1 (by assumption) | exact led_2 (by assumption) | exact bk_m (by assumption) (by first | assumption | omega) | exact bk_p (by assumption) (by first | assumption | omega) | exact bk_o (by assumption) (by first | assumption | omega) | exact bk_s (by assumption) (by first | assumption | omega) | exact bk_1 (by assumption) | exact bk_2 (by assumption) | exact bk_3 (by assumption) | exact bk_4 (by assumption) | exact bk_5 (by assumption) | exact bk_6 (by assumption) | exact bk_7 (by assumption) | exact bk_8 (by assumption) | exact sh_ring _ (by first | assumption | omega) | exact sh_imgs _ (by first | assumption | omega)) (by decide) (by decide) rfl (by first | with_reducible rfl | (simp only [nlit, nI_add, pk_mul]; with_reducible rfl) | rfl) (by first | assumption | omega) (by decide) (by first | exact ro_m (by assumption) (by assumption) (by first | assumption | omega) | exact ro_p (by assumption) (by assumption) (by first | assumption | omega) | exact ro_o (by assumption) (by assumption) (by first | assumption | omega) | exact ro_s (by assumption) (by assumption) (by first | assumption | omega) | exact ro_ring (by assumption) (by first | assumption | omega) | exact ro_imgs (by assumption) (by first | assumption | omega)) ?_
        refine u_getI dX11_mask_63 gf_X11_308 (by first | assumption | rfl | exact led_1 (by assumption) | exact led_2 (by assumption) | exact bk_m (by assumption) (by first | assumption | omega) | exact bk_p (by assumption) (by first | assumption | omega) | exact bk_o (by assumption) (by first | assumption | omega) | exact bk_s (by assumption) (by first | assumption | omega) | exact bk_1 (by assumption) | exact bk_2 (by assumption) | exact bk_3 (by assumption) | exact bk_4 (by assumption) | exact bk_5 (by assumption) | exact bk_6 (by assumption) | exact bk_7 (by assumption) | exact bk_8 (by assumption) | exact sh_ring _ (by first | assumption | omega) | exact sh_imgs _ (by first | assumption | omega)) ?_
        (first | (rw [bm1 hF]; rotate_left; (first | assumption | omega)) | skip)
        refine v_iret dX11_mask_66 rfl rfl rfl rfl ?_
        exact hQ.fin h (hi_ui (by decide)) rfl (by rw [a_mask, if_pos hc30, em]; simp only [hc36, if_true, if_false])
      · (first | rw [bI_0, Bool.not_eq_false] at hc36 | rw [bI_0] at hc36 | rw [show (0 : Int32) = nI 0 from rfl, nI_eq (by omega) (by omega)] at hc36 | skip)
        refine v_aload_0 dX11_mask_39 ?_
        refine u_getR dX11_mask_40 gf_X11_29 (by first | assumption | rfl | exact led_1 (by assumption) | exact led_2 (by assumption) | exact bk_m (by assumption) (by first | assumption | omega) | exact bk_p (by assumption) (by first | assumption | omega) | exact bk_o (by assumption) (by first | assumption | omega) | exact bk_s (by assumption) (by first | assumption | omega) | exact bk_1 (by assumption) | exact bk_2 (by assumption) | exact bk_3 (by assumption) | exact bk_4 (by assumption) | exact bk_5 (by assumption) | exact bk_6 (by assumption) | exact bk_7 (by assumption) | exact bk_8 (by assumption) | exact sh_ring _ (by first | assumption | omega) | exact sh_imgs _ (by first | assumption | omega)) (by assumption) ?_
        refine u_getR dX11_mask_43 gf_X11_299 (by first | assumption | rfl | exact led_1 (by assumption) | exact led_2 (by assumption) | exact bk_m (by assumption) (by first | assumption | omega) | exact bk_p (by assumption) (by first | assumption | omega) | exact bk_o (by assumption) (by first | assumption | omega) | exact bk_s (by assumption) (by first | assumption | omega) | exact bk_1 (by assumption) | exact bk_2 (by assumption) | exact bk_3 (by assumption) | exact bk_4 (by assumption) | exact bk_5 (by assumption) | exact bk_6 (by assumption) | exact bk_7 (by assumption) | exact bk_8 (by assumption) | exact sh_ring _ (by first | assumption | omega) | exact sh_imgs _ (by first | assumption | omega)) (ro_X0_7 (by assumption) (by assumption)) ?_
        refine v_iload_1 dX11_mask_46 ?_
        refine u_aald dX11_mask_47 (by first | assumption | rfl | exact led_1 (by assumption) | exact led_2 (by assumption) | exact bk_m (by assumption) (by first | assumption | omega) | exact bk_p (by assumption) (by first | assumption | omega) | exact bk_o (by assumption) (by first | assumption | omega) | exact bk_s (by assumption) (by first | assumption | omega) | exact bk_1 (by assumption) | exact bk_2 (by assumption) | exact bk_3 (by assumption) | exact bk_4 (by assumption) | exact bk_5 (by assumption) | exact bk_6 (by assumption) | exact bk_7 (by assumption) | exact bk_8 (by assumption) | exact sh_ring _ (by first | assumption | omega) | exact sh_imgs _ (by first | assumption | omega)) (by decide) (by decide) rfl (by first | with_reducible rfl | (simp only [nlit, nI_add, pk_mul]; with_reducible rfl) | rfl) (by first | assumption | omega) (by decide) (by first | exact ro_m (by assumption) (by assumption) (by first | assumption | omega) | exact ro_p (by assumption) (by assumption) (by first | assumption | omega) | exact ro_o (by assumption) (by assumption) (by first | assumption | omega) | exact ro_s (by assumption) (by assumption) (by first | assumption | omega) | exact ro_ring (by assumption) (by first | assumption | omega) | exact ro_imgs (by assumption) (by first | assumption | omega)) ?_
        refine u_getI dX11_mask_48 gf_X11_303 (by first | assumption | rfl | exact led_1 (by assumption) | exact led_2 (by assumption) | exact bk_m (by assumption) (by first | assumption | omega) | exact bk_p (by assumption) (by first | assumption | omega) | exact bk_o (by assumption) (by first | assumption | omega) | exact bk_s (by assumption) (by first | assumption | omega) | exact bk_1 (by assumption) | exact bk_2 (by assumption) | exact bk_3 (by assumption) | exact bk_4 (by assumption) | exact bk_5 (by assumption) | exact bk_6 (by assumption) | exact bk_7 (by assumption) | exact bk_8 (by assumption) | exact sh_ring _ (by first | assumption | omega) | exact sh_imgs _ (by first | assumption | omega)) ?_
        (first | (rw [bm0 hF]; rotate_left; (first | assumption | omega)) | skip)
        refine v_goto (tgt := 66) dX11_mask_51 (by decide) ?_
        refine v_iret dX11_mask_66 rfl rfl rfl rfl ?_
        exact hQ.fin h (hi_ui (by decide)) rfl (by rw [a_mask, if_pos hc30, em]; simp only [hc36, if_true, if_false])
    · (first | rw [bI_0, Bool.not_eq_false] at hc30 | rw [bI_0] at hc30 | rw [show (0 : Int32) = nI 0 from rfl, nI_eq (by omega) (by omega)] at hc30 | skip)
      refine v_iconst (v := -1) dX11_mask_33 (by decide) ?_
      refine v_iret dX11_mask_34 rfl rfl rfl rfl ?_
      exact hQ.fin h (hi_ui (by decide)) (by first | rfl | simp only [t_mask, hc30, if_true, Bool.false_eq_true, if_false]) (by simp only [a_mask, hc30, Bool.false_eq_true, if_false])
  refine v_aload_0 dX11_mask_0 ?_
  refine v_aload_0 dX11_mask_1 ?_
  refine u_getR dX11_mask_2 gf_X11_29 (by first | assumption | rfl | exact led_1 (by assumption) | exact led_2 (by assumption) | exact bk_m (by assumption) (by first | assumption | omega) | exact bk_p (by assumption) (by first | assumption | omega) | exact bk_o (by assumption) (by first | assumption | omega) | exact bk_s (by assumption) (by first | assumption | omega) | exact bk_1 (by assumption) | exact bk_2 (by assumption) | exact bk_3 (by assumption) | exact bk_4 (by assumption) | exact bk_5 (by assumption) | exact bk_6 (by assumption) | exact bk_7 (by assumption) | exact bk_8 (by assumption) | exact sh_ring _ (by first | assumption | omega) | exact sh_imgs _ (by first | assumption | omega)) (by assumption) ?_
  refine v_iload_1 dX11_mask_5 ?_
  refine u_callV_1 dX11_mask_6 ml_X11_96 mv_X0_hasMask (by first | assumption | rfl | exact led_1 (by assumption) | exact led_2 (by assumption) | exact bk_m (by assumption) (by first | assumption | omega) | exact bk_p (by assumption) (by first | assumption | omega) | exact bk_o (by assumption) (by first | assumption | omega) | exact bk_s (by assumption) (by first | assumption | omega) | exact bk_1 (by assumption) | exact bk_2 (by assumption) | exact bk_3 (by assumption) | exact bk_4 (by assumption) | exact bk_5 (by assumption) | exact bk_6 (by assumption) | exact bk_7 (by assumption) | exact bk_8 (by assumption) | exact sh_ring _ (by first | assumption | omega) | exact sh_imgs _ (by first | assumption | omega)) (by decide) rfl (by decide) (Nat.le_of_ble_eq_true rfl) (c_X0_hasMask hB hF ?_)
  refine v_if_eq (tgt := 25) dX11_mask_9 (by decide) (fun hc9 => ?_) (fun hc9 => ?_)
  · (first | rw [bI_0, Bool.not_eq_false] at hc9 | rw [bI_0] at hc9 | rw [show (0 : Int32) = nI 0 from rfl, nI_eq (by omega) (by omega)] at hc9 | skip)
    refine v_iconst (v := nI 0) dX11_mask_25 (by decide) ?_
    have e : (inb x (F 2) && decide (0 ≤ y) && decide (y ≤ nI 1)) = false := by
      simp only [hc9, dle_f, dle_t, dlt_f, dlt_t, not_false_eq_true, Bool.and_true, Bool.and_false, Bool.true_and, Bool.false_and]
    rw [e] at cut
    exact cut
  · (first | rw [bI_0, Bool.not_eq_false] at hc9 | rw [bI_0] at hc9 | rw [show (0 : Int32) = nI 0 from rfl, nI_eq (by omega) (by omega)] at hc9 | skip)
    refine v_iload_2 dX11_mask_12 ?_
    refine v_if_lt (tgt := 25) dX11_mask_13 (by decide) (fun hc13 => ?_) (fun hc13 => ?_)
    · (first | rw [show (0 : Int32) = nI 0 from rfl, nI_ltI (by omega) (by omega)] at hc13 | rw [show (0 : Int32) = nI 0 from rfl, nI_leI (by omega) (by omega)] at hc13 | skip)
      refine v_iconst (v := nI 0) dX11_mask_25 (by decide) ?_
      have e : (inb x (F 2) && decide (0 ≤ y) && decide (y ≤ nI 1)) = false := by
        simp only [hc9, hc13, dle_f, dle_t, dlt_f, dlt_t, not_false_eq_true, Bool.and_true, Bool.and_false, Bool.true_and, Bool.false_and]
      rw [e] at cut
      exact cut
    · (first | rw [show (0 : Int32) = nI 0 from rfl, nI_ltI (by omega) (by omega)] at hc13 | rw [show (0 : Int32) = nI 0 from rfl, nI_leI (by omega) (by omega)] at hc13 | skip)
      refine v_iload_2 dX11_mask_16 ?_
      refine v_iconst (v := nI 1) dX11_mask_17 (by decide) ?_
      refine v_icmp_gt (tgt := 25) dX11_mask_18 (by decide) (fun hc18 => ?_) (fun hc18 => ?_)
      · (try rw [nI_ltI (by omega) (by omega)] at hc18)
        refine v_iconst (v := nI 0) dX11_mask_25 (by decide) ?_
        have e : (inb x (F 2) && decide (0 ≤ y) && decide (y ≤ nI 1)) = false := by
          simp only [hc9, hc13, hc18, dle_f, dle_t, dlt_f, dlt_t, not_false_eq_true, Bool.and_true, Bool.and_false, Bool.true_and, Bool.false_and]
        rw [e] at cut
        exact cut
      · (try rw [nI_ltI (by omega) (by omega)] at hc18)
        refine v_iconst (v := nI 1) dX11_mask_21 (by decide) ?_
        refine v_goto (tgt := 26) dX11_mask_22 (by decide) ?_
        have e : (inb x (F 2) && decide (0 ≤ y) && decide (y ≤ nI 1)) = true := by
          simp only [hc9, hc13, hc18, dle_f, dle_t, dlt_f, dlt_t, not_false_eq_true, Bool.and_true, Bool.and_false, Bool.true_and, Bool.false_and]
        rw [e] at cut
        exact cut
def a_agrees (F : bkF) (s : LSt) (x : Int32) (y : Int32) : Int32 := if ((inb x (F 5) && inb y (F 3)) && true) = true then bI (fitF F (F (128 + 5 * tN x)) (tN y) && resF F (tN x) (tN y)) else -1
def t_agrees (F : bkF) (s : LSt) (x : Int32) (y : Int32) : Nat := trc (inb x (F 5) && inb y (F 3)) (true)
theorem c_X11_agrees {x y : Int32} (h : ClsB I L R B B2 t tp nt tr fa pl F S u r im ic) (hQ : XQ I L R tp nt (t_agrees F (S 0) x y) fa pl F S u r im ic (a_agrees F (S 0) x y) Q) : KK 12 mX11_agrees b ad [.ref (b + 0), .int x, .int y] I L R Q := by
  have hR := cb_R h
  have hb := cb_b h
  have hB := cb_B h
  have hF := cb_F h
  have hO := cb_O h
  have o0 := hO.1
  have o1 := hO.2.1
  have o2 := hO.2.2.1
  have o3 := hO.2.2.2.1
  have o4 := hO.2.2.2.2.1
  have o5 := hO.2.2.2.2.2.1
  have o6 := hO.2.2.2.2.2.2.1
  have h1 := cb_1 h
  have ht := cb_t h
  have hS := sh_ring t ht
  have hL := cb_L h
  have hK := cb_K h
  have hps := hK.pers
  refine K.of (M := mX11_agrees) (lv := [some (.ref (b + 0)), some (.int x), some (.int y), none]) (by decide) (Nat.le_of_ble_eq_true rfl) rfl ?_
  have cut : VV yX11_agrees cX11_agrees 4 (some .int) 12 Q b ad 28 [some (.ref (b + 0)), some (.int x), some (.int y), none] [.int (bI (inb x (F 5) && inb y (F 3))), .ref (b + 0)] I L R := by
    refine v_iconst (v := nI 1) dX11_agrees_28 (by decide) ?_
    refine u_callV_2 dX11_agrees_29 ml_X11_68 mv_X11_admit (by first | assumption | rfl | exact led_1 (by assumption) | exact led_2 (by assumption) | exact bk_m (by assumption) (by first | assumption | omega) | exact bk_p (by assumption) (by first | assumption | omega) | exact bk_o (by assumption) (by first | assumption | omega) | exact bk_s (by assumption) (by first | assumption | omega) | exact bk_1 (by assumption) | exact bk_2 (by assumption) | exact bk_3 (by assumption) | exact bk_4 (by assumption) | exact bk_5 (by assumption) | exact bk_6 (by assumption) | exact bk_7 (by assumption) | exact bk_8 (by assumption) | exact sh_ring _ (by first | assumption | omega) | exact sh_imgs _ (by first | assumption | omega)) (by decide) rfl (by decide) (Nat.le_of_ble_eq_true rfl) (c_X11_admit (p := inb x (F 5) && inb y (F 3)) (q := true) ?_)
    have hh : Hi I (ui I 0 2 (nI (trc (inb x (F 5) && inb y (F 3)) (true)))) L L R R := hi_ui (by decide)
    have h := cb_tr (v := trc (inb x (F 5) && inb y (F 3)) (true)) h (trc_lt _ _).1 (trc_lt _ _).2
    have hF := cb_F h
    have h1 := cb_1 h
    have hL := cb_L h
    refine v_if_ne (tgt := 37) dX11_agrees_32 (by decide) (fun hc32 => ?_) (fun hc32 => ?_)
    · (first | rw [bI_0, Bool.not_eq_false] at hc32 | rw [bI_0] at hc32 | rw [show (0 : Int32) = nI 0 from rfl, nI_eq (by omega) (by omega)] at hc32 | skip)
      have hA := hc32
      rw [Bool.and_eq_true] at hA
      obtain ⟨hA0, hA2⟩ := hA
      rw [Bool.and_eq_true] at hA0
      obtain ⟨hA0, hP1⟩ := hA0
      obtain ⟨s, rfl, hs⟩ := inb_ex (by omega) hA0
      have es : tN (nI s) = s := tN_nI (by omega)
      obtain ⟨p, rfl, hp⟩ := inb_ex (by omega) hP1
      have ep : tN (nI p) = p := tN_nI (by omega)
      have hm := (fk_s hO hs).1
      refine v_aload_0 dX11_agrees_37 ?_
      refine u_getR dX11_agrees_38 gf_X11_29 (by first | assumption | rfl | exact led_1 (by assumption) | exact led_2 (by assumption) | exact bk_m (by assumption) (by first | assumption | omega) | exact bk_p (by assumption) (by first | assumption | omega) | exact bk_o (by assumption) (by first | assumption | omega) | exact bk_s (by assumption) (by first | assumption | omega) | exact bk_1 (by assumption) | exact bk_2 (by assumption) | exact bk_3 (by assumption) | exact bk_4 (by assumption) | exact bk_5 (by assumption) | exact bk_6 (by assumption) | exact bk_7 (by assumption) | exact bk_8 (by assumption) | exact sh_ring _ (by first | assumption | omega) | exact sh_imgs _ (by first | assumption | omega)) (by assumption) ?_
      refine u_getR dX11_agrees_41 gf_X11_209 (by first | assumption | rfl | exact led_1 (by assumption) | exact led_2 (by assumption) | exact bk_m (by assumption) (by first | assumption | omega) | exact bk_p (by assumption) (by first | assumption | omega) | exact bk_o (by assumption) (by first | assumption | omega) | exact bk_s (by assumption) (by first | assumption | omega) | exact bk_1 (by assumption) | exact bk_2 (by assumption) | exact bk_3 (by assumption) | exact bk_4 (by assumption) | exact bk_5 (by assumption) | exact bk_6 (by assumption) | exact bk_7 (by assumption) | exact bk_8 (by assumption) | exact sh_ring _ (by first | assumption | omega) | exact sh_imgs _ (by first | assumption | omega)) (ro_X0_10 (by assumption) (by assumption)) ?_
      refine v_iload_1 dX11_agrees_44 ?_
      refine u_aald dX11_agrees_45 (by first | assumption | rfl | exact led_1 (by assumption) | exact led_2 (by assumption) | exact bk_m (by assumption) (by first | assumption | omega) | exact bk_p (by assumption) (by first | assumption | omega) | exact bk_o (by assumption) (by first | assumption | omega) | exact bk_s (by assumption) (by first | assumption | omega) | exact bk_1 (by assumption) | exact bk_2 (by assumption) | exact bk_3 (by assumption) | exact bk_4 (by assumption) | exact bk_5 (by assumption) | exact bk_6 (by assumption) | exact bk_7 (by assumption) | exact bk_8 (by assumption) | exact sh_ring _ (by first | assumption | omega) | exact sh_imgs _ (by first | assumption | omega)) (by decide) (by decide) rfl (by first | with_reducible rfl | (simp only [nlit, nI_add, pk_mul]; with_reducible rfl) | rfl) (by first | assumption | omega) (by decide) (by first | exact ro_m (by assumption) (by assumption) (by first | assumption | omega) | exact ro_p (by assumption) (by assumption) (by first | assumption | omega) | exact ro_o (by assumption) (by assumption) (by first | assumption | omega) | exact ro_s (by assumption) (by assumption) (by first | assumption | omega) | exact ro_ring (by assumption) (by first | assumption | omega) | exact ro_imgs (by assumption) (by first | assumption | omega)) ?_
      refine v_astore_3 rfl dX11_agrees_46 ?_
      refine v_aload_0 dX11_agrees_47 ?_
      refine u_getR dX11_agrees_48 gf_X11_29 (by first | assumption | rfl | exact led_1 (by assumption) | exact led_2 (by assumption) | exact bk_m (by assumption) (by first | assumption | omega) | exact bk_p (by assumption) (by first | assumption | omega) | exact bk_o (by assumption) (by first | assumption | omega) | exact bk_s (by assumption) (by first | assumption | omega) | exact bk_1 (by assumption) | exact bk_2 (by assumption) | exact bk_3 (by assumption) | exact bk_4 (by assumption) | exact bk_5 (by assumption) | exact bk_6 (by assumption) | exact bk_7 (by assumption) | exact bk_8 (by assumption) | exact sh_ring _ (by first | assumption | omega) | exact sh_imgs _ (by first | assumption | omega)) (by assumption) ?_
      refine v_aload_3 dX11_agrees_51 ?_
      refine u_getI dX11_agrees_52 gf_X11_213 (by first | assumption | rfl | exact led_1 (by assumption) | exact led_2 (by assumption) | exact bk_m (by assumption) (by first | assumption | omega) | exact bk_p (by assumption) (by first | assumption | omega) | exact bk_o (by assumption) (by first | assumption | omega) | exact bk_s (by assumption) (by first | assumption | omega) | exact bk_1 (by assumption) | exact bk_2 (by assumption) | exact bk_3 (by assumption) | exact bk_4 (by assumption) | exact bk_5 (by assumption) | exact bk_6 (by assumption) | exact bk_7 (by assumption) | exact bk_8 (by assumption) | exact sh_ring _ (by first | assumption | omega) | exact sh_imgs _ (by first | assumption | omega)) ?_
      (first | (rw [bs0 hF]; rotate_left; (first | assumption | omega)) | skip)
      refine v_iload_2 dX11_agrees_55 ?_
      refine u_callV_2 dX11_agrees_56 ml_X11_102 mv_X0_suits (by first | assumption | rfl | exact led_1 (by assumption) | exact led_2 (by assumption) | exact bk_m (by assumption) (by first | assumption | omega) | exact bk_p (by assumption) (by first | assumption | omega) | exact bk_o (by assumption) (by first | assumption | omega) | exact bk_s (by assumption) (by first | assumption | omega) | exact bk_1 (by assumption) | exact bk_2 (by assumption) | exact bk_3 (by assumption) | exact bk_4 (by assumption) | exact bk_5 (by assumption) | exact bk_6 (by assumption) | exact bk_7 (by assumption) | exact bk_8 (by assumption) | exact sh_ring _ (by first | assumption | omega) | exact sh_imgs _ (by first | assumption | omega)) (by decide) rfl (by decide) (Nat.le_of_ble_eq_true rfl) (c_X0_suits hR hB hF hO hm hp ?_)
      refine v_if_eq (tgt := 82) dX11_agrees_59 (by decide) (fun hc59 => ?_) (fun hc59 => ?_)
      · (first | rw [bI_0, Bool.not_eq_false] at hc59 | rw [bI_0] at hc59 | rw [show (0 : Int32) = nI 0 from rfl, nI_eq (by omega) (by omega)] at hc59 | skip)
        refine v_iconst (v := nI 0) dX11_agrees_82 (by decide) ?_
        refine u_callS_1 dX11_agrees_83 ml_X11_106 ms_X11_asNumber (by decide) (Nat.le_of_ble_eq_true rfl) (c_X11_asNumber (p := false) ?_)
        refine v_iret dX11_agrees_86 rfl rfl rfl rfl ?_
        exact hQ.fin h (hi_ui (by decide)) rfl (by
          have e : (fitF F (F (128 + 5 * s)) p && resF F s p) = false := by
            revert hc32 hc59; simp +contextual [resF]
          simp only [a_agrees, hc32, es, ep, if_true, e])
      · (first | rw [bI_0, Bool.not_eq_false] at hc59 | rw [bI_0] at hc59 | rw [show (0 : Int32) = nI 0 from rfl, nI_eq (by omega) (by omega)] at hc59 | skip)
        refine v_aload_3 dX11_agrees_62 ?_
        refine v_aload_0 dX11_agrees_63 ?_
        refine u_getR dX11_agrees_64 gf_X11_29 (by first | assumption | rfl | exact led_1 (by assumption) | exact led_2 (by assumption) | exact bk_m (by assumption) (by first | assumption | omega) | exact bk_p (by assumption) (by first | assumption | omega) | exact bk_o (by assumption) (by first | assumption | omega) | exact bk_s (by assumption) (by first | assumption | omega) | exact bk_1 (by assumption) | exact bk_2 (by assumption) | exact bk_3 (by assumption) | exact bk_4 (by assumption) | exact bk_5 (by assumption) | exact bk_6 (by assumption) | exact bk_7 (by assumption) | exact bk_8 (by assumption) | exact sh_ring _ (by first | assumption | omega) | exact sh_imgs _ (by first | assumption | omega)) (by assumption) ?_
        refine u_getR dX11_agrees_67 gf_X11_218 (by first | assumption | rfl | exact led_1 (by assumption) | exact led_2 (by assumption) | exact bk_m (by assumption) (by first | assumption | omega) | exact bk_p (by assumption) (by first | assumption | omega) | exact bk_o (by assumption) (by first | assumption | omega) | exact bk_s (by assumption) (by first | assumption | omega) | exact bk_1 (by assumption) | exact bk_2 (by assumption) | exact bk_3 (by assumption) | exact bk_4 (by assumption) | exact bk_5 (by assumption) | exact bk_6 (by assumption) | exact bk_7 (by assumption) | exact bk_8 (by assumption) | exact sh_ring _ (by first | assumption | omega) | exact sh_imgs _ (by first | assumption | omega)) (ro_X0_8 (by assumption) (by assumption)) ?_
        refine v_iload_2 dX11_agrees_70 ?_
        refine u_aald dX11_agrees_71 (by first | assumption | rfl | exact led_1 (by assumption) | exact led_2 (by assumption) | exact bk_m (by assumption) (by first | assumption | omega) | exact bk_p (by assumption) (by first | assumption | omega) | exact bk_o (by assumption) (by first | assumption | omega) | exact bk_s (by assumption) (by first | assumption | omega) | exact bk_1 (by assumption) | exact bk_2 (by assumption) | exact bk_3 (by assumption) | exact bk_4 (by assumption) | exact bk_5 (by assumption) | exact bk_6 (by assumption) | exact bk_7 (by assumption) | exact bk_8 (by assumption) | exact sh_ring _ (by first | assumption | omega) | exact sh_imgs _ (by first | assumption | omega)) (by decide) (by decide) rfl (by first | with_reducible rfl | (simp only [nlit, nI_add, pk_mul]; with_reducible rfl) | rfl) (by first | assumption | omega) (by decide) (by first | exact ro_m (by assumption) (by assumption) (by first | assumption | omega) | exact ro_p (by assumption) (by assumption) (by first | assumption | omega) | exact ro_o (by assumption) (by assumption) (by first | assumption | omega) | exact ro_s (by assumption) (by assumption) (by first | assumption | omega) | exact ro_ring (by assumption) (by first | assumption | omega) | exact ro_imgs (by assumption) (by first | assumption | omega)) ?_
        refine u_callV_1 dX11_agrees_72 ml_X11_222 mv_X8_resembles (by first | assumption | rfl | exact led_1 (by assumption) | exact led_2 (by assumption) | exact bk_m (by assumption) (by first | assumption | omega) | exact bk_p (by assumption) (by first | assumption | omega) | exact bk_o (by assumption) (by first | assumption | omega) | exact bk_s (by assumption) (by first | assumption | omega) | exact bk_1 (by assumption) | exact bk_2 (by assumption) | exact bk_3 (by assumption) | exact bk_4 (by assumption) | exact bk_5 (by assumption) | exact bk_6 (by assumption) | exact bk_7 (by assumption) | exact bk_8 (by assumption) | exact sh_ring _ (by first | assumption | omega) | exact sh_imgs _ (by first | assumption | omega)) (by decide) rfl (by decide) (Nat.le_of_ble_eq_true rfl) (c_X8_resembles (bk_s hB (by omega)) (bk_p hB (by omega)) (hF.sg hO hs) (hF.ps hO hp) ?_)
        refine v_if_eq (tgt := 82) dX11_agrees_75 (by decide) (fun hc75 => ?_) (fun hc75 => ?_)
        · (first | rw [bI_0, Bool.not_eq_false] at hc75 | rw [bI_0] at hc75 | rw [show (0 : Int32) = nI 0 from rfl, nI_eq (by omega) (by omega)] at hc75 | skip)
          refine v_iconst (v := nI 0) dX11_agrees_82 (by decide) ?_
          refine u_callS_1 dX11_agrees_83 ml_X11_106 ms_X11_asNumber (by decide) (Nat.le_of_ble_eq_true rfl) (c_X11_asNumber (p := false) ?_)
          refine v_iret dX11_agrees_86 rfl rfl rfl rfl ?_
          exact hQ.fin h (hi_ui (by decide)) rfl (by
            have e : (fitF F (F (128 + 5 * s)) p && resF F s p) = false := by
              revert hc32 hc59 hc75; simp +contextual [resF]
            simp only [a_agrees, hc32, es, ep, if_true, e])
        · (first | rw [bI_0, Bool.not_eq_false] at hc75 | rw [bI_0] at hc75 | rw [show (0 : Int32) = nI 0 from rfl, nI_eq (by omega) (by omega)] at hc75 | skip)
          refine v_iconst (v := nI 1) dX11_agrees_78 (by decide) ?_
          refine v_goto (tgt := 83) dX11_agrees_79 (by decide) ?_
          refine u_callS_1 dX11_agrees_83 ml_X11_106 ms_X11_asNumber (by decide) (Nat.le_of_ble_eq_true rfl) (c_X11_asNumber (p := true) ?_)
          refine v_iret dX11_agrees_86 rfl rfl rfl rfl ?_
          exact hQ.fin h (hi_ui (by decide)) rfl (by rw [show resv _ _ _ _ = resF F s p from rfl] at hc75; simp only [a_agrees, hc32, es, ep, if_true, hc59, hc75, Bool.and_self])
    · (first | rw [bI_0, Bool.not_eq_false] at hc32 | rw [bI_0] at hc32 | rw [show (0 : Int32) = nI 0 from rfl, nI_eq (by omega) (by omega)] at hc32 | skip)
      refine v_iconst (v := -1) dX11_agrees_35 (by decide) ?_
      refine v_iret dX11_agrees_36 rfl rfl rfl rfl ?_
      exact hQ.fin h (hi_ui (by decide)) (by first | rfl | simp only [t_agrees, hc32, if_true, Bool.false_eq_true, if_false]) (by simp only [a_agrees, hc32, Bool.false_eq_true, if_false])
  refine v_aload_0 dX11_agrees_0 ?_
  refine v_aload_0 dX11_agrees_1 ?_
  refine u_getR dX11_agrees_2 gf_X11_29 (by first | assumption | rfl | exact led_1 (by assumption) | exact led_2 (by assumption) | exact bk_m (by assumption) (by first | assumption | omega) | exact bk_p (by assumption) (by first | assumption | omega) | exact bk_o (by assumption) (by first | assumption | omega) | exact bk_s (by assumption) (by first | assumption | omega) | exact bk_1 (by assumption) | exact bk_2 (by assumption) | exact bk_3 (by assumption) | exact bk_4 (by assumption) | exact bk_5 (by assumption) | exact bk_6 (by assumption) | exact bk_7 (by assumption) | exact bk_8 (by assumption) | exact sh_ring _ (by first | assumption | omega) | exact sh_imgs _ (by first | assumption | omega)) (by assumption) ?_
  refine v_iload_1 dX11_agrees_5 ?_
  refine u_callV_1 dX11_agrees_6 ml_X11_206 mv_X0_hasSighting (by first | assumption | rfl | exact led_1 (by assumption) | exact led_2 (by assumption) | exact bk_m (by assumption) (by first | assumption | omega) | exact bk_p (by assumption) (by first | assumption | omega) | exact bk_o (by assumption) (by first | assumption | omega) | exact bk_s (by assumption) (by first | assumption | omega) | exact bk_1 (by assumption) | exact bk_2 (by assumption) | exact bk_3 (by assumption) | exact bk_4 (by assumption) | exact bk_5 (by assumption) | exact bk_6 (by assumption) | exact bk_7 (by assumption) | exact bk_8 (by assumption) | exact sh_ring _ (by first | assumption | omega) | exact sh_imgs _ (by first | assumption | omega)) (by decide) rfl (by decide) (Nat.le_of_ble_eq_true rfl) (c_X0_hasSighting hB hF ?_)
  refine v_if_eq (tgt := 27) dX11_agrees_9 (by decide) (fun hc9 => ?_) (fun hc9 => ?_)
  · (first | rw [bI_0, Bool.not_eq_false] at hc9 | rw [bI_0] at hc9 | rw [show (0 : Int32) = nI 0 from rfl, nI_eq (by omega) (by omega)] at hc9 | skip)
    refine v_iconst (v := nI 0) dX11_agrees_27 (by decide) ?_
    have e : (inb x (F 5) && inb y (F 3)) = false := by
      simp only [hc9, dle_f, dle_t, dlt_f, dlt_t, not_false_eq_true, Bool.and_true, Bool.and_false, Bool.true_and, Bool.false_and]
    rw [e] at cut
    exact cut
  · (first | rw [bI_0, Bool.not_eq_false] at hc9 | rw [bI_0] at hc9 | rw [show (0 : Int32) = nI 0 from rfl, nI_eq (by omega) (by omega)] at hc9 | skip)
    refine v_aload_0 dX11_agrees_12 ?_
    refine u_getR dX11_agrees_13 gf_X11_29 (by first | assumption | rfl | exact led_1 (by assumption) | exact led_2 (by assumption) | exact bk_m (by assumption) (by first | assumption | omega) | exact bk_p (by assumption) (by first | assumption | omega) | exact bk_o (by assumption) (by first | assumption | omega) | exact bk_s (by assumption) (by first | assumption | omega) | exact bk_1 (by assumption) | exact bk_2 (by assumption) | exact bk_3 (by assumption) | exact bk_4 (by assumption) | exact bk_5 (by assumption) | exact bk_6 (by assumption) | exact bk_7 (by assumption) | exact bk_8 (by assumption) | exact sh_ring _ (by first | assumption | omega) | exact sh_imgs _ (by first | assumption | omega)) (by assumption) ?_
    refine v_iload_2 dX11_agrees_16 ?_
    refine u_callV_1 dX11_agrees_17 ml_X11_99 mv_X0_hasPerson (by first | assumption | rfl | exact led_1 (by assumption) | exact led_2 (by assumption) | exact bk_m (by assumption) (by first | assumption | omega) | exact bk_p (by assumption) (by first | assumption | omega) | exact bk_o (by assumption) (by first | assumption | omega) | exact bk_s (by assumption) (by first | assumption | omega) | exact bk_1 (by assumption) | exact bk_2 (by assumption) | exact bk_3 (by assumption) | exact bk_4 (by assumption) | exact bk_5 (by assumption) | exact bk_6 (by assumption) | exact bk_7 (by assumption) | exact bk_8 (by assumption) | exact sh_ring _ (by first | assumption | omega) | exact sh_imgs _ (by first | assumption | omega)) (by decide) rfl (by decide) (Nat.le_of_ble_eq_true rfl) (c_X0_hasPerson hB hF ?_)
    refine v_if_eq (tgt := 27) dX11_agrees_20 (by decide) (fun hc20 => ?_) (fun hc20 => ?_)
    · (first | rw [bI_0, Bool.not_eq_false] at hc20 | rw [bI_0] at hc20 | rw [show (0 : Int32) = nI 0 from rfl, nI_eq (by omega) (by omega)] at hc20 | skip)
      refine v_iconst (v := nI 0) dX11_agrees_27 (by decide) ?_
      have e : (inb x (F 5) && inb y (F 3)) = false := by
        simp only [hc9, hc20, dle_f, dle_t, dlt_f, dlt_t, not_false_eq_true, Bool.and_true, Bool.and_false, Bool.true_and, Bool.false_and]
      rw [e] at cut
      exact cut
    · (first | rw [bI_0, Bool.not_eq_false] at hc20 | rw [bI_0] at hc20 | rw [show (0 : Int32) = nI 0 from rfl, nI_eq (by omega) (by omega)] at hc20 | skip)
      refine v_iconst (v := nI 1) dX11_agrees_23 (by decide) ?_
      refine v_goto (tgt := 28) dX11_agrees_24 (by decide) ?_
      have e : (inb x (F 5) && inb y (F 3)) = true := by
        simp only [hc9, hc20, dle_f, dle_t, dlt_f, dlt_t, not_false_eq_true, Bool.and_true, Bool.and_false, Bool.true_and, Bool.false_and]
      rw [e] at cut
      exact cut
def lq (q : q4) : Nat → Nat
  | 0 => q.1
  | 1 => q.2.1
  | 2 => q.2.2.1
  | _ => q.2.2.2
def a_lending (F : bkF) (s : LSt) (x y : Int32) : Int32 := if (inb x s.1 && inb y 4) = true then nI (lq (s.2.1 (tN x)) (tN y)) else -1
def t_lending (F : bkF) (s : LSt) (x y : Int32) : Nat := trc (inb x s.1 && inb y 4) true
def a_person (F : bkF) (s : LSt) (x y : Int32) : Int32 := if (inb x (F 3) && inb y 5) = true then nI (F (26 + 6 * tN y + tN x)) else -1
def t_person (F : bkF) (s : LSt) (x y : Int32) : Nat := trc (inb x (F 3) && inb y 5) true
theorem nI_b {c : Nat} (h : c < 2) : nI c = bI (decide (c = 1)) := by
  rcases (show c = 0 ∨ c = 1 by omega) with rfl | rfl <;> rfl
theorem inb4 (y : Int32) : inb y 4 = (decide (0 ≤ y) && decide (y ≤ nI 3)) := by
  unfold inb; congr 1; rw [decide_eq_decide, Int32.lt_iff_toInt_lt, Int32.le_iff_toInt_le, show (nI 4).toInt = 4 from rfl, show (nI 3).toInt = 3 from rfl]; omega
theorem inb5 (y : Int32) : inb y 5 = (decide (0 ≤ y) && decide (y ≤ nI 4)) := by
  unfold inb; congr 1; rw [decide_eq_decide, Int32.lt_iff_toInt_lt, Int32.le_iff_toInt_le, show (nI 5).toInt = 5 from rfl, show (nI 4).toInt = 4 from rfl]; omega
theorem tab_lt {x : Nat} {lo : Int} (h : x < 2 ^ 31) (h2 : ¬ (x : Int) < lo) : ¬ (nI x).toInt < lo := by rw [toInt_nI h]; exact h2
theorem c_X11_lending {x y : Int32} (h : ClsB I L R B B2 t tp nt tr fa pl F S u r im ic) (hQ : XQ I L R tp nt (t_lending F (S 0) x y) fa pl F S u r im ic (a_lending F (S 0) x y) Q) : KK 12 mX11_lending b ad [.ref (b + 0), .int x, .int y] I L R Q := by
  have hR := cb_R h
  have hb := cb_b h
  have hB := cb_B h
  have hF := cb_F h
  have hO := cb_O h
  have o0 := hO.1
  have o1 := hO.2.1
  have o2 := hO.2.2.1
  have o3 := hO.2.2.2.1
  have o4 := hO.2.2.2.2.1
  have o5 := hO.2.2.2.2.2.1
  have o6 := hO.2.2.2.2.2.2.1
  have h1 := cb_1 h
  have ht := cb_t h
  have hS := sh_ring t ht
  have hL := cb_L h
  have hK := cb_K h
  have hps := hK.pers
  refine K.of (M := mX11_lending) (lv := [some (.ref (b + 0)), some (.int x), some (.int y), none]) (by decide) (Nat.le_of_ble_eq_true rfl) rfl ?_
  have cut : VV yX11_lending cX11_lending 4 (some .int) 12 Q b ad 35 [some (.ref (b + 0)), some (.int x), some (.int y), some (.ref (b + (97 + 3 * t)))] [.int (bI (inb x (S 0).1 && inb y 4)), .ref (b + 0)] I L R := by
    refine v_iconst (v := nI 1) dX11_lending_35 (by decide) ?_
    refine u_callV_2 dX11_lending_36 ml_X11_68 mv_X11_admit (by first | assumption | rfl | exact led_1 (by assumption) | exact led_2 (by assumption) | exact bk_m (by assumption) (by first | assumption | omega) | exact bk_p (by assumption) (by first | assumption | omega) | exact bk_o (by assumption) (by first | assumption | omega) | exact bk_s (by assumption) (by first | assumption | omega) | exact bk_1 (by assumption) | exact bk_2 (by assumption) | exact bk_3 (by assumption) | exact bk_4 (by assumption) | exact bk_5 (by assumption) | exact bk_6 (by assumption) | exact bk_7 (by assumption) | exact bk_8 (by assumption) | exact sh_ring _ (by first | assumption | omega) | exact sh_imgs _ (by first | assumption | omega)) (by decide) rfl (by decide) (Nat.le_of_ble_eq_true rfl) (c_X11_admit (p := inb x (S 0).1 && inb y 4) (q := true) ?_)
    have h := cb_tr (v := trc (inb x (S 0).1 && inb y 4) true) h (trc_lt _ _).1 (trc_lt _ _).2
    have hF := cb_F h
    have h1 := cb_1 h
    have hL := cb_L h
    refine v_if_ne (tgt := 44) dX11_lending_39 (by decide) (fun hc39 => ?_) (fun hc39 => ?_)
    · (first | rw [bI_0, Bool.not_eq_false] at hc39 | rw [bI_0] at hc39 | rw [show (0 : Int32) = nI 0 from rfl, nI_eq (by omega) (by omega)] at hc39 | skip)
      rw [Bool.and_true] at hc39
      have hA := hc39
      rw [Bool.and_eq_true] at hA
      obtain ⟨hA1, hA2⟩ := hA
      have hn20 := hL.1.2.1
      obtain ⟨z, rfl, hz⟩ := inb_ex (by omega) hA1
      have ez : tN (nI z) = z := tN_nI (by omega)
      obtain ⟨k, rfl, hk⟩ := inb_ex (by omega) hA2
      refine v_iload_2 dX11_lending_44 ?_
      have hk2 : k = 0 ∨ k = 1 ∨ k = 2 ∨ k = 3 := by omega
      rcases hk2 with rfl | rfl | rfl | rfl
      · refine v_tableIn (off := 27) (tgt := 72) dX11_lending_45 (by decide) (by decide) rfl (by decide) ?_
        refine v_aload_3 dX11_lending_72 ?_
        refine v_iload_1 dX11_lending_73 ?_
        refine u_callV_1 dX11_lending_74 ml_X11_293 mv_X2_maskAt (by first | assumption | rfl | exact led_1 (by assumption) | exact led_2 (by assumption) | exact bk_m (by assumption) (by first | assumption | omega) | exact bk_p (by assumption) (by first | assumption | omega) | exact bk_o (by assumption) (by first | assumption | omega) | exact bk_s (by assumption) (by first | assumption | omega) | exact bk_1 (by assumption) | exact bk_2 (by assumption) | exact bk_3 (by assumption) | exact bk_4 (by assumption) | exact bk_5 (by assumption) | exact bk_6 (by assumption) | exact bk_7 (by assumption) | exact bk_8 (by assumption) | exact sh_ring _ (by first | assumption | omega) | exact sh_imgs _ (by first | assumption | omega)) (by decide) rfl (by decide) (Nat.le_of_ble_eq_true rfl) (c_X2_maskAt hR hS (by have := hL.1.2.1; omega) (hL.1.2.2 z hz).1 (hL.1.2.2 z hz).2 ?_)
        refine v_iret dX11_lending_77 rfl rfl rfl rfl ?_
        exact hQ.fin h (hi_ui (by decide)) rfl (by rw [a_lending, if_pos hc39, ez, tN_nI (by omega)] <;> rfl)
      · refine v_tableIn (off := 33) (tgt := 78) dX11_lending_45 (by decide) (by decide) rfl (by decide) ?_
        refine v_aload_3 dX11_lending_78 ?_
        refine v_iload_1 dX11_lending_79 ?_
        refine u_callV_1 dX11_lending_80 ml_X11_296 mv_X2_personAt (by first | assumption | rfl | exact led_1 (by assumption) | exact led_2 (by assumption) | exact bk_m (by assumption) (by first | assumption | omega) | exact bk_p (by assumption) (by first | assumption | omega) | exact bk_o (by assumption) (by first | assumption | omega) | exact bk_s (by assumption) (by first | assumption | omega) | exact bk_1 (by assumption) | exact bk_2 (by assumption) | exact bk_3 (by assumption) | exact bk_4 (by assumption) | exact bk_5 (by assumption) | exact bk_6 (by assumption) | exact bk_7 (by assumption) | exact bk_8 (by assumption) | exact sh_ring _ (by first | assumption | omega) | exact sh_imgs _ (by first | assumption | omega)) (by decide) rfl (by decide) (Nat.le_of_ble_eq_true rfl) (c_X2_personAt hR hS (by have := hL.1.2.1; omega) (hL.1.2.2 z hz).1 (hL.1.2.2 z hz).2 ?_)
        refine v_iret dX11_lending_83 rfl rfl rfl rfl ?_
        exact hQ.fin h (hi_ui (by decide)) rfl (by rw [a_lending, if_pos hc39, ez, tN_nI (by omega)] <;> rfl)
      · refine v_tableIn (off := 39) (tgt := 84) dX11_lending_45 (by decide) (by decide) rfl (by decide) ?_
        refine v_aload_3 dX11_lending_84 ?_
        refine v_iload_1 dX11_lending_85 ?_
        refine u_callV_1 dX11_lending_86 ml_X11_261 mv_X2_firstDay (by first | assumption | rfl | exact led_1 (by assumption) | exact led_2 (by assumption) | exact bk_m (by assumption) (by first | assumption | omega) | exact bk_p (by assumption) (by first | assumption | omega) | exact bk_o (by assumption) (by first | assumption | omega) | exact bk_s (by assumption) (by first | assumption | omega) | exact bk_1 (by assumption) | exact bk_2 (by assumption) | exact bk_3 (by assumption) | exact bk_4 (by assumption) | exact bk_5 (by assumption) | exact bk_6 (by assumption) | exact bk_7 (by assumption) | exact bk_8 (by assumption) | exact sh_ring _ (by first | assumption | omega) | exact sh_imgs _ (by first | assumption | omega)) (by decide) rfl (by decide) (Nat.le_of_ble_eq_true rfl) (c_X2_firstDay hR hS (by have := hL.1.2.1; omega) (hL.1.2.2 z hz).1 (hL.1.2.2 z hz).2 ?_)
        refine v_iret dX11_lending_89 rfl rfl rfl rfl ?_
        exact hQ.fin h (hi_ui (by decide)) rfl (by rw [a_lending, if_pos hc39, ez, tN_nI (by omega)] <;> rfl)
      · refine v_tableOut (tgt := 90) dX11_lending_45 (by decide) (by decide) ?_
        refine v_aload_3 dX11_lending_90 ?_
        refine v_iload_1 dX11_lending_91 ?_
        refine u_callV_1 dX11_lending_92 ml_X11_264 mv_X2_lastDay (by first | assumption | rfl | exact led_1 (by assumption) | exact led_2 (by assumption) | exact bk_m (by assumption) (by first | assumption | omega) | exact bk_p (by assumption) (by first | assumption | omega) | exact bk_o (by assumption) (by first | assumption | omega) | exact bk_s (by assumption) (by first | assumption | omega) | exact bk_1 (by assumption) | exact bk_2 (by assumption) | exact bk_3 (by assumption) | exact bk_4 (by assumption) | exact bk_5 (by assumption) | exact bk_6 (by assumption) | exact bk_7 (by assumption) | exact bk_8 (by assumption) | exact sh_ring _ (by first | assumption | omega) | exact sh_imgs _ (by first | assumption | omega)) (by decide) rfl (by decide) (Nat.le_of_ble_eq_true rfl) (c_X2_lastDay hR hS (by have := hL.1.2.1; omega) (hL.1.2.2 z hz).1 (hL.1.2.2 z hz).2 ?_)
        refine v_iret dX11_lending_95 rfl rfl rfl rfl ?_
        exact hQ.fin h (hi_ui (by decide)) rfl (by rw [a_lending, if_pos hc39, ez, tN_nI (by omega)] <;> rfl)
    · (first | rw [bI_0, Bool.not_eq_false] at hc39 | rw [bI_0] at hc39 | rw [show (0 : Int32) = nI 0 from rfl, nI_eq (by omega) (by omega)] at hc39 | skip)
      refine v_iconst (v := -1) dX11_lending_42 (by decide) ?_
      refine v_iret dX11_lending_43 rfl rfl rfl rfl ?_
      exact hQ.fin h (hi_ui (by decide)) rfl (by rw [Bool.and_true] at hc39; simp only [a_lending, hc39, Bool.false_eq_true, if_false])
  refine v_aload_0 dX11_lending_0 ?_
  refine u_getR dX11_lending_1 gf_X11_46 (by first | assumption | rfl | exact led_1 (by assumption) | exact led_2 (by assumption) | exact bk_m (by assumption) (by first | assumption | omega) | exact bk_p (by assumption) (by first | assumption | omega) | exact bk_o (by assumption) (by first | assumption | omega) | exact bk_s (by assumption) (by first | assumption | omega) | exact bk_1 (by assumption) | exact bk_2 (by assumption) | exact bk_3 (by assumption) | exact bk_4 (by assumption) | exact bk_5 (by assumption) | exact bk_6 (by assumption) | exact bk_7 (by assumption) | exact bk_8 (by assumption) | exact sh_ring _ (by first | assumption | omega) | exact sh_imgs _ (by first | assumption | omega)) (ro_X11_8 (by assumption)) ?_
  refine u_callV_0 dX11_lending_4 ml_X11_113 mv_X1_now (by first | assumption | rfl | exact led_1 (by assumption) | exact led_2 (by assumption) | exact bk_m (by assumption) (by first | assumption | omega) | exact bk_p (by assumption) (by first | assumption | omega) | exact bk_o (by assumption) (by first | assumption | omega) | exact bk_s (by assumption) (by first | assumption | omega) | exact bk_1 (by assumption) | exact bk_2 (by assumption) | exact bk_3 (by assumption) | exact bk_4 (by assumption) | exact bk_5 (by assumption) | exact bk_6 (by assumption) | exact bk_7 (by assumption) | exact bk_8 (by assumption) | exact sh_ring _ (by first | assumption | omega) | exact sh_imgs _ (by first | assumption | omega)) (by decide) rfl (by decide) (Nat.le_of_ble_eq_true rfl) (c_X1_now hR h1 ht ?_)
  refine v_astore_3 rfl dX11_lending_7 ?_
  refine v_aload_0 dX11_lending_8 ?_
  refine v_iload_1 dX11_lending_9 ?_
  refine v_if_lt (tgt := 34) dX11_lending_10 (by decide) (fun hc10 => ?_) (fun hc10 => ?_)
  · (first | rw [show (0 : Int32) = nI 0 from rfl, nI_ltI (by omega) (by omega)] at hc10 | rw [show (0 : Int32) = nI 0 from rfl, nI_leI (by omega) (by omega)] at hc10 | skip)
    refine v_iconst (v := nI 0) dX11_lending_34 (by decide) ?_
    have e : (inb x (S 0).1 && inb y 4) = false := by
      rw [inb4]
      simp only [hc10, inb, dle_f, dle_t, dlt_f, dlt_t, not_false_eq_true, Bool.and_true, Bool.and_false, Bool.true_and, Bool.false_and]
    rw [e] at cut
    exact cut
  · (first | rw [show (0 : Int32) = nI 0 from rfl, nI_ltI (by omega) (by omega)] at hc10 | rw [show (0 : Int32) = nI 0 from rfl, nI_leI (by omega) (by omega)] at hc10 | skip)
    refine v_iload_1 dX11_lending_13 ?_
    refine v_aload_3 dX11_lending_14 ?_
    refine u_getI dX11_lending_15 gf_X11_290 (by first | assumption | rfl | exact led_1 (by assumption) | exact led_2 (by assumption) | exact bk_m (by assumption) (by first | assumption | omega) | exact bk_p (by assumption) (by first | assumption | omega) | exact bk_o (by assumption) (by first | assumption | omega) | exact bk_s (by assumption) (by first | assumption | omega) | exact bk_1 (by assumption) | exact bk_2 (by assumption) | exact bk_3 (by assumption) | exact bk_4 (by assumption) | exact bk_5 (by assumption) | exact bk_6 (by assumption) | exact bk_7 (by assumption) | exact bk_8 (by assumption) | exact sh_ring _ (by first | assumption | omega) | exact sh_imgs _ (by first | assumption | omega)) ?_
    rw [hL.1.1]
    refine v_icmp_ge (tgt := 34) dX11_lending_18 (by decide) (fun hc18 => ?_) (fun hc18 => ?_)
    · (try rw [nI_leI (by omega) (by omega)] at hc18)
      refine v_iconst (v := nI 0) dX11_lending_34 (by decide) ?_
      have e : (inb x (S 0).1 && inb y 4) = false := by
        rw [inb4]
        simp only [hc10, hc18, inb, dle_f, dle_t, dlt_f, dlt_t, not_false_eq_true, Bool.and_true, Bool.and_false, Bool.true_and, Bool.false_and]
      rw [e] at cut
      exact cut
    · (try rw [nI_leI (by omega) (by omega)] at hc18)
      refine v_iload_2 dX11_lending_21 ?_
      refine v_if_lt (tgt := 34) dX11_lending_22 (by decide) (fun hc22 => ?_) (fun hc22 => ?_)
      · (first | rw [show (0 : Int32) = nI 0 from rfl, nI_ltI (by omega) (by omega)] at hc22 | rw [show (0 : Int32) = nI 0 from rfl, nI_leI (by omega) (by omega)] at hc22 | skip)
        refine v_iconst (v := nI 0) dX11_lending_34 (by decide) ?_
        have e : (inb x (S 0).1 && inb y 4) = false := by
          rw [inb4]
          simp only [hc10, hc18, hc22, inb, dle_f, dle_t, dlt_f, dlt_t, not_false_eq_true, Bool.and_true, Bool.and_false, Bool.true_and, Bool.false_and]
        rw [e] at cut
        exact cut
      · (first | rw [show (0 : Int32) = nI 0 from rfl, nI_ltI (by omega) (by omega)] at hc22 | rw [show (0 : Int32) = nI 0 from rfl, nI_leI (by omega) (by omega)] at hc22 | skip)
        refine v_iload_2 dX11_lending_25 ?_
        refine v_iconst (v := nI 3) dX11_lending_26 (by decide) ?_
        refine v_icmp_gt (tgt := 34) dX11_lending_27 (by decide) (fun hc27 => ?_) (fun hc27 => ?_)
        · (try rw [nI_ltI (by omega) (by omega)] at hc27)
          refine v_iconst (v := nI 0) dX11_lending_34 (by decide) ?_
          have e : (inb x (S 0).1 && inb y 4) = false := by
            rw [inb4]
            simp only [hc10, hc18, hc22, hc27, inb, dle_f, dle_t, dlt_f, dlt_t, not_false_eq_true, Bool.and_true, Bool.and_false, Bool.true_and, Bool.false_and]
          rw [e] at cut
          exact cut
        · (try rw [nI_ltI (by omega) (by omega)] at hc27)
          refine v_iconst (v := nI 1) dX11_lending_30 (by decide) ?_
          refine v_goto (tgt := 35) dX11_lending_31 (by decide) ?_
          have e : (inb x (S 0).1 && inb y 4) = true := by
            rw [inb4]
            simp only [hc10, hc18, hc22, hc27, inb, dle_f, dle_t, dlt_f, dlt_t, not_false_eq_true, Bool.and_true, Bool.and_false, Bool.true_and, Bool.false_and]
          rw [e] at cut
          exact cut
theorem c_X11_person {x y : Int32} (h : ClsB I L R B B2 t tp nt tr fa pl F S u r im ic) (hQ : XQ I L R tp nt (t_person F (S 0) x y) fa pl F S u r im ic (a_person F (S 0) x y) Q) : KK 12 mX11_person b ad [.ref (b + 0), .int x, .int y] I L R Q := by
  have hR := cb_R h
  have hb := cb_b h
  have hB := cb_B h
  have hF := cb_F h
  have hO := cb_O h
  have o0 := hO.1
  have o1 := hO.2.1
  have o2 := hO.2.2.1
  have o3 := hO.2.2.2.1
  have o4 := hO.2.2.2.2.1
  have o5 := hO.2.2.2.2.2.1
  have o6 := hO.2.2.2.2.2.2.1
  have h1 := cb_1 h
  have ht := cb_t h
  have hS := sh_ring t ht
  have hL := cb_L h
  have hK := cb_K h
  have hps := hK.pers
  refine K.of (M := mX11_person) (lv := [some (.ref (b + 0)), some (.int x), some (.int y), none]) (by decide) (Nat.le_of_ble_eq_true rfl) rfl ?_
  have cut : VV yX11_person cX11_person 4 (some .int) 12 Q b ad 26 [some (.ref (b + 0)), some (.int x), some (.int y), none] [.int (bI (inb x (F 3) && inb y 5)), .ref (b + 0)] I L R := by
    refine v_iconst (v := nI 1) dX11_person_26 (by decide) ?_
    refine u_callV_2 dX11_person_27 ml_X11_68 mv_X11_admit (by first | assumption | rfl | exact led_1 (by assumption) | exact led_2 (by assumption) | exact bk_m (by assumption) (by first | assumption | omega) | exact bk_p (by assumption) (by first | assumption | omega) | exact bk_o (by assumption) (by first | assumption | omega) | exact bk_s (by assumption) (by first | assumption | omega) | exact bk_1 (by assumption) | exact bk_2 (by assumption) | exact bk_3 (by assumption) | exact bk_4 (by assumption) | exact bk_5 (by assumption) | exact bk_6 (by assumption) | exact bk_7 (by assumption) | exact bk_8 (by assumption) | exact sh_ring _ (by first | assumption | omega) | exact sh_imgs _ (by first | assumption | omega)) (by decide) rfl (by decide) (Nat.le_of_ble_eq_true rfl) (c_X11_admit (p := inb x (F 3) && inb y 5) (q := true) ?_)
    have h := cb_tr (v := trc (inb x (F 3) && inb y 5) true) h (trc_lt _ _).1 (trc_lt _ _).2
    have hF := cb_F h
    have h1 := cb_1 h
    have hL := cb_L h
    refine v_if_ne (tgt := 35) dX11_person_30 (by decide) (fun hc30 => ?_) (fun hc30 => ?_)
    · (first | rw [bI_0, Bool.not_eq_false] at hc30 | rw [bI_0] at hc30 | rw [show (0 : Int32) = nI 0 from rfl, nI_eq (by omega) (by omega)] at hc30 | skip)
      rw [Bool.and_true] at hc30
      have hA := hc30
      rw [Bool.and_eq_true] at hA
      obtain ⟨hA1, hA2⟩ := hA
      obtain ⟨z, rfl, hz⟩ := inb_ex (by omega) hA1
      have ez : tN (nI z) = z := tN_nI (by omega)
      have hz2 := (fk_p hO hz)
      obtain ⟨k, rfl, hk⟩ := inb_ex (by omega) hA2
      refine v_aload_0 dX11_person_35 ?_
      refine u_getR dX11_person_36 gf_X11_29 (by first | assumption | rfl | exact led_1 (by assumption) | exact led_2 (by assumption) | exact bk_m (by assumption) (by first | assumption | omega) | exact bk_p (by assumption) (by first | assumption | omega) | exact bk_o (by assumption) (by first | assumption | omega) | exact bk_s (by assumption) (by first | assumption | omega) | exact bk_1 (by assumption) | exact bk_2 (by assumption) | exact bk_3 (by assumption) | exact bk_4 (by assumption) | exact bk_5 (by assumption) | exact bk_6 (by assumption) | exact bk_7 (by assumption) | exact bk_8 (by assumption) | exact sh_ring _ (by first | assumption | omega) | exact sh_imgs _ (by first | assumption | omega)) (by assumption) ?_
      refine u_getR dX11_person_39 gf_X11_218 (by first | assumption | rfl | exact led_1 (by assumption) | exact led_2 (by assumption) | exact bk_m (by assumption) (by first | assumption | omega) | exact bk_p (by assumption) (by first | assumption | omega) | exact bk_o (by assumption) (by first | assumption | omega) | exact bk_s (by assumption) (by first | assumption | omega) | exact bk_1 (by assumption) | exact bk_2 (by assumption) | exact bk_3 (by assumption) | exact bk_4 (by assumption) | exact bk_5 (by assumption) | exact bk_6 (by assumption) | exact bk_7 (by assumption) | exact bk_8 (by assumption) | exact sh_ring _ (by first | assumption | omega) | exact sh_imgs _ (by first | assumption | omega)) (ro_X0_8 (by assumption) (by assumption)) ?_
      refine v_iload_1 dX11_person_42 ?_
      refine u_aald dX11_person_43 (by first | assumption | rfl | exact led_1 (by assumption) | exact led_2 (by assumption) | exact bk_m (by assumption) (by first | assumption | omega) | exact bk_p (by assumption) (by first | assumption | omega) | exact bk_o (by assumption) (by first | assumption | omega) | exact bk_s (by assumption) (by first | assumption | omega) | exact bk_1 (by assumption) | exact bk_2 (by assumption) | exact bk_3 (by assumption) | exact bk_4 (by assumption) | exact bk_5 (by assumption) | exact bk_6 (by assumption) | exact bk_7 (by assumption) | exact bk_8 (by assumption) | exact sh_ring _ (by first | assumption | omega) | exact sh_imgs _ (by first | assumption | omega)) (by decide) (by decide) rfl (by first | with_reducible rfl | (simp only [nlit, nI_add, pk_mul]; with_reducible rfl) | rfl) (by first | assumption | omega) (by decide) (by first | exact ro_m (by assumption) (by assumption) (by first | assumption | omega) | exact ro_p (by assumption) (by assumption) (by first | assumption | omega) | exact ro_o (by assumption) (by assumption) (by first | assumption | omega) | exact ro_s (by assumption) (by assumption) (by first | assumption | omega) | exact ro_ring (by assumption) (by first | assumption | omega) | exact ro_imgs (by assumption) (by first | assumption | omega)) ?_
      refine v_astore_3 rfl dX11_person_44 ?_
      refine v_iload_2 dX11_person_45 ?_
      have hk2 : k = 0 ∨ k = 1 ∨ k = 2 ∨ k = 3 ∨ k = 4 := by omega
      rcases hk2 with rfl | rfl | rfl | rfl | rfl
      · refine v_tableIn (off := 30) (tgt := 76) dX11_person_46 (by decide) (by decide) rfl (by decide) ?_
        refine v_aload_3 dX11_person_76 ?_
        refine u_getI dX11_person_77 gf_X11_311 (by first | assumption | rfl | exact led_1 (by assumption) | exact led_2 (by assumption) | exact bk_m (by assumption) (by first | assumption | omega) | exact bk_p (by assumption) (by first | assumption | omega) | exact bk_o (by assumption) (by first | assumption | omega) | exact bk_s (by assumption) (by first | assumption | omega) | exact bk_1 (by assumption) | exact bk_2 (by assumption) | exact bk_3 (by assumption) | exact bk_4 (by assumption) | exact bk_5 (by assumption) | exact bk_6 (by assumption) | exact bk_7 (by assumption) | exact bk_8 (by assumption) | exact sh_ring _ (by first | assumption | omega) | exact sh_imgs _ (by first | assumption | omega)) ?_
        (first | (rw [bp0 hF]; rotate_left; (first | assumption | omega)) | skip)
        refine v_iret dX11_person_80 rfl rfl rfl rfl ?_
        exact hQ.fin h (hi_ui (by decide)) rfl (by rw [a_person, if_pos hc30, ez, tN_nI (by omega)] <;> rfl)
      · refine v_tableIn (off := 35) (tgt := 81) dX11_person_46 (by decide) (by decide) rfl (by decide) ?_
        refine v_aload_3 dX11_person_81 ?_
        refine u_getI dX11_person_82 gf_X11_314 (by first | assumption | rfl | exact led_1 (by assumption) | exact led_2 (by assumption) | exact bk_m (by assumption) (by first | assumption | omega) | exact bk_p (by assumption) (by first | assumption | omega) | exact bk_o (by assumption) (by first | assumption | omega) | exact bk_s (by assumption) (by first | assumption | omega) | exact bk_1 (by assumption) | exact bk_2 (by assumption) | exact bk_3 (by assumption) | exact bk_4 (by assumption) | exact bk_5 (by assumption) | exact bk_6 (by assumption) | exact bk_7 (by assumption) | exact bk_8 (by assumption) | exact sh_ring _ (by first | assumption | omega) | exact sh_imgs _ (by first | assumption | omega)) ?_
        (first | (rw [bp1 hF]; rotate_left; (first | assumption | omega)) | skip)
        refine v_iret dX11_person_85 rfl rfl rfl rfl ?_
        exact hQ.fin h (hi_ui (by decide)) rfl (by rw [a_person, if_pos hc30, ez, tN_nI (by omega)] <;> rfl)
      · refine v_tableIn (off := 40) (tgt := 86) dX11_person_46 (by decide) (by decide) rfl (by decide) ?_
        refine v_aload_3 dX11_person_86 ?_
        refine u_getI dX11_person_87 gf_X11_317 (by first | assumption | rfl | exact led_1 (by assumption) | exact led_2 (by assumption) | exact bk_m (by assumption) (by first | assumption | omega) | exact bk_p (by assumption) (by first | assumption | omega) | exact bk_o (by assumption) (by first | assumption | omega) | exact bk_s (by assumption) (by first | assumption | omega) | exact bk_1 (by assumption) | exact bk_2 (by assumption) | exact bk_3 (by assumption) | exact bk_4 (by assumption) | exact bk_5 (by assumption) | exact bk_6 (by assumption) | exact bk_7 (by assumption) | exact bk_8 (by assumption) | exact sh_ring _ (by first | assumption | omega) | exact sh_imgs _ (by first | assumption | omega)) ?_
        (first | (rw [bp2 hF]; rotate_left; (first | assumption | omega)) | skip)
        rw [nI_b (show F (38 + z) < 2 from hz2.2.2.1)]
        refine u_callS_1 dX11_person_90 ml_X11_106 ms_X11_asNumber (by decide) (Nat.le_of_ble_eq_true rfl) (c_X11_asNumber ?_)
        refine v_iret dX11_person_93 rfl rfl rfl rfl ?_
        exact hQ.fin h (hi_ui (by decide)) rfl (by rw [a_person, if_pos hc30, ez, tN_nI (by omega), ← nI_b (show F (38 + z) < 2 from hz2.2.2.1)]) 
      · refine v_tableIn (off := 48) (tgt := 94) dX11_person_46 (by decide) (by decide) rfl (by decide) ?_
        refine v_aload_3 dX11_person_94 ?_
        refine u_getI dX11_person_95 gf_X11_321 (by first | assumption | rfl | exact led_1 (by assumption) | exact led_2 (by assumption) | exact bk_m (by assumption) (by first | assumption | omega) | exact bk_p (by assumption) (by first | assumption | omega) | exact bk_o (by assumption) (by first | assumption | omega) | exact bk_s (by assumption) (by first | assumption | omega) | exact bk_1 (by assumption) | exact bk_2 (by assumption) | exact bk_3 (by assumption) | exact bk_4 (by assumption) | exact bk_5 (by assumption) | exact bk_6 (by assumption) | exact bk_7 (by assumption) | exact bk_8 (by assumption) | exact sh_ring _ (by first | assumption | omega) | exact sh_imgs _ (by first | assumption | omega)) ?_
        (first | (rw [bp3 hF]; rotate_left; (first | assumption | omega)) | skip)
        refine v_iret dX11_person_98 rfl rfl rfl rfl ?_
        exact hQ.fin h (hi_ui (by decide)) rfl (by rw [a_person, if_pos hc30, ez, tN_nI (by omega)] <;> rfl)
      · refine v_tableOut (tgt := 99) dX11_person_46 (by decide) (by decide) ?_
        refine v_aload_3 dX11_person_99 ?_
        refine u_getI dX11_person_100 gf_X11_324 (by first | assumption | rfl | exact led_1 (by assumption) | exact led_2 (by assumption) | exact bk_m (by assumption) (by first | assumption | omega) | exact bk_p (by assumption) (by first | assumption | omega) | exact bk_o (by assumption) (by first | assumption | omega) | exact bk_s (by assumption) (by first | assumption | omega) | exact bk_1 (by assumption) | exact bk_2 (by assumption) | exact bk_3 (by assumption) | exact bk_4 (by assumption) | exact bk_5 (by assumption) | exact bk_6 (by assumption) | exact bk_7 (by assumption) | exact bk_8 (by assumption) | exact sh_ring _ (by first | assumption | omega) | exact sh_imgs _ (by first | assumption | omega)) ?_
        (first | (rw [bp4 hF]; rotate_left; (first | assumption | omega)) | skip)
        refine v_iret dX11_person_103 rfl rfl rfl rfl ?_
        exact hQ.fin h (hi_ui (by decide)) rfl (by rw [a_person, if_pos hc30, ez, tN_nI (by omega)] <;> rfl)
    · (first | rw [bI_0, Bool.not_eq_false] at hc30 | rw [bI_0] at hc30 | rw [show (0 : Int32) = nI 0 from rfl, nI_eq (by omega) (by omega)] at hc30 | skip)
      refine v_iconst (v := -1) dX11_person_33 (by decide) ?_
      refine v_iret dX11_person_34 rfl rfl rfl rfl ?_
      exact hQ.fin h (hi_ui (by decide)) rfl (by rw [Bool.and_true] at hc30; simp only [a_person, hc30, Bool.false_eq_true, if_false])
  refine v_aload_0 dX11_person_0 ?_
  refine v_aload_0 dX11_person_1 ?_
  refine u_getR dX11_person_2 gf_X11_29 (by first | assumption | rfl | exact led_1 (by assumption) | exact led_2 (by assumption) | exact bk_m (by assumption) (by first | assumption | omega) | exact bk_p (by assumption) (by first | assumption | omega) | exact bk_o (by assumption) (by first | assumption | omega) | exact bk_s (by assumption) (by first | assumption | omega) | exact bk_1 (by assumption) | exact bk_2 (by assumption) | exact bk_3 (by assumption) | exact bk_4 (by assumption) | exact bk_5 (by assumption) | exact bk_6 (by assumption) | exact bk_7 (by assumption) | exact bk_8 (by assumption) | exact sh_ring _ (by first | assumption | omega) | exact sh_imgs _ (by first | assumption | omega)) (by assumption) ?_
  refine v_iload_1 dX11_person_5 ?_
  refine u_callV_1 dX11_person_6 ml_X11_99 mv_X0_hasPerson (by first | assumption | rfl | exact led_1 (by assumption) | exact led_2 (by assumption) | exact bk_m (by assumption) (by first | assumption | omega) | exact bk_p (by assumption) (by first | assumption | omega) | exact bk_o (by assumption) (by first | assumption | omega) | exact bk_s (by assumption) (by first | assumption | omega) | exact bk_1 (by assumption) | exact bk_2 (by assumption) | exact bk_3 (by assumption) | exact bk_4 (by assumption) | exact bk_5 (by assumption) | exact bk_6 (by assumption) | exact bk_7 (by assumption) | exact bk_8 (by assumption) | exact sh_ring _ (by first | assumption | omega) | exact sh_imgs _ (by first | assumption | omega)) (by decide) rfl (by decide) (Nat.le_of_ble_eq_true rfl) (c_X0_hasPerson hB hF ?_)
  refine v_if_eq (tgt := 25) dX11_person_9 (by decide) (fun hc9 => ?_) (fun hc9 => ?_)
  · (first | rw [bI_0, Bool.not_eq_false] at hc9 | rw [bI_0] at hc9 | rw [show (0 : Int32) = nI 0 from rfl, nI_eq (by omega) (by omega)] at hc9 | skip)
    refine v_iconst (v := nI 0) dX11_person_25 (by decide) ?_
    have e : (inb x (F 3) && inb y 5) = false := by
      rw [inb5]
      simp only [hc9, dle_f, dle_t, dlt_f, dlt_t, not_false_eq_true, Bool.and_true, Bool.and_false, Bool.true_and, Bool.false_and]
    rw [e] at cut
    exact cut
  · (first | rw [bI_0, Bool.not_eq_false] at hc9 | rw [bI_0] at hc9 | rw [show (0 : Int32) = nI 0 from rfl, nI_eq (by omega) (by omega)] at hc9 | skip)
    refine v_iload_2 dX11_person_12 ?_
    refine v_if_lt (tgt := 25) dX11_person_13 (by decide) (fun hc13 => ?_) (fun hc13 => ?_)
    · (first | rw [show (0 : Int32) = nI 0 from rfl, nI_ltI (by omega) (by omega)] at hc13 | rw [show (0 : Int32) = nI 0 from rfl, nI_leI (by omega) (by omega)] at hc13 | skip)
      refine v_iconst (v := nI 0) dX11_person_25 (by decide) ?_
      have e : (inb x (F 3) && inb y 5) = false := by
        rw [inb5]
        simp only [hc9, hc13, dle_f, dle_t, dlt_f, dlt_t, not_false_eq_true, Bool.and_true, Bool.and_false, Bool.true_and, Bool.false_and]
      rw [e] at cut
      exact cut
    · (first | rw [show (0 : Int32) = nI 0 from rfl, nI_ltI (by omega) (by omega)] at hc13 | rw [show (0 : Int32) = nI 0 from rfl, nI_leI (by omega) (by omega)] at hc13 | skip)
      refine v_iload_2 dX11_person_16 ?_
      refine v_iconst (v := nI 4) dX11_person_17 (by decide) ?_
      refine v_icmp_gt (tgt := 25) dX11_person_18 (by decide) (fun hc18 => ?_) (fun hc18 => ?_)
      · (try rw [nI_ltI (by omega) (by omega)] at hc18)
        refine v_iconst (v := nI 0) dX11_person_25 (by decide) ?_
        have e : (inb x (F 3) && inb y 5) = false := by
          rw [inb5]
          simp only [hc9, hc13, hc18, dle_f, dle_t, dlt_f, dlt_t, not_false_eq_true, Bool.and_true, Bool.and_false, Bool.true_and, Bool.false_and]
        rw [e] at cut
        exact cut
      · (try rw [nI_ltI (by omega) (by omega)] at hc18)
        refine v_iconst (v := nI 1) dX11_person_21 (by decide) ?_
        refine v_goto (tgt := 26) dX11_person_22 (by decide) ?_
        have e : (inb x (F 3) && inb y 5) = true := by
          rw [inb5]
          simp only [hc9, hc13, hc18, dle_f, dle_t, dlt_f, dlt_t, not_false_eq_true, Bool.and_true, Bool.and_false, Bool.true_and, Bool.false_and]
        rw [e] at cut
        exact cut
end
