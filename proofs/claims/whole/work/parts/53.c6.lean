section
variable {b : Nat} {ad : Nat → Nat} {I : HI} {L : HL} {R : HR} {Q : QT} {B B2 t : Nat} {tp : Nat → Nat} {nt tr fa pl : Nat} {F : bkF} {S : Nat → LSt} {u r : Nat} {im : Nat → LSt} {ic : Nat}
def a_wearers (F : bkF) (s : LSt) (x : Int32) : Int32 := if ((decide (0 < F 0)) && ind x (F 0)) = true then nI (allT F s (tN x)) else -1
def t_wearers (F : bkF) (s : LSt) (x : Int32) : Nat := trc (decide (0 < F 0)) (ind x (F 0))
theorem c_X11_wearers {x : Int32} (h : ClsB I L R B B2 t tp nt tr fa pl F S u r im ic) (hQ : XQ I L R tp nt (t_wearers F (S 0) x) fa pl F S u r im ic (a_wearers F (S 0) x) Q) : KK 12 mX11_wearers b ad [.ref (b + 0), .int x] I L R Q := by
  have hR := cb_R h
  have hb := cb_b h
  have hB := cb_B h
  have hF := cb_F h
  have hO := cb_O h
  have o0 := hO.1
  have o1 := hO.2.1
  have o2 := hO.2.2.1
  have o3 := hO.2.2.2.1
  have o4 := hO.2.2.2.2.1
  have o5 := hO.2.2.2.2.2.1
  have o6 := hO.2.2.2.2.2.2.1
  have h1 := cb_1 h
  have ht := cb_t h
  have hS := sh_ring t ht
  have hL := cb_L h
  have hK := cb_K h
  have hps := hK.pers
  refine K.of (M := mX11_wearers) (lv := [some (.ref (b + 0)), some (.int x)]) (by decide) (Nat.le_of_ble_eq_true rfl) rfl ?_
  refine v_aload_0 dX11_wearers_0 ?_
  refine v_aload_0 dX11_wearers_1 ?_
  refine u_getR dX11_wearers_2 gf_X11_29 (by first | assumption | rfl | exact led_1 (by assumption) | exact led_2 (by assumption) | exact bk_m (by assumption) (by first | assumption | omega) | exact bk_p (by assumption) (by first | assumption | omega) | exact bk_o (by assumption) (by first | assumption | omega) | exact bk_s (by assumption) (by first | assumption | omega) | exact bk_1 (by assumption) | exact bk_2 (by assumption) | exact bk_3 (by assumption) | exact bk_4 (by assumption) | exact bk_5 (by assumption) | exact bk_6 (by assumption) | exact bk_7 (by assumption) | exact bk_8 (by assumption) | exact sh_ring _ (by first | assumption | omega) | exact sh_imgs _ (by first | assumption | omega)) (by assumption) ?_
  refine u_callV_0 dX11_wearers_5 ml_X11_150 mv_X0_isTold (by first | assumption | rfl | exact led_1 (by assumption) | exact led_2 (by assumption) | exact bk_m (by assumption) (by first | assumption | omega) | exact bk_p (by assumption) (by first | assumption | omega) | exact bk_o (by assumption) (by first | assumption | omega) | exact bk_s (by assumption) (by first | assumption | omega) | exact bk_1 (by assumption) | exact bk_2 (by assumption) | exact bk_3 (by assumption) | exact bk_4 (by assumption) | exact bk_5 (by assumption) | exact bk_6 (by assumption) | exact bk_7 (by assumption) | exact bk_8 (by assumption) | exact sh_ring _ (by first | assumption | omega) | exact sh_imgs _ (by first | assumption | omega)) (by decide) rfl (by decide) (Nat.le_of_ble_eq_true rfl) (c_X0_isTold hB hF hO ?_)
  refine v_aload_0 dX11_wearers_8 ?_
  refine u_getR dX11_wearers_9 gf_X11_29 (by first | assumption | rfl | exact led_1 (by assumption) | exact led_2 (by assumption) | exact bk_m (by assumption) (by first | assumption | omega) | exact bk_p (by assumption) (by first | assumption | omega) | exact bk_o (by assumption) (by first | assumption | omega) | exact bk_s (by assumption) (by first | assumption | omega) | exact bk_1 (by assumption) | exact bk_2 (by assumption) | exact bk_3 (by assumption) | exact bk_4 (by assumption) | exact bk_5 (by assumption) | exact bk_6 (by assumption) | exact bk_7 (by assumption) | exact bk_8 (by assumption) | exact sh_ring _ (by first | assumption | omega) | exact sh_imgs _ (by first | assumption | omega)) (by assumption) ?_
  refine v_iload_1 dX11_wearers_12 ?_
  refine u_callV_1 dX11_wearers_13 ml_X11_110 mv_X0_hasDay (by first | assumption | rfl | exact led_1 (by assumption) | exact led_2 (by assumption) | exact bk_m (by assumption) (by first | assumption | omega) | exact bk_p (by assumption) (by first | assumption | omega) | exact bk_o (by assumption) (by first | assumption | omega) | exact bk_s (by assumption) (by first | assumption | omega) | exact bk_1 (by assumption) | exact bk_2 (by assumption) | exact bk_3 (by assumption) | exact bk_4 (by assumption) | exact bk_5 (by assumption) | exact bk_6 (by assumption) | exact bk_7 (by assumption) | exact bk_8 (by assumption) | exact sh_ring _ (by first | assumption | omega) | exact sh_imgs _ (by first | assumption | omega)) (by decide) rfl (by decide) (Nat.le_of_ble_eq_true rfl) (c_X0_hasDay hB hF ?_)
  refine u_callV_2 dX11_wearers_16 ml_X11_68 mv_X11_admit (by first | assumption | rfl | exact led_1 (by assumption) | exact led_2 (by assumption) | exact bk_m (by assumption) (by first | assumption | omega) | exact bk_p (by assumption) (by first | assumption | omega) | exact bk_o (by assumption) (by first | assumption | omega) | exact bk_s (by assumption) (by first | assumption | omega) | exact bk_1 (by assumption) | exact bk_2 (by assumption) | exact bk_3 (by assumption) | exact bk_4 (by assumption) | exact bk_5 (by assumption) | exact bk_6 (by assumption) | exact bk_7 (by assumption) | exact bk_8 (by assumption) | exact sh_ring _ (by first | assumption | omega) | exact sh_imgs _ (by first | assumption | omega)) (by decide) rfl (by decide) (Nat.le_of_ble_eq_true rfl) (c_X11_admit (p := decide (0 < F 0)) (q := ind x (F 0)) ?_)
  have hh : Hi I (ui I 0 2 (nI (trc (decide (0 < F 0)) (ind x (F 0))))) L L R R := hi_ui (by decide)
  have h := cb_tr (v := trc (decide (0 < F 0)) (ind x (F 0))) h (trc_lt _ _).1 (trc_lt _ _).2
  have hF := cb_F h
  have h1 := cb_1 h
  have hL := cb_L h
  refine v_if_ne (tgt := 24) dX11_wearers_19 (by decide) (fun hc19 => ?_) (fun hc19 => ?_)
  · (first | rw [bI_0, Bool.not_eq_false] at hc19 | rw [bI_0] at hc19 | rw [show (0 : Int32) = nI 0 from rfl, nI_eq (by omega) (by omega)] at hc19 | skip)
    have hA := hc19
    rw [Bool.and_eq_true] at hA
    obtain ⟨hA1, hA2⟩ := hA
    obtain ⟨d, rfl, hd1, hd⟩ := ind_ex (by omega) hA2
    have ed : tN (nI d) = d := tN_nI (by omega)
    refine v_aload_0 dX11_wearers_24 ?_
    refine u_getR dX11_wearers_25 gf_X11_60 (by first | assumption | rfl | exact led_1 (by assumption) | exact led_2 (by assumption) | exact bk_m (by assumption) (by first | assumption | omega) | exact bk_p (by assumption) (by first | assumption | omega) | exact bk_o (by assumption) (by first | assumption | omega) | exact bk_s (by assumption) (by first | assumption | omega) | exact bk_1 (by assumption) | exact bk_2 (by assumption) | exact bk_3 (by assumption) | exact bk_4 (by assumption) | exact bk_5 (by assumption) | exact bk_6 (by assumption) | exact bk_7 (by assumption) | exact bk_8 (by assumption) | exact sh_ring _ (by first | assumption | omega) | exact sh_imgs _ (by first | assumption | omega)) (ro_X11_10 (by assumption)) ?_
    refine v_aload_0 dX11_wearers_28 ?_
    refine u_getR dX11_wearers_29 gf_X11_29 (by first | assumption | rfl | exact led_1 (by assumption) | exact led_2 (by assumption) | exact bk_m (by assumption) (by first | assumption | omega) | exact bk_p (by assumption) (by first | assumption | omega) | exact bk_o (by assumption) (by first | assumption | omega) | exact bk_s (by assumption) (by first | assumption | omega) | exact bk_1 (by assumption) | exact bk_2 (by assumption) | exact bk_3 (by assumption) | exact bk_4 (by assumption) | exact bk_5 (by assumption) | exact bk_6 (by assumption) | exact bk_7 (by assumption) | exact bk_8 (by assumption) | exact sh_ring _ (by first | assumption | omega) | exact sh_imgs _ (by first | assumption | omega)) (by assumption) ?_
    refine v_aload_0 dX11_wearers_32 ?_
    refine u_getR dX11_wearers_33 gf_X11_46 (by first | assumption | rfl | exact led_1 (by assumption) | exact led_2 (by assumption) | exact bk_m (by assumption) (by first | assumption | omega) | exact bk_p (by assumption) (by first | assumption | omega) | exact bk_o (by assumption) (by first | assumption | omega) | exact bk_s (by assumption) (by first | assumption | omega) | exact bk_1 (by assumption) | exact bk_2 (by assumption) | exact bk_3 (by assumption) | exact bk_4 (by assumption) | exact bk_5 (by assumption) | exact bk_6 (by assumption) | exact bk_7 (by assumption) | exact bk_8 (by assumption) | exact sh_ring _ (by first | assumption | omega) | exact sh_imgs _ (by first | assumption | omega)) (ro_X11_8 (by assumption)) ?_
    refine u_callV_0 dX11_wearers_36 ml_X11_113 mv_X1_now (by first | assumption | rfl | exact led_1 (by assumption) | exact led_2 (by assumption) | exact bk_m (by assumption) (by first | assumption | omega) | exact bk_p (by assumption) (by first | assumption | omega) | exact bk_o (by assumption) (by first | assumption | omega) | exact bk_s (by assumption) (by first | assumption | omega) | exact bk_1 (by assumption) | exact bk_2 (by assumption) | exact bk_3 (by assumption) | exact bk_4 (by assumption) | exact bk_5 (by assumption) | exact bk_6 (by assumption) | exact bk_7 (by assumption) | exact bk_8 (by assumption) | exact sh_ring _ (by first | assumption | omega) | exact sh_imgs _ (by first | assumption | omega)) (by decide) rfl (by decide) (Nat.le_of_ble_eq_true rfl) (c_X1_now hR h1 ht ?_)
    refine v_iload_1 dX11_wearers_39 ?_
    refine u_callV_3 dX11_wearers_40 ml_X11_186 mv_X10_look (by first | assumption | rfl | exact led_1 (by assumption) | exact led_2 (by assumption) | exact bk_m (by assumption) (by first | assumption | omega) | exact bk_p (by assumption) (by first | assumption | omega) | exact bk_o (by assumption) (by first | assumption | omega) | exact bk_s (by assumption) (by first | assumption | omega) | exact bk_1 (by assumption) | exact bk_2 (by assumption) | exact bk_3 (by assumption) | exact bk_4 (by assumption) | exact bk_5 (by assumption) | exact bk_6 (by assumption) | exact bk_7 (by assumption) | exact bk_8 (by assumption) | exact sh_ring _ (by first | assumption | omega) | exact sh_imgs _ (by first | assumption | omega)) (by decide) rfl (by decide) (Nat.le_of_ble_eq_true rfl) (c_X10_look hR hB hF hO hS (fun x hx => by omega) hL.1 hps (by omega) (fun J hN hf1 hW hJ hJ2 => ?_))
    obtain ⟨z0, hz0, hz1, hz2⟩ := fls_some hO hK d
    have hwc : WcI J (F 2) (pgT F (S 0) d) (cdT F (S 0) d) := by
      have q := hW z0 hz0
      unfold pgT cdT tru; rw [hz0]; exact q
    have hh := hh.trans (fun a ha => ⟨hJ a (by omega) (by omega) (by omega) (by omega) (by omega) (by omega), rfl, ur_ne (by omega)⟩ : Hi _ J L L R (ur R 150 0 (some B)))
    have h := cb_q h (fun x hx => hJ x (by omega) (by omega) (by omega) (by omega) (by omega) (by omega)) (RO.up hR (a := 150) (k := 0) (v := some B) (by omega)) (ur_ne (by decide))
    have hR := cb_R h
    have hb := cb_b h
    have hF := cb_F h
    have h1 := cb_1 h
    have hL := cb_L h
    have hb6 : ur R 150 0 (some B) 150 0 = some B := ur_s
    have hfz : ∃ z : Nat, z < 2 ^ 31 ∧ J 150 1 = nI z := ⟨z0, by omega, by rw [hf1, hz0]; rfl⟩
    have hAb : wys (F 3) (pgT F (S 0) d) (cdT F (S 0) d) (F 2) 0 0 < 2 ^ 31 := wys_lt o3 o2
    have hAp : 0 < wys (F 3) (pgT F (S 0) d) (cdT F (S 0) d) (F 2) 0 0 := allT_pos hO hK d
    refine v_aload_0 dX11_wearers_43 ?_
    refine u_getR dX11_wearers_44 gf_X11_60 (by first | assumption | rfl | exact led_1 (by assumption) | exact led_2 (by assumption) | exact bk_m (by assumption) (by first | assumption | omega) | exact bk_p (by assumption) (by first | assumption | omega) | exact bk_o (by assumption) (by first | assumption | omega) | exact bk_s (by assumption) (by first | assumption | omega) | exact bk_1 (by assumption) | exact bk_2 (by assumption) | exact bk_3 (by assumption) | exact bk_4 (by assumption) | exact bk_5 (by assumption) | exact bk_6 (by assumption) | exact bk_7 (by assumption) | exact bk_8 (by assumption) | exact sh_ring _ (by first | assumption | omega) | exact sh_imgs _ (by first | assumption | omega)) (ro_X11_10 (by assumption)) ?_
    refine u_callV_0 dX11_wearers_47 ml_X11_190 mv_X10_all (by first | assumption | rfl | exact led_1 (by assumption) | exact led_2 (by assumption) | exact bk_m (by assumption) (by first | assumption | omega) | exact bk_p (by assumption) (by first | assumption | omega) | exact bk_o (by assumption) (by first | assumption | omega) | exact bk_s (by assumption) (by first | assumption | omega) | exact bk_1 (by assumption) | exact bk_2 (by assumption) | exact bk_3 (by assumption) | exact bk_4 (by assumption) | exact bk_5 (by assumption) | exact bk_6 (by assumption) | exact bk_7 (by assumption) | exact bk_8 (by assumption) | exact sh_ring _ (by first | assumption | omega) | exact sh_imgs _ (by first | assumption | omega)) (by decide) rfl (by decide) (Nat.le_of_ble_eq_true rfl) (c_X10_all hR hB hb6 hF hO hwc hfz ?_)
    refine v_iret dX11_wearers_50 rfl rfl rfl rfl ?_
    exact hQ.fin h hh rfl (by rw [a_wearers, if_pos hc19, ed] <;> rfl)
  · (first | rw [bI_0, Bool.not_eq_false] at hc19 | rw [bI_0] at hc19 | rw [show (0 : Int32) = nI 0 from rfl, nI_eq (by omega) (by omega)] at hc19 | skip)
    refine v_iconst (v := -1) dX11_wearers_22 (by decide) ?_
    refine v_iret dX11_wearers_23 rfl rfl rfl rfl ?_
    exact hQ.fin h (hi_ui (by decide)) (by first | rfl | simp only [t_wearers, hc19, if_true, Bool.false_eq_true, if_false]) (by simp only [a_wearers, hc19, Bool.false_eq_true, if_false])
def a_may (F : bkF) (s : LSt) (x : Int32) (y : Int32) : Int32 := if ((inb y (F 2)) && ind x (F 0)) = true then nI (pin F (pgT F s (tN x)) (cdT F s (tN x)) (tN y)) else -1
def t_may (F : bkF) (s : LSt) (x : Int32) (y : Int32) : Nat := trc (inb y (F 2)) (ind x (F 0))
theorem c_X11_may {x y : Int32} (h : ClsB I L R B B2 t tp nt tr fa pl F S u r im ic) (hQ : XQ I L R tp nt (t_may F (S 0) x y) fa pl F S u r im ic (a_may F (S 0) x y) Q) : KK 12 mX11_may b ad [.ref (b + 0), .int x, .int y] I L R Q := by
  have hR := cb_R h
  have hb := cb_b h
  have hB := cb_B h
  have hF := cb_F h
  have hO := cb_O h
  have o0 := hO.1
  have o1 := hO.2.1
  have o2 := hO.2.2.1
  have o3 := hO.2.2.2.1
  have o4 := hO.2.2.2.2.1
  have o5 := hO.2.2.2.2.2.1
  have o6 := hO.2.2.2.2.2.2.1
  have h1 := cb_1 h
  have ht := cb_t h
  have hS := sh_ring t ht
  have hL := cb_L h
  have hK := cb_K h
  have hps := hK.pers
  refine K.of (M := mX11_may) (lv := [some (.ref (b + 0)), some (.int x), some (.int y)]) (by decide) (Nat.le_of_ble_eq_true rfl) rfl ?_
  refine v_aload_0 dX11_may_0 ?_
  refine v_aload_0 dX11_may_1 ?_
  refine u_getR dX11_may_2 gf_X11_29 (by first | assumption | rfl | exact led_1 (by assumption) | exact led_2 (by assumption) | exact bk_m (by assumption) (by first | assumption | omega) | exact bk_p (by assumption) (by first | assumption | omega) | exact bk_o (by assumption) (by first | assumption | omega) | exact bk_s (by assumption) (by first | assumption | omega) | exact bk_1 (by assumption) | exact bk_2 (by assumption) | exact bk_3 (by assumption) | exact bk_4 (by assumption) | exact bk_5 (by assumption) | exact bk_6 (by assumption) | exact bk_7 (by assumption) | exact bk_8 (by assumption) | exact sh_ring _ (by first | assumption | omega) | exact sh_imgs _ (by first | assumption | omega)) (by assumption) ?_
  refine v_iload_2 dX11_may_5 ?_
  refine u_callV_1 dX11_may_6 ml_X11_96 mv_X0_hasMask (by first | assumption | rfl | exact led_1 (by assumption) | exact led_2 (by assumption) | exact bk_m (by assumption) (by first | assumption | omega) | exact bk_p (by assumption) (by first | assumption | omega) | exact bk_o (by assumption) (by first | assumption | omega) | exact bk_s (by assumption) (by first | assumption | omega) | exact bk_1 (by assumption) | exact bk_2 (by assumption) | exact bk_3 (by assumption) | exact bk_4 (by assumption) | exact bk_5 (by assumption) | exact bk_6 (by assumption) | exact bk_7 (by assumption) | exact bk_8 (by assumption) | exact sh_ring _ (by first | assumption | omega) | exact sh_imgs _ (by first | assumption | omega)) (by decide) rfl (by decide) (Nat.le_of_ble_eq_true rfl) (c_X0_hasMask hB hF ?_)
  refine v_aload_0 dX11_may_9 ?_
  refine u_getR dX11_may_10 gf_X11_29 (by first | assumption | rfl | exact led_1 (by assumption) | exact led_2 (by assumption) | exact bk_m (by assumption) (by first | assumption | omega) | exact bk_p (by assumption) (by first | assumption | omega) | exact bk_o (by assumption) (by first | assumption | omega) | exact bk_s (by assumption) (by first | assumption | omega) | exact bk_1 (by assumption) | exact bk_2 (by assumption) | exact bk_3 (by assumption) | exact bk_4 (by assumption) | exact bk_5 (by assumption) | exact bk_6 (by assumption) | exact bk_7 (by assumption) | exact bk_8 (by assumption) | exact sh_ring _ (by first | assumption | omega) | exact sh_imgs _ (by first | assumption | omega)) (by assumption) ?_
  refine v_iload_1 dX11_may_13 ?_
  refine u_callV_1 dX11_may_14 ml_X11_110 mv_X0_hasDay (by first | assumption | rfl | exact led_1 (by assumption) | exact led_2 (by assumption) | exact bk_m (by assumption) (by first | assumption | omega) | exact bk_p (by assumption) (by first | assumption | omega) | exact bk_o (by assumption) (by first | assumption | omega) | exact bk_s (by assumption) (by first | assumption | omega) | exact bk_1 (by assumption) | exact bk_2 (by assumption) | exact bk_3 (by assumption) | exact bk_4 (by assumption) | exact bk_5 (by assumption) | exact bk_6 (by assumption) | exact bk_7 (by assumption) | exact bk_8 (by assumption) | exact sh_ring _ (by first | assumption | omega) | exact sh_imgs _ (by first | assumption | omega)) (by decide) rfl (by decide) (Nat.le_of_ble_eq_true rfl) (c_X0_hasDay hB hF ?_)
  refine u_callV_2 dX11_may_17 ml_X11_68 mv_X11_admit (by first | assumption | rfl | exact led_1 (by assumption) | exact led_2 (by assumption) | exact bk_m (by assumption) (by first | assumption | omega) | exact bk_p (by assumption) (by first | assumption | omega) | exact bk_o (by assumption) (by first | assumption | omega) | exact bk_s (by assumption) (by first | assumption | omega) | exact bk_1 (by assumption) | exact bk_2 (by assumption) | exact bk_3 (by assumption) | exact bk_4 (by assumption) | exact bk_5 (by assumption) | exact bk_6 (by assumption) | exact bk_7 (by assumption) | exact bk_8 (by assumption) | exact sh_ring _ (by first | assumption | omega) | exact sh_imgs _ (by first | assumption | omega)) (by decide) rfl (by decide) (Nat.le_of_ble_eq_true rfl) (c_X11_admit (p := inb y (F 2)) (q := ind x (F 0)) ?_)
  have hh : Hi I (ui I 0 2 (nI (trc (inb y (F 2)) (ind x (F 0))))) L L R R := hi_ui (by decide)
  have h := cb_tr (v := trc (inb y (F 2)) (ind x (F 0))) h (trc_lt _ _).1 (trc_lt _ _).2
  have hF := cb_F h
  have h1 := cb_1 h
  have hL := cb_L h
  refine v_if_ne (tgt := 25) dX11_may_20 (by decide) (fun hc20 => ?_) (fun hc20 => ?_)
  · (first | rw [bI_0, Bool.not_eq_false] at hc20 | rw [bI_0] at hc20 | rw [show (0 : Int32) = nI 0 from rfl, nI_eq (by omega) (by omega)] at hc20 | skip)
    have hA := hc20
    rw [Bool.and_eq_true] at hA
    obtain ⟨hA1, hA2⟩ := hA
    obtain ⟨m, rfl, hm⟩ := inb_ex (by omega) hA1
    have em : tN (nI m) = m := tN_nI (by omega)
    obtain ⟨d, rfl, hd1, hd⟩ := ind_ex (by omega) hA2
    have ed : tN (nI d) = d := tN_nI (by omega)
    refine v_aload_0 dX11_may_25 ?_
    refine u_getR dX11_may_26 gf_X11_60 (by first | assumption | rfl | exact led_1 (by assumption) | exact led_2 (by assumption) | exact bk_m (by assumption) (by first | assumption | omega) | exact bk_p (by assumption) (by first | assumption | omega) | exact bk_o (by assumption) (by first | assumption | omega) | exact bk_s (by assumption) (by first | assumption | omega) | exact bk_1 (by assumption) | exact bk_2 (by assumption) | exact bk_3 (by assumption) | exact bk_4 (by assumption) | exact bk_5 (by assumption) | exact bk_6 (by assumption) | exact bk_7 (by assumption) | exact bk_8 (by assumption) | exact sh_ring _ (by first | assumption | omega) | exact sh_imgs _ (by first | assumption | omega)) (ro_X11_10 (by assumption)) ?_
    refine v_aload_0 dX11_may_29 ?_
    refine u_getR dX11_may_30 gf_X11_29 (by first | assumption | rfl | exact led_1 (by assumption) | exact led_2 (by assumption) | exact bk_m (by assumption) (by first | assumption | omega) | exact bk_p (by assumption) (by first | assumption | omega) | exact bk_o (by assumption) (by first | assumption | omega) | exact bk_s (by assumption) (by first | assumption | omega) | exact bk_1 (by assumption) | exact bk_2 (by assumption) | exact bk_3 (by assumption) | exact bk_4 (by assumption) | exact bk_5 (by assumption) | exact bk_6 (by assumption) | exact bk_7 (by assumption) | exact bk_8 (by assumption) | exact sh_ring _ (by first | assumption | omega) | exact sh_imgs _ (by first | assumption | omega)) (by assumption) ?_
    refine v_aload_0 dX11_may_33 ?_
    refine u_getR dX11_may_34 gf_X11_46 (by first | assumption | rfl | exact led_1 (by assumption) | exact led_2 (by assumption) | exact bk_m (by assumption) (by first | assumption | omega) | exact bk_p (by assumption) (by first | assumption | omega) | exact bk_o (by assumption) (by first | assumption | omega) | exact bk_s (by assumption) (by first | assumption | omega) | exact bk_1 (by assumption) | exact bk_2 (by assumption) | exact bk_3 (by assumption) | exact bk_4 (by assumption) | exact bk_5 (by assumption) | exact bk_6 (by assumption) | exact bk_7 (by assumption) | exact bk_8 (by assumption) | exact sh_ring _ (by first | assumption | omega) | exact sh_imgs _ (by first | assumption | omega)) (ro_X11_8 (by assumption)) ?_
    refine u_callV_0 dX11_may_37 ml_X11_113 mv_X1_now (by first | assumption | rfl | exact led_1 (by assumption) | exact led_2 (by assumption) | exact bk_m (by assumption) (by first | assumption | omega) | exact bk_p (by assumption) (by first | assumption | omega) | exact bk_o (by assumption) (by first | assumption | omega) | exact bk_s (by assumption) (by first | assumption | omega) | exact bk_1 (by assumption) | exact bk_2 (by assumption) | exact bk_3 (by assumption) | exact bk_4 (by assumption) | exact bk_5 (by assumption) | exact bk_6 (by assumption) | exact bk_7 (by assumption) | exact bk_8 (by assumption) | exact sh_ring _ (by first | assumption | omega) | exact sh_imgs _ (by first | assumption | omega)) (by decide) rfl (by decide) (Nat.le_of_ble_eq_true rfl) (c_X1_now hR h1 ht ?_)
    refine v_iload_1 dX11_may_40 ?_
    refine u_callV_3 dX11_may_41 ml_X11_186 mv_X10_look (by first | assumption | rfl | exact led_1 (by assumption) | exact led_2 (by assumption) | exact bk_m (by assumption) (by first | assumption | omega) | exact bk_p (by assumption) (by first | assumption | omega) | exact bk_o (by assumption) (by first | assumption | omega) | exact bk_s (by assumption) (by first | assumption | omega) | exact bk_1 (by assumption) | exact bk_2 (by assumption) | exact bk_3 (by assumption) | exact bk_4 (by assumption) | exact bk_5 (by assumption) | exact bk_6 (by assumption) | exact bk_7 (by assumption) | exact bk_8 (by assumption) | exact sh_ring _ (by first | assumption | omega) | exact sh_imgs _ (by first | assumption | omega)) (by decide) rfl (by decide) (Nat.le_of_ble_eq_true rfl) (c_X10_look hR hB hF hO hS (fun x hx => by omega) hL.1 hps (by omega) (fun J hN hf1 hW hJ hJ2 => ?_))
    obtain ⟨z0, hz0, hz1, hz2⟩ := fls_some hO hK d
    have hwc : WcI J (F 2) (pgT F (S 0) d) (cdT F (S 0) d) := by
      have q := hW z0 hz0
      unfold pgT cdT tru; rw [hz0]; exact q
    have hh := hh.trans (fun a ha => ⟨hJ a (by omega) (by omega) (by omega) (by omega) (by omega) (by omega), rfl, ur_ne (by omega)⟩ : Hi _ J L L R (ur R 150 0 (some B)))
    have h := cb_q h (fun x hx => hJ x (by omega) (by omega) (by omega) (by omega) (by omega) (by omega)) (RO.up hR (a := 150) (k := 0) (v := some B) (by omega)) (ur_ne (by decide))
    have hR := cb_R h
    have hb := cb_b h
    have hF := cb_F h
    have h1 := cb_1 h
    have hL := cb_L h
    have hb6 : ur R 150 0 (some B) 150 0 = some B := ur_s
    have hfz : ∃ z : Nat, z < 2 ^ 31 ∧ J 150 1 = nI z := ⟨z0, by omega, by rw [hf1, hz0]; rfl⟩
    have hAb : wys (F 3) (pgT F (S 0) d) (cdT F (S 0) d) (F 2) 0 0 < 2 ^ 31 := wys_lt o3 o2
    have hAp : 0 < wys (F 3) (pgT F (S 0) d) (cdT F (S 0) d) (F 2) 0 0 := allT_pos hO hK d
    refine v_aload_0 dX11_may_44 ?_
    refine u_getR dX11_may_45 gf_X11_60 (by first | assumption | rfl | exact led_1 (by assumption) | exact led_2 (by assumption) | exact bk_m (by assumption) (by first | assumption | omega) | exact bk_p (by assumption) (by first | assumption | omega) | exact bk_o (by assumption) (by first | assumption | omega) | exact bk_s (by assumption) (by first | assumption | omega) | exact bk_1 (by assumption) | exact bk_2 (by assumption) | exact bk_3 (by assumption) | exact bk_4 (by assumption) | exact bk_5 (by assumption) | exact bk_6 (by assumption) | exact bk_7 (by assumption) | exact bk_8 (by assumption) | exact sh_ring _ (by first | assumption | omega) | exact sh_imgs _ (by first | assumption | omega)) (ro_X11_10 (by assumption)) ?_
    refine v_iload_2 dX11_may_48 ?_
    refine u_callV_1 dX11_may_49 ml_X11_200 mv_X10_personsIn (by first | assumption | rfl | exact led_1 (by assumption) | exact led_2 (by assumption) | exact bk_m (by assumption) (by first | assumption | omega) | exact bk_p (by assumption) (by first | assumption | omega) | exact bk_o (by assumption) (by first | assumption | omega) | exact bk_s (by assumption) (by first | assumption | omega) | exact bk_1 (by assumption) | exact bk_2 (by assumption) | exact bk_3 (by assumption) | exact bk_4 (by assumption) | exact bk_5 (by assumption) | exact bk_6 (by assumption) | exact bk_7 (by assumption) | exact bk_8 (by assumption) | exact sh_ring _ (by first | assumption | omega) | exact sh_imgs _ (by first | assumption | omega)) (by decide) rfl (by decide) (Nat.le_of_ble_eq_true rfl) (c_X10_personsIn hR hB hb6 hF hO hwc hfz hm ?_)
    refine v_iret dX11_may_52 rfl rfl rfl rfl ?_
    exact hQ.fin h hh rfl (by rw [a_may, if_pos hc20, ed, em] <;> rfl)
  · (first | rw [bI_0, Bool.not_eq_false] at hc20 | rw [bI_0] at hc20 | rw [show (0 : Int32) = nI 0 from rfl, nI_eq (by omega) (by omega)] at hc20 | skip)
    refine v_iconst (v := -1) dX11_may_23 (by decide) ?_
    refine v_iret dX11_may_24 rfl rfl rfl rfl ?_
    exact hQ.fin h (hi_ui (by decide)) (by first | rfl | simp only [t_may, hc20, if_true, Bool.false_eq_true, if_false]) (by simp only [a_may, hc20, Bool.false_eq_true, if_false])
def a_untrue (F : bkF) (s : LSt) (x : Int32) : Int32 := if ((decide (0 < F 0)) && ind x (F 0)) = true then eP (fls F s.1 s.2.1 (tN x)) else -1
def t_untrue (F : bkF) (s : LSt) (x : Int32) : Nat := trc (decide (0 < F 0)) (ind x (F 0))
theorem c_X11_untrue {x : Int32} (h : ClsB I L R B B2 t tp nt tr fa pl F S u r im ic) (hQ : XQ I L R tp nt (t_untrue F (S 0) x) fa pl F S u r im ic (a_untrue F (S 0) x) Q) : KK 12 mX11_untrue b ad [.ref (b + 0), .int x] I L R Q := by
  have hR := cb_R h
  have hb := cb_b h
  have hB := cb_B h
  have hF := cb_F h
  have hO := cb_O h
  have o0 := hO.1
  have o1 := hO.2.1
  have o2 := hO.2.2.1
  have o3 := hO.2.2.2.1
  have o4 := hO.2.2.2.2.1
  have o5 := hO.2.2.2.2.2.1
  have o6 := hO.2.2.2.2.2.2.1
  have h1 := cb_1 h
  have ht := cb_t h
  have hS := sh_ring t ht
  have hL := cb_L h
  have hK := cb_K h
  have hps := hK.pers
  refine K.of (M := mX11_untrue) (lv := [some (.ref (b + 0)), some (.int x)]) (by decide) (Nat.le_of_ble_eq_true rfl) rfl ?_
  refine v_aload_0 dX11_untrue_0 ?_
  refine v_aload_0 dX11_untrue_1 ?_
  refine u_getR dX11_untrue_2 gf_X11_29 (by first | assumption | rfl | exact led_1 (by assumption) | exact led_2 (by assumption) | exact bk_m (by assumption) (by first | assumption | omega) | exact bk_p (by assumption) (by first | assumption | omega) | exact bk_o (by assumption) (by first | assumption | omega) | exact bk_s (by assumption) (by first | assumption | omega) | exact bk_1 (by assumption) | exact bk_2 (by assumption) | exact bk_3 (by assumption) | exact bk_4 (by assumption) | exact bk_5 (by assumption) | exact bk_6 (by assumption) | exact bk_7 (by assumption) | exact bk_8 (by assumption) | exact sh_ring _ (by first | assumption | omega) | exact sh_imgs _ (by first | assumption | omega)) (by assumption) ?_
  refine u_callV_0 dX11_untrue_5 ml_X11_150 mv_X0_isTold (by first | assumption | rfl | exact led_1 (by assumption) | exact led_2 (by assumption) | exact bk_m (by assumption) (by first | assumption | omega) | exact bk_p (by assumption) (by first | assumption | omega) | exact bk_o (by assumption) (by first | assumption | omega) | exact bk_s (by assumption) (by first | assumption | omega) | exact bk_1 (by assumption) | exact bk_2 (by assumption) | exact bk_3 (by assumption) | exact bk_4 (by assumption) | exact bk_5 (by assumption) | exact bk_6 (by assumption) | exact bk_7 (by assumption) | exact bk_8 (by assumption) | exact sh_ring _ (by first | assumption | omega) | exact sh_imgs _ (by first | assumption | omega)) (by decide) rfl (by decide) (Nat.le_of_ble_eq_true rfl) (c_X0_isTold hB hF hO ?_)
  refine v_aload_0 dX11_untrue_8 ?_
  refine u_getR dX11_untrue_9 gf_X11_29 (by first | assumption | rfl | exact led_1 (by assumption) | exact led_2 (by assumption) | exact bk_m (by assumption) (by first | assumption | omega) | exact bk_p (by assumption) (by first | assumption | omega) | exact bk_o (by assumption) (by first | assumption | omega) | exact bk_s (by assumption) (by first | assumption | omega) | exact bk_1 (by assumption) | exact bk_2 (by assumption) | exact bk_3 (by assumption) | exact bk_4 (by assumption) | exact bk_5 (by assumption) | exact bk_6 (by assumption) | exact bk_7 (by assumption) | exact bk_8 (by assumption) | exact sh_ring _ (by first | assumption | omega) | exact sh_imgs _ (by first | assumption | omega)) (by assumption) ?_
  refine v_iload_1 dX11_untrue_12 ?_
  refine u_callV_1 dX11_untrue_13 ml_X11_110 mv_X0_hasDay (by first | assumption | rfl | exact led_1 (by assumption) | exact led_2 (by assumption) | exact bk_m (by assumption) (by first | assumption | omega) | exact bk_p (by assumption) (by first | assumption | omega) | exact bk_o (by assumption) (by first | assumption | omega) | exact bk_s (by assumption) (by first | assumption | omega) | exact bk_1 (by assumption) | exact bk_2 (by assumption) | exact bk_3 (by assumption) | exact bk_4 (by assumption) | exact bk_5 (by assumption) | exact bk_6 (by assumption) | exact bk_7 (by assumption) | exact bk_8 (by assumption) | exact sh_ring _ (by first | assumption | omega) | exact sh_imgs _ (by first | assumption | omega)) (by decide) rfl (by decide) (Nat.le_of_ble_eq_true rfl) (c_X0_hasDay hB hF ?_)
  refine u_callV_2 dX11_untrue_16 ml_X11_68 mv_X11_admit (by first | assumption | rfl | exact led_1 (by assumption) | exact led_2 (by assumption) | exact bk_m (by assumption) (by first | assumption | omega) | exact bk_p (by assumption) (by first | assumption | omega) | exact bk_o (by assumption) (by first | assumption | omega) | exact bk_s (by assumption) (by first | assumption | omega) | exact bk_1 (by assumption) | exact bk_2 (by assumption) | exact bk_3 (by assumption) | exact bk_4 (by assumption) | exact bk_5 (by assumption) | exact bk_6 (by assumption) | exact bk_7 (by assumption) | exact bk_8 (by assumption) | exact sh_ring _ (by first | assumption | omega) | exact sh_imgs _ (by first | assumption | omega)) (by decide) rfl (by decide) (Nat.le_of_ble_eq_true rfl) (c_X11_admit (p := decide (0 < F 0)) (q := ind x (F 0)) ?_)
  have hh : Hi I (ui I 0 2 (nI (trc (decide (0 < F 0)) (ind x (F 0))))) L L R R := hi_ui (by decide)
  have h := cb_tr (v := trc (decide (0 < F 0)) (ind x (F 0))) h (trc_lt _ _).1 (trc_lt _ _).2
  have hF := cb_F h
  have h1 := cb_1 h
  have hL := cb_L h
  refine v_if_ne (tgt := 24) dX11_untrue_19 (by decide) (fun hc19 => ?_) (fun hc19 => ?_)
  · (first | rw [bI_0, Bool.not_eq_false] at hc19 | rw [bI_0] at hc19 | rw [show (0 : Int32) = nI 0 from rfl, nI_eq (by omega) (by omega)] at hc19 | skip)
    have hA := hc19
    rw [Bool.and_eq_true] at hA
    obtain ⟨hA1, hA2⟩ := hA
    obtain ⟨d, rfl, hd1, hd⟩ := ind_ex (by omega) hA2
    have ed : tN (nI d) = d := tN_nI (by omega)
    refine v_aload_0 dX11_untrue_24 ?_
    refine u_getR dX11_untrue_25 gf_X11_60 (by first | assumption | rfl | exact led_1 (by assumption) | exact led_2 (by assumption) | exact bk_m (by assumption) (by first | assumption | omega) | exact bk_p (by assumption) (by first | assumption | omega) | exact bk_o (by assumption) (by first | assumption | omega) | exact bk_s (by assumption) (by first | assumption | omega) | exact bk_1 (by assumption) | exact bk_2 (by assumption) | exact bk_3 (by assumption) | exact bk_4 (by assumption) | exact bk_5 (by assumption) | exact bk_6 (by assumption) | exact bk_7 (by assumption) | exact bk_8 (by assumption) | exact sh_ring _ (by first | assumption | omega) | exact sh_imgs _ (by first | assumption | omega)) (ro_X11_10 (by assumption)) ?_
    refine v_aload_0 dX11_untrue_28 ?_
    refine u_getR dX11_untrue_29 gf_X11_29 (by first | assumption | rfl | exact led_1 (by assumption) | exact led_2 (by assumption) | exact bk_m (by assumption) (by first | assumption | omega) | exact bk_p (by assumption) (by first | assumption | omega) | exact bk_o (by assumption) (by first | assumption | omega) | exact bk_s (by assumption) (by first | assumption | omega) | exact bk_1 (by assumption) | exact bk_2 (by assumption) | exact bk_3 (by assumption) | exact bk_4 (by assumption) | exact bk_5 (by assumption) | exact bk_6 (by assumption) | exact bk_7 (by assumption) | exact bk_8 (by assumption) | exact sh_ring _ (by first | assumption | omega) | exact sh_imgs _ (by first | assumption | omega)) (by assumption) ?_
    refine v_aload_0 dX11_untrue_32 ?_
    refine u_getR dX11_untrue_33 gf_X11_46 (by first | assumption | rfl | exact led_1 (by assumption) | exact led_2 (by assumption) | exact bk_m (by assumption) (by first | assumption | omega) | exact bk_p (by assumption) (by first | assumption | omega) | exact bk_o (by assumption) (by first | assumption | omega) | exact bk_s (by assumption) (by first | assumption | omega) | exact bk_1 (by assumption) | exact bk_2 (by assumption) | exact bk_3 (by assumption) | exact bk_4 (by assumption) | exact bk_5 (by assumption) | exact bk_6 (by assumption) | exact bk_7 (by assumption) | exact bk_8 (by assumption) | exact sh_ring _ (by first | assumption | omega) | exact sh_imgs _ (by first | assumption | omega)) (ro_X11_8 (by assumption)) ?_
    refine u_callV_0 dX11_untrue_36 ml_X11_113 mv_X1_now (by first | assumption | rfl | exact led_1 (by assumption) | exact led_2 (by assumption) | exact bk_m (by assumption) (by first | assumption | omega) | exact bk_p (by assumption) (by first | assumption | omega) | exact bk_o (by assumption) (by first | assumption | omega) | exact bk_s (by assumption) (by first | assumption | omega) | exact bk_1 (by assumption) | exact bk_2 (by assumption) | exact bk_3 (by assumption) | exact bk_4 (by assumption) | exact bk_5 (by assumption) | exact bk_6 (by assumption) | exact bk_7 (by assumption) | exact bk_8 (by assumption) | exact sh_ring _ (by first | assumption | omega) | exact sh_imgs _ (by first | assumption | omega)) (by decide) rfl (by decide) (Nat.le_of_ble_eq_true rfl) (c_X1_now hR h1 ht ?_)
    refine v_iload_1 dX11_untrue_39 ?_
    refine u_callV_3 dX11_untrue_40 ml_X11_186 mv_X10_look (by first | assumption | rfl | exact led_1 (by assumption) | exact led_2 (by assumption) | exact bk_m (by assumption) (by first | assumption | omega) | exact bk_p (by assumption) (by first | assumption | omega) | exact bk_o (by assumption) (by first | assumption | omega) | exact bk_s (by assumption) (by first | assumption | omega) | exact bk_1 (by assumption) | exact bk_2 (by assumption) | exact bk_3 (by assumption) | exact bk_4 (by assumption) | exact bk_5 (by assumption) | exact bk_6 (by assumption) | exact bk_7 (by assumption) | exact bk_8 (by assumption) | exact sh_ring _ (by first | assumption | omega) | exact sh_imgs _ (by first | assumption | omega)) (by decide) rfl (by decide) (Nat.le_of_ble_eq_true rfl) (c_X10_look hR hB hF hO hS (fun x hx => by omega) hL.1 hps (by omega) (fun J hN hf1 hW hJ hJ2 => ?_))
    obtain ⟨z0, hz0, hz1, hz2⟩ := fls_some hO hK d
    have hwc : WcI J (F 2) (pgT F (S 0) d) (cdT F (S 0) d) := by
      have q := hW z0 hz0
      unfold pgT cdT tru; rw [hz0]; exact q
    have hh := hh.trans (fun a ha => ⟨hJ a (by omega) (by omega) (by omega) (by omega) (by omega) (by omega), rfl, ur_ne (by omega)⟩ : Hi _ J L L R (ur R 150 0 (some B)))
    have h := cb_q h (fun x hx => hJ x (by omega) (by omega) (by omega) (by omega) (by omega) (by omega)) (RO.up hR (a := 150) (k := 0) (v := some B) (by omega)) (ur_ne (by decide))
    have hR := cb_R h
    have hb := cb_b h
    have hF := cb_F h
    have h1 := cb_1 h
    have hL := cb_L h
    have hb6 : ur R 150 0 (some B) 150 0 = some B := ur_s
    have hfz : ∃ z : Nat, z < 2 ^ 31 ∧ J 150 1 = nI z := ⟨z0, by omega, by rw [hf1, hz0]; rfl⟩
    have hAb : wys (F 3) (pgT F (S 0) d) (cdT F (S 0) d) (F 2) 0 0 < 2 ^ 31 := wys_lt o3 o2
    have hAp : 0 < wys (F 3) (pgT F (S 0) d) (cdT F (S 0) d) (F 2) 0 0 := allT_pos hO hK d
    refine v_aload_0 dX11_untrue_43 ?_
    refine u_getR dX11_untrue_44 gf_X11_60 (by first | assumption | rfl | exact led_1 (by assumption) | exact led_2 (by assumption) | exact bk_m (by assumption) (by first | assumption | omega) | exact bk_p (by assumption) (by first | assumption | omega) | exact bk_o (by assumption) (by first | assumption | omega) | exact bk_s (by assumption) (by first | assumption | omega) | exact bk_1 (by assumption) | exact bk_2 (by assumption) | exact bk_3 (by assumption) | exact bk_4 (by assumption) | exact bk_5 (by assumption) | exact bk_6 (by assumption) | exact bk_7 (by assumption) | exact bk_8 (by assumption) | exact sh_ring _ (by first | assumption | omega) | exact sh_imgs _ (by first | assumption | omega)) (ro_X11_10 (by assumption)) ?_
    refine u_getI dX11_untrue_47 gf_X11_203 (by first | assumption | rfl | exact led_1 (by assumption) | exact led_2 (by assumption) | exact bk_m (by assumption) (by first | assumption | omega) | exact bk_p (by assumption) (by first | assumption | omega) | exact bk_o (by assumption) (by first | assumption | omega) | exact bk_s (by assumption) (by first | assumption | omega) | exact bk_1 (by assumption) | exact bk_2 (by assumption) | exact bk_3 (by assumption) | exact bk_4 (by assumption) | exact bk_5 (by assumption) | exact bk_6 (by assumption) | exact bk_7 (by assumption) | exact bk_8 (by assumption) | exact sh_ring _ (by first | assumption | omega) | exact sh_imgs _ (by first | assumption | omega)) ?_
    rw [hf1]
    refine v_iret dX11_untrue_50 rfl rfl rfl rfl ?_
    exact hQ.fin h hh rfl (by rw [a_untrue, if_pos hc19, ed] <;> rfl)
  · (first | rw [bI_0, Bool.not_eq_false] at hc19 | rw [bI_0] at hc19 | rw [show (0 : Int32) = nI 0 from rfl, nI_eq (by omega) (by omega)] at hc19 | skip)
    refine v_iconst (v := -1) dX11_untrue_22 (by decide) ?_
    refine v_iret dX11_untrue_23 rfl rfl rfl rfl ?_
    exact hQ.fin h (hi_ui (by decide)) (by first | rfl | simp only [t_untrue, hc19, if_true, Bool.false_eq_true, if_false]) (by simp only [a_untrue, hc19, Bool.false_eq_true, if_false])
theorem c_X11_commonDivisor {x z : Nat} (hx : x < 2 ^ 31) (hz : z < 2 ^ 31) (hQ : Q (some (.int (nI (if 1 < Nat.gcd x z then Nat.gcd x z else 1)))) SH I L R) : KK 1 mX11_commonDivisor b ad [.int (nI x), .int (nI z)] I L R Q := by
  refine K.of (M := mX11_commonDivisor) (lv := [some (.int (nI x)), some (.int (nI z)), none, none, none, none]) (by decide) (Nat.le_of_ble_eq_true rfl) rfl ?_
  have loop : ∀ (j i a c : Nat) (w : Option Value), i + j = 64 → c < 2 ^ 31 → a < 2 ^ 31 → Q (some (.int (nI (if 1 < euc j a c then euc j a c else 1)))) SH I L R → VV yX11_commonDivisor cX11_commonDivisor 6 (some .int) 1 Q b ad 7 [some (.int (nI x)), some (.int (nI z)), some (.int (nI a)), some (.int (nI c)), some (.int (nI i)), w] [] I L R := by
    intro j
    induction j with
    | zero =>
      intro i a c w hij hc2 ha k
      refine v_iload_4 dX11_commonDivisor_7 ?_
      refine v_bipush (v := nI 64) dX11_commonDivisor_9 (by decide) ?_
      refine v_icmp_ge (tgt := 34) dX11_commonDivisor_11 (by decide) (fun hc11 => ?_) (fun hc11 => ?_)
      · (try rw [nI_leI (by omega) (by omega)] at hc11)
        refine v_iconst (v := nI 1) dX11_commonDivisor_34 (by decide) ?_
        refine v_iload_2 dX11_commonDivisor_35 ?_
        refine u_mmax dX11_commonDivisor_36 ml_X11_351 (by decide) (Nat.le_of_ble_eq_true rfl) ?_
        refine v_iret dX11_commonDivisor_39 rfl rfl rfl rfl ?_
        simp only [euc] at k
        rw [mx_n ha]
        exact k
      · (try rw [nI_leI (by omega) (by omega)] at hc11)
        exfalso; omega
    | succ j ih =>
      intro i a c w hij hc2 ha k
      refine v_iload_4 dX11_commonDivisor_7 ?_
      refine v_bipush (v := nI 64) dX11_commonDivisor_9 (by decide) ?_
      refine v_icmp_ge (tgt := 34) dX11_commonDivisor_11 (by decide) (fun hc11 => ?_) (fun hc11 => ?_)
      · (try rw [nI_leI (by omega) (by omega)] at hc11)
        exfalso; omega
      · (try rw [nI_leI (by omega) (by omega)] at hc11)
        refine v_iload_3 dX11_commonDivisor_14 ?_
        refine v_if_eq (tgt := 34) dX11_commonDivisor_15 (by decide) (fun hc15 => ?_) (fun hc15 => ?_)
        · (first | rw [bI_0, Bool.not_eq_false] at hc15 | rw [bI_0] at hc15 | rw [show (0 : Int32) = nI 0 from rfl, nI_eq (by omega) (by omega)] at hc15 | skip)
          simp only [euc, if_pos hc15] at k
          refine v_iconst (v := nI 1) dX11_commonDivisor_34 (by decide) ?_
          refine v_iload_2 dX11_commonDivisor_35 ?_
          refine u_mmax dX11_commonDivisor_36 ml_X11_351 (by decide) (Nat.le_of_ble_eq_true rfl) ?_
          refine v_iret dX11_commonDivisor_39 rfl rfl rfl rfl ?_
          rw [mx_n ha]
          exact k
        · (first | rw [bI_0, Bool.not_eq_false] at hc15 | rw [bI_0] at hc15 | rw [show (0 : Int32) = nI 0 from rfl, nI_eq (by omega) (by omega)] at hc15 | skip)
          have hcp : 0 < c := Nat.pos_of_ne_zero hc15
          have hcne : nI c ≠ 0 := fun q => hc15 (by rw [show (0 : Int32) = nI 0 from rfl, nI_eq (by omega) (by omega)] at q; exact q)
          refine v_iload_2 dX11_commonDivisor_18 ?_
          refine v_iload_3 dX11_commonDivisor_19 ?_
          refine v_irem dX11_commonDivisor_20 (by first | assumption | decide) ?_
          rw [pk_rem ha hcp hc2]
          refine v_istore_5 rfl dX11_commonDivisor_21 ?_
          refine v_iload_3 dX11_commonDivisor_23 ?_
          refine v_istore_2 rfl dX11_commonDivisor_24 ?_
          refine v_iload_5 dX11_commonDivisor_25 ?_
          refine v_istore_3 rfl dX11_commonDivisor_27 ?_
          refine v_iinc_4 (v := 1) rfl dX11_commonDivisor_28 (by decide) ?_
          refine v_goto (tgt := 7) dX11_commonDivisor_31 (by decide) ?_
          rw [← nI_succ]
          exact ih _ _ _ _ (by omega) (Nat.lt_of_le_of_lt (Nat.mod_le _ _) ha) hc2 (by simp only [euc, if_neg hc15] at k; exact k)
  refine v_iload_0 dX11_commonDivisor_0 ?_
  refine v_istore_2 rfl dX11_commonDivisor_1 ?_
  refine v_iload_1 dX11_commonDivisor_2 ?_
  refine v_istore_3 rfl dX11_commonDivisor_3 ?_
  refine v_iconst (v := nI 0) dX11_commonDivisor_4 (by decide) ?_
  refine v_istore_4 rfl dX11_commonDivisor_5 ?_
  exact loop 64 0 x z none rfl hz hx (by rw [euc_gcd 31 64 x z hz (by decide)]; exact hQ)
def a_odds (F : bkF) (s : LSt) (x y z : Int32) (lo : Bool) : Int32 := if ((inb y (F 2) && inb z (F 3)) && ind x (F 0)) = true then nI ((if lo = true then allT F s (tN x) else alw F (pgT F s (tN x)) (cdT F s (tN x)) (tN y) (tN z)) / Nat.gcd (allT F s (tN x)) (alw F (pgT F s (tN x)) (cdT F s (tN x)) (tN y) (tN z))) else -1
def t_odds (F : bkF) (s : LSt) (x y z : Int32) (lo : Bool) : Nat := trc (inb y (F 2) && inb z (F 3)) (ind x (F 0))
theorem c_X11_odds {x : Int32} {y : Int32} {z : Int32} {lo : Bool} (h : ClsB I L R B B2 t tp nt tr fa pl F S u r im ic) (hQ : XQ I L R tp nt (t_odds F (S 0) x y z lo) fa pl F S u r im ic (a_odds F (S 0) x y z lo) Q) : KK 12 mX11_odds b ad [.ref (b + 0), .int x, .int y, .int z, .int (bI lo)] I L R Q := by
  have hR := cb_R h
  have hb := cb_b h
  have hB := cb_B h
  have hF := cb_F h
  have hO := cb_O h
  have o0 := hO.1
  have o1 := hO.2.1
  have o2 := hO.2.2.1
  have o3 := hO.2.2.2.1
  have o4 := hO.2.2.2.2.1
  have o5 := hO.2.2.2.2.2.1
  have o6 := hO.2.2.2.2.2.2.1
  have h1 := cb_1 h
  have ht := cb_t h
  have hS := sh_ring t ht
  have hL := cb_L h
  have hK := cb_K h
  have hps := hK.pers
  refine K.of (M := mX11_odds) (lv := [some (.ref (b + 0)), some (.int x), some (.int y), some (.int z), some (.int (bI lo)), none, none, none]) (by decide) (Nat.le_of_ble_eq_true rfl) rfl ?_
  have cut : VV yX11_odds cX11_odds 8 (some .int) 12 Q b ad 28 [some (.ref (b + 0)), some (.int x), some (.int y), some (.int z), some (.int (bI lo)), none, none, none] [.int (bI (inb y (F 2) && inb z (F 3))), .ref (b + 0)] I L R := by
    refine v_aload_0 dX11_odds_28 ?_
    refine u_getR dX11_odds_29 gf_X11_29 (by first | assumption | rfl | exact led_1 (by assumption) | exact led_2 (by assumption) | exact bk_m (by assumption) (by first | assumption | omega) | exact bk_p (by assumption) (by first | assumption | omega) | exact bk_o (by assumption) (by first | assumption | omega) | exact bk_s (by assumption) (by first | assumption | omega) | exact bk_1 (by assumption) | exact bk_2 (by assumption) | exact bk_3 (by assumption) | exact bk_4 (by assumption) | exact bk_5 (by assumption) | exact bk_6 (by assumption) | exact bk_7 (by assumption) | exact bk_8 (by assumption) | exact sh_ring _ (by first | assumption | omega) | exact sh_imgs _ (by first | assumption | omega)) (by assumption) ?_
    refine v_iload_1 dX11_odds_32 ?_
    refine u_callV_1 dX11_odds_33 ml_X11_110 mv_X0_hasDay (by first | assumption | rfl | exact led_1 (by assumption) | exact led_2 (by assumption) | exact bk_m (by assumption) (by first | assumption | omega) | exact bk_p (by assumption) (by first | assumption | omega) | exact bk_o (by assumption) (by first | assumption | omega) | exact bk_s (by assumption) (by first | assumption | omega) | exact bk_1 (by assumption) | exact bk_2 (by assumption) | exact bk_3 (by assumption) | exact bk_4 (by assumption) | exact bk_5 (by assumption) | exact bk_6 (by assumption) | exact bk_7 (by assumption) | exact bk_8 (by assumption) | exact sh_ring _ (by first | assumption | omega) | exact sh_imgs _ (by first | assumption | omega)) (by decide) rfl (by decide) (Nat.le_of_ble_eq_true rfl) (c_X0_hasDay hB hF ?_)
    refine u_callV_2 dX11_odds_36 ml_X11_68 mv_X11_admit (by first | assumption | rfl | exact led_1 (by assumption) | exact led_2 (by assumption) | exact bk_m (by assumption) (by first | assumption | omega) | exact bk_p (by assumption) (by first | assumption | omega) | exact bk_o (by assumption) (by first | assumption | omega) | exact bk_s (by assumption) (by first | assumption | omega) | exact bk_1 (by assumption) | exact bk_2 (by assumption) | exact bk_3 (by assumption) | exact bk_4 (by assumption) | exact bk_5 (by assumption) | exact bk_6 (by assumption) | exact bk_7 (by assumption) | exact bk_8 (by assumption) | exact sh_ring _ (by first | assumption | omega) | exact sh_imgs _ (by first | assumption | omega)) (by decide) rfl (by decide) (Nat.le_of_ble_eq_true rfl) (c_X11_admit (p := inb y (F 2) && inb z (F 3)) (q := ind x (F 0)) ?_)
    have hh : Hi I (ui I 0 2 (nI (trc (inb y (F 2) && inb z (F 3)) (ind x (F 0))))) L L R R := hi_ui (by decide)
    have h := cb_tr (v := trc (inb y (F 2) && inb z (F 3)) (ind x (F 0))) h (trc_lt _ _).1 (trc_lt _ _).2
    have hF := cb_F h
    have h1 := cb_1 h
    have hL := cb_L h
    refine v_if_ne (tgt := 44) dX11_odds_39 (by decide) (fun hc39 => ?_) (fun hc39 => ?_)
    · (first | rw [bI_0, Bool.not_eq_false] at hc39 | rw [bI_0] at hc39 | rw [show (0 : Int32) = nI 0 from rfl, nI_eq (by omega) (by omega)] at hc39 | skip)
      have hA := hc39
      rw [Bool.and_eq_true] at hA
      obtain ⟨hA0, hA2⟩ := hA
      rw [Bool.and_eq_true] at hA0
      obtain ⟨hA0, hP1⟩ := hA0
      obtain ⟨m, rfl, hm⟩ := inb_ex (by omega) hA0
      have em : tN (nI m) = m := tN_nI (by omega)
      obtain ⟨p, rfl, hp⟩ := inb_ex (by omega) hP1
      have ep : tN (nI p) = p := tN_nI (by omega)
      obtain ⟨d, rfl, hd1, hd⟩ := ind_ex (by omega) hA2
      have ed : tN (nI d) = d := tN_nI (by omega)
      refine v_aload_0 dX11_odds_44 ?_
      refine u_getR dX11_odds_45 gf_X11_60 (by first | assumption | rfl | exact led_1 (by assumption) | exact led_2 (by assumption) | exact bk_m (by assumption) (by first | assumption | omega) | exact bk_p (by assumption) (by first | assumption | omega) | exact bk_o (by assumption) (by first | assumption | omega) | exact bk_s (by assumption) (by first | assumption | omega) | exact bk_1 (by assumption) | exact bk_2 (by assumption) | exact bk_3 (by assumption) | exact bk_4 (by assumption) | exact bk_5 (by assumption) | exact bk_6 (by assumption) | exact bk_7 (by assumption) | exact bk_8 (by assumption) | exact sh_ring _ (by first | assumption | omega) | exact sh_imgs _ (by first | assumption | omega)) (ro_X11_10 (by assumption)) ?_
      refine v_aload_0 dX11_odds_48 ?_
      refine u_getR dX11_odds_49 gf_X11_29 (by first | assumption | rfl | exact led_1 (by assumption) | exact led_2 (by assumption) | exact bk_m (by assumption) (by first | assumption | omega) | exact bk_p (by assumption) (by first | assumption | omega) | exact bk_o (by assumption) (by first | assumption | omega) | exact bk_s (by assumption) (by first | assumption | omega) | exact bk_1 (by assumption) | exact bk_2 (by assumption) | exact bk_3 (by assumption) | exact bk_4 (by assumption) | exact bk_5 (by assumption) | exact bk_6 (by assumption) | exact bk_7 (by assumption) | exact bk_8 (by assumption) | exact sh_ring _ (by first | assumption | omega) | exact sh_imgs _ (by first | assumption | omega)) (by assumption) ?_
      refine v_aload_0 dX11_odds_52 ?_
      refine u_getR dX11_odds_53 gf_X11_46 (by first | assumption | rfl | exact led_1 (by assumption) | exact led_2 (by assumption) | exact bk_m (by assumption) (by first | assumption | omega) | exact bk_p (by assumption) (by first | assumption | omega) | exact bk_o (by assumption) (by first | assumption | omega) | exact bk_s (by assumption) (by first | assumption | omega) | exact bk_1 (by assumption) | exact bk_2 (by assumption) | exact bk_3 (by assumption) | exact bk_4 (by assumption) | exact bk_5 (by assumption) | exact bk_6 (by assumption) | exact bk_7 (by assumption) | exact bk_8 (by assumption) | exact sh_ring _ (by first | assumption | omega) | exact sh_imgs _ (by first | assumption | omega)) (ro_X11_8 (by assumption)) ?_
      refine u_callV_0 dX11_odds_56 ml_X11_113 mv_X1_now (by first | assumption | rfl | exact led_1 (by assumption) | exact led_2 (by assumption) | exact bk_m (by assumption) (by first | assumption | omega) | exact bk_p (by assumption) (by first | assumption | omega) | exact bk_o (by assumption) (by first | assumption | omega) | exact bk_s (by assumption) (by first | assumption | omega) | exact bk_1 (by assumption) | exact bk_2 (by assumption) | exact bk_3 (by assumption) | exact bk_4 (by assumption) | exact bk_5 (by assumption) | exact bk_6 (by assumption) | exact bk_7 (by assumption) | exact bk_8 (by assumption) | exact sh_ring _ (by first | assumption | omega) | exact sh_imgs _ (by first | assumption | omega)) (by decide) rfl (by decide) (Nat.le_of_ble_eq_true rfl) (c_X1_now hR h1 ht ?_)
      refine v_iload_1 dX11_odds_59 ?_
      refine u_callV_3 dX11_odds_60 ml_X11_186 mv_X10_look (by first | assumption | rfl | exact led_1 (by assumption) | exact led_2 (by assumption) | exact bk_m (by assumption) (by first | assumption | omega) | exact bk_p (by assumption) (by first | assumption | omega) | exact bk_o (by assumption) (by first | assumption | omega) | exact bk_s (by assumption) (by first | assumption | omega) | exact bk_1 (by assumption) | exact bk_2 (by assumption) | exact bk_3 (by assumption) | exact bk_4 (by assumption) | exact bk_5 (by assumption) | exact bk_6 (by assumption) | exact bk_7 (by assumption) | exact bk_8 (by assumption) | exact sh_ring _ (by first | assumption | omega) | exact sh_imgs _ (by first | assumption | omega)) (by decide) rfl (by decide) (Nat.le_of_ble_eq_true rfl) (c_X10_look hR hB hF hO hS (fun x hx => by omega) hL.1 hps (by omega) (fun J hN hf1 hW hJ hJ2 => ?_))
      obtain ⟨z0, hz0, hz1, hz2⟩ := fls_some hO hK d
      have hwc : WcI J (F 2) (pgT F (S 0) d) (cdT F (S 0) d) := by
        have q := hW z0 hz0
        unfold pgT cdT tru; rw [hz0]; exact q
      have hh := hh.trans (fun a ha => ⟨hJ a (by omega) (by omega) (by omega) (by omega) (by omega) (by omega), rfl, ur_ne (by omega)⟩ : Hi _ J L L R (ur R 150 0 (some B)))
      have h := cb_q h (fun x hx => hJ x (by omega) (by omega) (by omega) (by omega) (by omega) (by omega)) (RO.up hR (a := 150) (k := 0) (v := some B) (by omega)) (ur_ne (by decide))
      have hR := cb_R h
      have hb := cb_b h
      have hF := cb_F h
      have h1 := cb_1 h
      have hL := cb_L h
      have hb6 : ur R 150 0 (some B) 150 0 = some B := ur_s
      have hfz : ∃ z : Nat, z < 2 ^ 31 ∧ J 150 1 = nI z := ⟨z0, by omega, by rw [hf1, hz0]; rfl⟩
      have hAb : wys (F 3) (pgT F (S 0) d) (cdT F (S 0) d) (F 2) 0 0 < 2 ^ 31 := wys_lt o3 o2
      have hAp : 0 < wys (F 3) (pgT F (S 0) d) (cdT F (S 0) d) (F 2) 0 0 := allT_pos hO hK d
      refine v_aload_0 dX11_odds_63 ?_
      refine u_getR dX11_odds_64 gf_X11_60 (by first | assumption | rfl | exact led_1 (by assumption) | exact led_2 (by assumption) | exact bk_m (by assumption) (by first | assumption | omega) | exact bk_p (by assumption) (by first | assumption | omega) | exact bk_o (by assumption) (by first | assumption | omega) | exact bk_s (by assumption) (by first | assumption | omega) | exact bk_1 (by assumption) | exact bk_2 (by assumption) | exact bk_3 (by assumption) | exact bk_4 (by assumption) | exact bk_5 (by assumption) | exact bk_6 (by assumption) | exact bk_7 (by assumption) | exact bk_8 (by assumption) | exact sh_ring _ (by first | assumption | omega) | exact sh_imgs _ (by first | assumption | omega)) (ro_X11_10 (by assumption)) ?_
      refine u_callV_0 dX11_odds_67 ml_X11_190 mv_X10_all (by first | assumption | rfl | exact led_1 (by assumption) | exact led_2 (by assumption) | exact bk_m (by assumption) (by first | assumption | omega) | exact bk_p (by assumption) (by first | assumption | omega) | exact bk_o (by assumption) (by first | assumption | omega) | exact bk_s (by assumption) (by first | assumption | omega) | exact bk_1 (by assumption) | exact bk_2 (by assumption) | exact bk_3 (by assumption) | exact bk_4 (by assumption) | exact bk_5 (by assumption) | exact bk_6 (by assumption) | exact bk_7 (by assumption) | exact bk_8 (by assumption) | exact sh_ring _ (by first | assumption | omega) | exact sh_imgs _ (by first | assumption | omega)) (by decide) rfl (by decide) (Nat.le_of_ble_eq_true rfl) (c_X10_all hR hB hb6 hF hO hwc hfz ?_)
      refine v_istore_5 rfl dX11_odds_70 ?_
      refine v_iload_5 dX11_odds_72 ?_
      refine v_if_ne (tgt := 86) dX11_odds_74 (by decide) (fun hc74 => ?_) (fun hc74 => ?_)
      · (first | rw [bI_0, Bool.not_eq_false] at hc74 | rw [bI_0] at hc74 | rw [show (0 : Int32) = nI 0 from rfl, nI_eq (by omega) (by omega)] at hc74 | skip)
        refine v_aload_0 dX11_odds_86 ?_
        refine u_getR dX11_odds_87 gf_X11_60 (by first | assumption | rfl | exact led_1 (by assumption) | exact led_2 (by assumption) | exact bk_m (by assumption) (by first | assumption | omega) | exact bk_p (by assumption) (by first | assumption | omega) | exact bk_o (by assumption) (by first | assumption | omega) | exact bk_s (by assumption) (by first | assumption | omega) | exact bk_1 (by assumption) | exact bk_2 (by assumption) | exact bk_3 (by assumption) | exact bk_4 (by assumption) | exact bk_5 (by assumption) | exact bk_6 (by assumption) | exact bk_7 (by assumption) | exact bk_8 (by assumption) | exact sh_ring _ (by first | assumption | omega) | exact sh_imgs _ (by first | assumption | omega)) (ro_X11_10 (by assumption)) ?_
        refine v_iload_2 dX11_odds_90 ?_
        refine v_iload_3 dX11_odds_91 ?_
        refine u_callV_2 dX11_odds_92 ml_X11_194 mv_X10_allWith (by first | assumption | rfl | exact led_1 (by assumption) | exact led_2 (by assumption) | exact bk_m (by assumption) (by first | assumption | omega) | exact bk_p (by assumption) (by first | assumption | omega) | exact bk_o (by assumption) (by first | assumption | omega) | exact bk_s (by assumption) (by first | assumption | omega) | exact bk_1 (by assumption) | exact bk_2 (by assumption) | exact bk_3 (by assumption) | exact bk_4 (by assumption) | exact bk_5 (by assumption) | exact bk_6 (by assumption) | exact bk_7 (by assumption) | exact bk_8 (by assumption) | exact sh_ring _ (by first | assumption | omega) | exact sh_imgs _ (by first | assumption | omega)) (by decide) rfl (by decide) (Nat.le_of_ble_eq_true rfl) (c_X10_allWith hR hB hb6 hF hO hwc hfz hm hp ?_)
        refine v_istore_6 rfl dX11_odds_95 ?_
        refine v_iload_5 dX11_odds_97 ?_
        refine v_iload_6 dX11_odds_99 ?_
        refine u_callS_2 dX11_odds_101 ml_X11_197 ms_X11_commonDivisor (by decide) (Nat.le_of_ble_eq_true rfl) (c_X11_commonDivisor hAb (alw_lt hO) ?_)
        have hgp : 0 < Nat.gcd (wys (F 3) (pgT F (S 0) d) (cdT F (S 0) d) (F 2) 0 0) (alw F (pgT F (S 0) d) (cdT F (S 0) d) m p) := Nat.gcd_pos_of_pos_left _ hAp
        have hgl : Nat.gcd (wys (F 3) (pgT F (S 0) d) (cdT F (S 0) d) (F 2) 0 0) (alw F (pgT F (S 0) d) (cdT F (S 0) d) m p) < 2 ^ 31 := Nat.lt_of_le_of_lt (Nat.gcd_le_left _ hAp) hAb
        rw [show (if 1 < Nat.gcd (wys (F 3) (pgT F (S 0) d) (cdT F (S 0) d) (F 2) 0 0) (alw F (pgT F (S 0) d) (cdT F (S 0) d) m p) then Nat.gcd (wys (F 3) (pgT F (S 0) d) (cdT F (S 0) d) (F 2) 0 0) (alw F (pgT F (S 0) d) (cdT F (S 0) d) m p) else 1) = Nat.gcd (wys (F 3) (pgT F (S 0) d) (cdT F (S 0) d) (F 2) 0 0) (alw F (pgT F (S 0) d) (cdT F (S 0) d) m p) from by split <;> omega]
        have hgne : nI (Nat.gcd (wys (F 3) (pgT F (S 0) d) (cdT F (S 0) d) (F 2) 0 0) (alw F (pgT F (S 0) d) (cdT F (S 0) d) m p)) ≠ 0 := fun q => by
          rw [show (0 : Int32) = nI 0 from rfl, nI_eq (by omega) (by omega)] at q; omega
        refine v_istore_7 rfl dX11_odds_104 ?_
        refine v_iload_4 dX11_odds_106 ?_
        refine v_if_eq (tgt := 116) dX11_odds_108 (by decide) (fun hc108 => ?_) (fun hc108 => ?_)
        · (first | rw [bI_0, Bool.not_eq_false] at hc108 | rw [bI_0] at hc108 | rw [show (0 : Int32) = nI 0 from rfl, nI_eq (by omega) (by omega)] at hc108 | skip)
          refine v_iload_6 dX11_odds_116 ?_
          refine v_iload_7 dX11_odds_118 ?_
          refine v_idiv dX11_odds_120 (by first | assumption | decide) ?_
          refine v_iret dX11_odds_121 rfl rfl rfl rfl ?_
          exact hQ.fin h hh rfl (by rw [a_odds, if_pos hc39, ed, em, ep, show lo = false from hc108]; simp only [if_true, Bool.false_eq_true, if_false]; rw [pk_div (alw_lt hO) hgp hgl]; rfl)
        · (first | rw [bI_0, Bool.not_eq_false] at hc108 | rw [bI_0] at hc108 | rw [show (0 : Int32) = nI 0 from rfl, nI_eq (by omega) (by omega)] at hc108 | skip)
          refine v_iload_5 dX11_odds_111 ?_
          refine v_goto (tgt := 118) dX11_odds_113 (by decide) ?_
          refine v_iload_7 dX11_odds_118 ?_
          refine v_idiv dX11_odds_120 (by first | assumption | decide) ?_
          refine v_iret dX11_odds_121 rfl rfl rfl rfl ?_
          exact hQ.fin h hh rfl (by rw [a_odds, if_pos hc39, ed, em, ep, show lo = true from hc108]; simp only [if_true, Bool.false_eq_true, if_false]; rw [pk_div hAb hgp hgl]; rfl)
      · (first | rw [bI_0, Bool.not_eq_false] at hc74 | rw [bI_0] at hc74 | rw [show (0 : Int32) = nI 0 from rfl, nI_eq (by omega) (by omega)] at hc74 | skip)
        exfalso; omega
    · (first | rw [bI_0, Bool.not_eq_false] at hc39 | rw [bI_0] at hc39 | rw [show (0 : Int32) = nI 0 from rfl, nI_eq (by omega) (by omega)] at hc39 | skip)
      refine v_iconst (v := -1) dX11_odds_42 (by decide) ?_
      refine v_iret dX11_odds_43 rfl rfl rfl rfl ?_
      exact hQ.fin h (hi_ui (by decide)) (by first | rfl | simp only [t_odds, hc39, if_true, Bool.false_eq_true, if_false]) (by simp only [a_odds, hc39, Bool.false_eq_true, if_false])
  refine v_aload_0 dX11_odds_0 ?_
  refine v_aload_0 dX11_odds_1 ?_
  refine u_getR dX11_odds_2 gf_X11_29 (by first | assumption | rfl | exact led_1 (by assumption) | exact led_2 (by assumption) | exact bk_m (by assumption) (by first | assumption | omega) | exact bk_p (by assumption) (by first | assumption | omega) | exact bk_o (by assumption) (by first | assumption | omega) | exact bk_s (by assumption) (by first | assumption | omega) | exact bk_1 (by assumption) | exact bk_2 (by assumption) | exact bk_3 (by assumption) | exact bk_4 (by assumption) | exact bk_5 (by assumption) | exact bk_6 (by assumption) | exact bk_7 (by assumption) | exact bk_8 (by assumption) | exact sh_ring _ (by first | assumption | omega) | exact sh_imgs _ (by first | assumption | omega)) (by assumption) ?_
  refine v_iload_2 dX11_odds_5 ?_
  refine u_callV_1 dX11_odds_6 ml_X11_96 mv_X0_hasMask (by first | assumption | rfl | exact led_1 (by assumption) | exact led_2 (by assumption) | exact bk_m (by assumption) (by first | assumption | omega) | exact bk_p (by assumption) (by first | assumption | omega) | exact bk_o (by assumption) (by first | assumption | omega) | exact bk_s (by assumption) (by first | assumption | omega) | exact bk_1 (by assumption) | exact bk_2 (by assumption) | exact bk_3 (by assumption) | exact bk_4 (by assumption) | exact bk_5 (by assumption) | exact bk_6 (by assumption) | exact bk_7 (by assumption) | exact bk_8 (by assumption) | exact sh_ring _ (by first | assumption | omega) | exact sh_imgs _ (by first | assumption | omega)) (by decide) rfl (by decide) (Nat.le_of_ble_eq_true rfl) (c_X0_hasMask hB hF ?_)
  refine v_if_eq (tgt := 27) dX11_odds_9 (by decide) (fun hc9 => ?_) (fun hc9 => ?_)
  · (first | rw [bI_0, Bool.not_eq_false] at hc9 | rw [bI_0] at hc9 | rw [show (0 : Int32) = nI 0 from rfl, nI_eq (by omega) (by omega)] at hc9 | skip)
    refine v_iconst (v := nI 0) dX11_odds_27 (by decide) ?_
    have e : (inb y (F 2) && inb z (F 3)) = false := by
      simp only [hc9, dle_f, dle_t, dlt_f, dlt_t, not_false_eq_true, Bool.and_true, Bool.and_false, Bool.true_and, Bool.false_and]
    rw [e] at cut
    exact cut
  · (first | rw [bI_0, Bool.not_eq_false] at hc9 | rw [bI_0] at hc9 | rw [show (0 : Int32) = nI 0 from rfl, nI_eq (by omega) (by omega)] at hc9 | skip)
    refine v_aload_0 dX11_odds_12 ?_
    refine u_getR dX11_odds_13 gf_X11_29 (by first | assumption | rfl | exact led_1 (by assumption) | exact led_2 (by assumption) | exact bk_m (by assumption) (by first | assumption | omega) | exact bk_p (by assumption) (by first | assumption | omega) | exact bk_o (by assumption) (by first | assumption | omega) | exact bk_s (by assumption) (by first | assumption | omega) | exact bk_1 (by assumption) | exact bk_2 (by assumption) | exact bk_3 (by assumption) | exact bk_4 (by assumption) | exact bk_5 (by assumption) | exact bk_6 (by assumption) | exact bk_7 (by assumption) | exact bk_8 (by assumption) | exact sh_ring _ (by first | assumption | omega) | exact sh_imgs _ (by first | assumption | omega)) (by assumption) ?_
    refine v_iload_3 dX11_odds_16 ?_
    refine u_callV_1 dX11_odds_17 ml_X11_99 mv_X0_hasPerson (by first | assumption | rfl | exact led_1 (by assumption) | exact led_2 (by assumption) | exact bk_m (by assumption) (by first | assumption | omega) | exact bk_p (by assumption) (by first | assumption | omega) | exact bk_o (by assumption) (by first | assumption | omega) | exact bk_s (by assumption) (by first | assumption | omega) | exact bk_1 (by assumption) | exact bk_2 (by assumption) | exact bk_3 (by assumption) | exact bk_4 (by assumption) | exact bk_5 (by assumption) | exact bk_6 (by assumption) | exact bk_7 (by assumption) | exact bk_8 (by assumption) | exact sh_ring _ (by first | assumption | omega) | exact sh_imgs _ (by first | assumption | omega)) (by decide) rfl (by decide) (Nat.le_of_ble_eq_true rfl) (c_X0_hasPerson hB hF ?_)
    refine v_if_eq (tgt := 27) dX11_odds_20 (by decide) (fun hc20 => ?_) (fun hc20 => ?_)
    · (first | rw [bI_0, Bool.not_eq_false] at hc20 | rw [bI_0] at hc20 | rw [show (0 : Int32) = nI 0 from rfl, nI_eq (by omega) (by omega)] at hc20 | skip)
      refine v_iconst (v := nI 0) dX11_odds_27 (by decide) ?_
      have e : (inb y (F 2) && inb z (F 3)) = false := by
        simp only [hc9, hc20, dle_f, dle_t, dlt_f, dlt_t, not_false_eq_true, Bool.and_true, Bool.and_false, Bool.true_and, Bool.false_and]
      rw [e] at cut
      exact cut
    · (first | rw [bI_0, Bool.not_eq_false] at hc20 | rw [bI_0] at hc20 | rw [show (0 : Int32) = nI 0 from rfl, nI_eq (by omega) (by omega)] at hc20 | skip)
      refine v_iconst (v := nI 1) dX11_odds_23 (by decide) ?_
      refine v_goto (tgt := 28) dX11_odds_24 (by decide) ?_
      have e : (inb y (F 2) && inb z (F 3)) = true := by
        simp only [hc9, hc20, dle_f, dle_t, dlt_f, dlt_t, not_false_eq_true, Bool.and_true, Bool.and_false, Bool.true_and, Bool.false_and]
      rw [e] at cut
      exact cut
theorem c_X11_areTwoMasks {x y : Int32} (h : ClsB I L R B B2 t tp nt tr fa pl F S u r im ic) (hQ : Q (some (.int (bI (inb x (F 2) && inb y (F 2) && decide (x ≠ y))))) SH I L R) : KK 1 mX11_areTwoMasks b ad [.ref (b + 0), .int x, .int y] I L R Q := by
  have hR := cb_R h
  have hb := cb_b h
  have hB := cb_B h
  have hF := cb_F h
  have hO := cb_O h
  have o0 := hO.1
  have o1 := hO.2.1
  have o2 := hO.2.2.1
  have o3 := hO.2.2.2.1
  have o4 := hO.2.2.2.2.1
  have o5 := hO.2.2.2.2.2.1
  have o6 := hO.2.2.2.2.2.2.1
  have h1 := cb_1 h
  have ht := cb_t h
  have hS := sh_ring t ht
  have hL := cb_L h
  have hK := cb_K h
  have hps := hK.pers
  refine K.of (M := mX11_areTwoMasks) (lv := [some (.ref (b + 0)), some (.int x), some (.int y)]) (by decide) (Nat.le_of_ble_eq_true rfl) rfl ?_
  refine v_aload_0 dX11_areTwoMasks_0 ?_
  refine u_getR dX11_areTwoMasks_1 gf_X11_29 (by first | assumption | rfl | exact led_1 (by assumption) | exact led_2 (by assumption) | exact bk_m (by assumption) (by first | assumption | omega) | exact bk_p (by assumption) (by first | assumption | omega) | exact bk_o (by assumption) (by first | assumption | omega) | exact bk_s (by assumption) (by first | assumption | omega) | exact bk_1 (by assumption) | exact bk_2 (by assumption) | exact bk_3 (by assumption) | exact bk_4 (by assumption) | exact bk_5 (by assumption) | exact bk_6 (by assumption) | exact bk_7 (by assumption) | exact bk_8 (by assumption) | exact sh_ring _ (by first | assumption | omega) | exact sh_imgs _ (by first | assumption | omega)) (by assumption) ?_
  refine v_iload_1 dX11_areTwoMasks_4 ?_
  refine u_callV_1 dX11_areTwoMasks_5 ml_X11_96 mv_X0_hasMask (by first | assumption | rfl | exact led_1 (by assumption) | exact led_2 (by assumption) | exact bk_m (by assumption) (by first | assumption | omega) | exact bk_p (by assumption) (by first | assumption | omega) | exact bk_o (by assumption) (by first | assumption | omega) | exact bk_s (by assumption) (by first | assumption | omega) | exact bk_1 (by assumption) | exact bk_2 (by assumption) | exact bk_3 (by assumption) | exact bk_4 (by assumption) | exact bk_5 (by assumption) | exact bk_6 (by assumption) | exact bk_7 (by assumption) | exact bk_8 (by assumption) | exact sh_ring _ (by first | assumption | omega) | exact sh_imgs _ (by first | assumption | omega)) (by decide) rfl (by decide) (Nat.le_of_ble_eq_true rfl) (c_X0_hasMask hB hF ?_)
  refine v_if_eq (tgt := 31) dX11_areTwoMasks_8 (by decide) (fun hc8 => ?_) (fun hc8 => ?_)
  · (first | rw [bI_0, Bool.not_eq_false] at hc8 | rw [bI_0] at hc8 | rw [show (0 : Int32) = nI 0 from rfl, nI_eq (by omega) (by omega)] at hc8 | skip)
    refine v_iconst (v := nI 0) dX11_areTwoMasks_31 (by decide) ?_
    refine v_zret dX11_areTwoMasks_32 rfl rfl rfl rfl rfl ?_
    have e : (inb x (F 2) && inb y (F 2) && decide (x ≠ y)) = false := by
      simp only [hc8, ne_eq, not_true_eq_false, not_false_eq_true, decide_true, decide_false, Bool.and_true, Bool.and_false, Bool.true_and, Bool.false_and]
    rw [e] at hQ
    exact hQ
  · (first | rw [bI_0, Bool.not_eq_false] at hc8 | rw [bI_0] at hc8 | rw [show (0 : Int32) = nI 0 from rfl, nI_eq (by omega) (by omega)] at hc8 | skip)
    refine v_aload_0 dX11_areTwoMasks_11 ?_
    refine u_getR dX11_areTwoMasks_12 gf_X11_29 (by first | assumption | rfl | exact led_1 (by assumption) | exact led_2 (by assumption) | exact bk_m (by assumption) (by first | assumption | omega) | exact bk_p (by assumption) (by first | assumption | omega) | exact bk_o (by assumption) (by first | assumption | omega) | exact bk_s (by assumption) (by first | assumption | omega) | exact bk_1 (by assumption) | exact bk_2 (by assumption) | exact bk_3 (by assumption) | exact bk_4 (by assumption) | exact bk_5 (by assumption) | exact bk_6 (by assumption) | exact bk_7 (by assumption) | exact bk_8 (by assumption) | exact sh_ring _ (by first | assumption | omega) | exact sh_imgs _ (by first | assumption | omega)) (by assumption) ?_
    refine v_iload_2 dX11_areTwoMasks_15 ?_
    refine u_callV_1 dX11_areTwoMasks_16 ml_X11_96 mv_X0_hasMask (by first | assumption | rfl | exact led_1 (by assumption) | exact led_2 (by assumption) | exact bk_m (by assumption) (by first | assumption | omega) | exact bk_p (by assumption) (by first | assumption | omega) | exact bk_o (by assumption) (by first | assumption | omega) | exact bk_s (by assumption) (by first | assumption | omega) | exact bk_1 (by assumption) | exact bk_2 (by assumption) | exact bk_3 (by assumption) | exact bk_4 (by assumption) | exact bk_5 (by assumption) | exact bk_6 (by assumption) | exact bk_7 (by assumption) | exact bk_8 (by assumption) | exact sh_ring _ (by first | assumption | omega) | exact sh_imgs _ (by first | assumption | omega)) (by decide) rfl (by decide) (Nat.le_of_ble_eq_true rfl) (c_X0_hasMask hB hF ?_)
    refine v_if_eq (tgt := 31) dX11_areTwoMasks_19 (by decide) (fun hc19 => ?_) (fun hc19 => ?_)
    · (first | rw [bI_0, Bool.not_eq_false] at hc19 | rw [bI_0] at hc19 | rw [show (0 : Int32) = nI 0 from rfl, nI_eq (by omega) (by omega)] at hc19 | skip)
      refine v_iconst (v := nI 0) dX11_areTwoMasks_31 (by decide) ?_
      refine v_zret dX11_areTwoMasks_32 rfl rfl rfl rfl rfl ?_
      have e : (inb x (F 2) && inb y (F 2) && decide (x ≠ y)) = false := by
        simp only [hc8, hc19, ne_eq, not_true_eq_false, not_false_eq_true, decide_true, decide_false, Bool.and_true, Bool.and_false, Bool.true_and, Bool.false_and]
      rw [e] at hQ
      exact hQ
    · (first | rw [bI_0, Bool.not_eq_false] at hc19 | rw [bI_0] at hc19 | rw [show (0 : Int32) = nI 0 from rfl, nI_eq (by omega) (by omega)] at hc19 | skip)
      refine v_iload_1 dX11_areTwoMasks_22 ?_
      refine v_iload_2 dX11_areTwoMasks_23 ?_
      refine v_icmp_eq (tgt := 31) dX11_areTwoMasks_24 (by decide) (fun hc24 => ?_) (fun hc24 => ?_)
      · (try rw [nI_eq (by omega) (by omega)] at hc24)
        refine v_iconst (v := nI 0) dX11_areTwoMasks_31 (by decide) ?_
        refine v_zret dX11_areTwoMasks_32 rfl rfl rfl rfl rfl ?_
        have e : (inb x (F 2) && inb y (F 2) && decide (x ≠ y)) = false := by
          simp only [hc8, hc19, hc24, ne_eq, not_true_eq_false, not_false_eq_true, decide_true, decide_false, Bool.and_true, Bool.and_false, Bool.true_and, Bool.false_and]
        rw [e] at hQ
        exact hQ
      · (try rw [nI_eq (by omega) (by omega)] at hc24)
        refine v_iconst (v := nI 1) dX11_areTwoMasks_27 (by decide) ?_
        refine v_goto (tgt := 32) dX11_areTwoMasks_28 (by decide) ?_
        refine v_zret dX11_areTwoMasks_32 rfl rfl rfl rfl rfl ?_
        have e : (inb x (F 2) && inb y (F 2) && decide (x ≠ y)) = true := by
          simp only [hc8, hc19, hc24, ne_eq, not_true_eq_false, not_false_eq_true, decide_true, decide_false, Bool.and_true, Bool.and_false, Bool.true_and, Bool.false_and]
        rw [e] at hQ
        exact hQ
def lcn (F : bkF) (s : LSt) (m o : Nat) : Nat := sun (fun p => bitc (prt F s.1 s.2.1 m o p)) 0 (F 3) 0
theorem lcn_lt {F : bkF} {n : Nat} {g : lends} (hO : FOK F) {m o : Nat} : sun (fun p => bitc (prt F n g m o p)) 0 (F 3) 0 < 2 ^ 30 := by
  have h := sun_le (f := fun p => bitc (prt F n g m o p)) (c := 8) (fun p => cup_le8 8 0) (F 3) 0 0
  have := hO.2.2.2.1
  omega
def a_lovers (F : bkF) (s : LSt) (x : Int32) (y : Int32) : Int32 := if (((inb x (F 2) && inb y (F 2) && decide (x ≠ y))) && true) = true then nI (lcn F s (tN x) (tN y)) else -1
def t_lovers (F : bkF) (s : LSt) (x : Int32) (y : Int32) : Nat := trc ((inb x (F 2) && inb y (F 2) && decide (x ≠ y))) (true)
theorem c_X11_lovers {x y : Int32} (h : ClsB I L R B B2 t tp nt tr fa pl F S u r im ic) (hQ : XQ I L R tp nt (t_lovers F (S 0) x y) fa pl F S u r im ic (a_lovers F (S 0) x y) Q) : KK 12 mX11_lovers b ad [.ref (b + 0), .int x, .int y] I L R Q := by
  have hR := cb_R h
  have hb := cb_b h
  have hB := cb_B h
  have hF := cb_F h
  have hO := cb_O h
  have o0 := hO.1
  have o1 := hO.2.1
  have o2 := hO.2.2.1
  have o3 := hO.2.2.2.1
  have o4 := hO.2.2.2.2.1
  have o5 := hO.2.2.2.2.2.1
  have o6 := hO.2.2.2.2.2.2.1
  have h1 := cb_1 h
  have ht := cb_t h
  have hS := sh_ring t ht
  have hL := cb_L h
  have hK := cb_K h
  have hps := hK.pers
  refine K.of (M := mX11_lovers) (lv := [some (.ref (b + 0)), some (.int x), some (.int y)]) (by decide) (Nat.le_of_ble_eq_true rfl) rfl ?_
  refine v_aload_0 dX11_lovers_0 ?_
  refine v_aload_0 dX11_lovers_1 ?_
  refine v_iload_1 dX11_lovers_2 ?_
  refine v_iload_2 dX11_lovers_3 ?_
  refine u_callV_2 dX11_lovers_4 ml_X11_226 mv_X11_areTwoMasks (by first | assumption | rfl | exact led_1 (by assumption) | exact led_2 (by assumption) | exact bk_m (by assumption) (by first | assumption | omega) | exact bk_p (by assumption) (by first | assumption | omega) | exact bk_o (by assumption) (by first | assumption | omega) | exact bk_s (by assumption) (by first | assumption | omega) | exact bk_1 (by assumption) | exact bk_2 (by assumption) | exact bk_3 (by assumption) | exact bk_4 (by assumption) | exact bk_5 (by assumption) | exact bk_6 (by assumption) | exact bk_7 (by assumption) | exact bk_8 (by assumption) | exact sh_ring _ (by first | assumption | omega) | exact sh_imgs _ (by first | assumption | omega)) (by decide) rfl (by decide) (Nat.le_of_ble_eq_true rfl) (c_X11_areTwoMasks h ?_)
  refine v_iconst (v := nI 1) dX11_lovers_7 (by decide) ?_
  refine u_callV_2 dX11_lovers_8 ml_X11_68 mv_X11_admit (by first | assumption | rfl | exact led_1 (by assumption) | exact led_2 (by assumption) | exact bk_m (by assumption) (by first | assumption | omega) | exact bk_p (by assumption) (by first | assumption | omega) | exact bk_o (by assumption) (by first | assumption | omega) | exact bk_s (by assumption) (by first | assumption | omega) | exact bk_1 (by assumption) | exact bk_2 (by assumption) | exact bk_3 (by assumption) | exact bk_4 (by assumption) | exact bk_5 (by assumption) | exact bk_6 (by assumption) | exact bk_7 (by assumption) | exact bk_8 (by assumption) | exact sh_ring _ (by first | assumption | omega) | exact sh_imgs _ (by first | assumption | omega)) (by decide) rfl (by decide) (Nat.le_of_ble_eq_true rfl) (c_X11_admit (p := (inb x (F 2) && inb y (F 2) && decide (x ≠ y))) (q := true) ?_)
  have hh : Hi I (ui I 0 2 (nI (trc ((inb x (F 2) && inb y (F 2) && decide (x ≠ y))) (true)))) L L R R := hi_ui (by decide)
  have h := cb_tr (v := trc ((inb x (F 2) && inb y (F 2) && decide (x ≠ y))) (true)) h (trc_lt _ _).1 (trc_lt _ _).2
  have hF := cb_F h
  have h1 := cb_1 h
  have hL := cb_L h
  refine v_if_ne (tgt := 16) dX11_lovers_11 (by decide) (fun hc11 => ?_) (fun hc11 => ?_)
  · (first | rw [bI_0, Bool.not_eq_false] at hc11 | rw [bI_0] at hc11 | rw [show (0 : Int32) = nI 0 from rfl, nI_eq (by omega) (by omega)] at hc11 | skip)
    have hA := hc11
    rw [Bool.and_eq_true] at hA
    obtain ⟨hA1, hA2⟩ := hA
    rw [Bool.and_eq_true, Bool.and_eq_true] at hA1
    obtain ⟨⟨hP, hP2⟩, hP3⟩ := hA1
    obtain ⟨m, rfl, hm⟩ := inb_ex (by omega) hP
    obtain ⟨o, rfl, ho⟩ := inb_ex (by omega) hP2
    have em : tN (nI m) = m := tN_nI (by omega)
    have eo : tN (nI o) = o := tN_nI (by omega)
    refine v_aload_0 dX11_lovers_16 ?_
    refine u_getR dX11_lovers_17 gf_X11_60 (by first | assumption | rfl | exact led_1 (by assumption) | exact led_2 (by assumption) | exact bk_m (by assumption) (by first | assumption | omega) | exact bk_p (by assumption) (by first | assumption | omega) | exact bk_o (by assumption) (by first | assumption | omega) | exact bk_s (by assumption) (by first | assumption | omega) | exact bk_1 (by assumption) | exact bk_2 (by assumption) | exact bk_3 (by assumption) | exact bk_4 (by assumption) | exact bk_5 (by assumption) | exact bk_6 (by assumption) | exact bk_7 (by assumption) | exact bk_8 (by assumption) | exact sh_ring _ (by first | assumption | omega) | exact sh_imgs _ (by first | assumption | omega)) (ro_X11_10 (by assumption)) ?_
    refine v_aload_0 dX11_lovers_20 ?_
    refine u_getR dX11_lovers_21 gf_X11_29 (by first | assumption | rfl | exact led_1 (by assumption) | exact led_2 (by assumption) | exact bk_m (by assumption) (by first | assumption | omega) | exact bk_p (by assumption) (by first | assumption | omega) | exact bk_o (by assumption) (by first | assumption | omega) | exact bk_s (by assumption) (by first | assumption | omega) | exact bk_1 (by assumption) | exact bk_2 (by assumption) | exact bk_3 (by assumption) | exact bk_4 (by assumption) | exact bk_5 (by assumption) | exact bk_6 (by assumption) | exact bk_7 (by assumption) | exact bk_8 (by assumption) | exact sh_ring _ (by first | assumption | omega) | exact sh_imgs _ (by first | assumption | omega)) (by assumption) ?_
    refine v_aload_0 dX11_lovers_24 ?_
    refine u_getR dX11_lovers_25 gf_X11_46 (by first | assumption | rfl | exact led_1 (by assumption) | exact led_2 (by assumption) | exact bk_m (by assumption) (by first | assumption | omega) | exact bk_p (by assumption) (by first | assumption | omega) | exact bk_o (by assumption) (by first | assumption | omega) | exact bk_s (by assumption) (by first | assumption | omega) | exact bk_1 (by assumption) | exact bk_2 (by assumption) | exact bk_3 (by assumption) | exact bk_4 (by assumption) | exact bk_5 (by assumption) | exact bk_6 (by assumption) | exact bk_7 (by assumption) | exact bk_8 (by assumption) | exact sh_ring _ (by first | assumption | omega) | exact sh_imgs _ (by first | assumption | omega)) (ro_X11_8 (by assumption)) ?_
    refine u_callV_0 dX11_lovers_28 ml_X11_113 mv_X1_now (by first | assumption | rfl | exact led_1 (by assumption) | exact led_2 (by assumption) | exact bk_m (by assumption) (by first | assumption | omega) | exact bk_p (by assumption) (by first | assumption | omega) | exact bk_o (by assumption) (by first | assumption | omega) | exact bk_s (by assumption) (by first | assumption | omega) | exact bk_1 (by assumption) | exact bk_2 (by assumption) | exact bk_3 (by assumption) | exact bk_4 (by assumption) | exact bk_5 (by assumption) | exact bk_6 (by assumption) | exact bk_7 (by assumption) | exact bk_8 (by assumption) | exact sh_ring _ (by first | assumption | omega) | exact sh_imgs _ (by first | assumption | omega)) (by decide) rfl (by decide) (Nat.le_of_ble_eq_true rfl) (c_X1_now hR h1 ht ?_)
    refine v_iload_1 dX11_lovers_31 ?_
    refine v_iload_2 dX11_lovers_32 ?_
    refine u_callV_4 dX11_lovers_33 ml_X11_229 mv_X10_pair (by first | assumption | rfl | exact led_1 (by assumption) | exact led_2 (by assumption) | exact bk_m (by assumption) (by first | assumption | omega) | exact bk_p (by assumption) (by first | assumption | omega) | exact bk_o (by assumption) (by first | assumption | omega) | exact bk_s (by assumption) (by first | assumption | omega) | exact bk_1 (by assumption) | exact bk_2 (by assumption) | exact bk_3 (by assumption) | exact bk_4 (by assumption) | exact bk_5 (by assumption) | exact bk_6 (by assumption) | exact bk_7 (by assumption) | exact bk_8 (by assumption) | exact sh_ring _ (by first | assumption | omega) | exact sh_imgs _ (by first | assumption | omega)) (by decide) rfl (by decide) (Nat.le_of_ble_eq_true rfl) (c_X10_pair hR hB hF hO hS (by omega) hL.1 hps (fun d _ _ => (fls_some hO hK d).imp fun _ q => q.1) hm ho (fun J hpt hJ => ?_))
    have hh := hh.trans (fun a ha => ⟨hJ a (by omega), rfl, ur_ne (by omega)⟩ : Hi _ J L L R (ur R 150 0 (some B)))
    have h := cb_q h (fun x hx => hJ x (by omega)) (RO.up hR (a := 150) (k := 0) (v := some B) (by omega)) (ur_ne (by decide))
    have hR := cb_R h
    have hb := cb_b h
    have hF := cb_F h
    have h1 := cb_1 h
    have hL := cb_L h
    have hb6 : ur R 150 0 (some B) 150 0 = some B := ur_s
    have hcl : sun (fun p => bitc (prt F (S 0).1 (S 0).2.1 m o p)) 0 (F 3) 0 < 2 ^ 30 := lcn_lt hO
    refine v_aload_0 dX11_lovers_36 ?_
    refine u_getR dX11_lovers_37 gf_X11_60 (by first | assumption | rfl | exact led_1 (by assumption) | exact led_2 (by assumption) | exact bk_m (by assumption) (by first | assumption | omega) | exact bk_p (by assumption) (by first | assumption | omega) | exact bk_o (by assumption) (by first | assumption | omega) | exact bk_s (by assumption) (by first | assumption | omega) | exact bk_1 (by assumption) | exact bk_2 (by assumption) | exact bk_3 (by assumption) | exact bk_4 (by assumption) | exact bk_5 (by assumption) | exact bk_6 (by assumption) | exact bk_7 (by assumption) | exact bk_8 (by assumption) | exact sh_ring _ (by first | assumption | omega) | exact sh_imgs _ (by first | assumption | omega)) (ro_X11_10 (by assumption)) ?_
    refine u_callV_0 dX11_lovers_40 ml_X11_233 mv_X10_pairCount (by first | assumption | rfl | exact led_1 (by assumption) | exact led_2 (by assumption) | exact bk_m (by assumption) (by first | assumption | omega) | exact bk_p (by assumption) (by first | assumption | omega) | exact bk_o (by assumption) (by first | assumption | omega) | exact bk_s (by assumption) (by first | assumption | omega) | exact bk_1 (by assumption) | exact bk_2 (by assumption) | exact bk_3 (by assumption) | exact bk_4 (by assumption) | exact bk_5 (by assumption) | exact bk_6 (by assumption) | exact bk_7 (by assumption) | exact bk_8 (by assumption) | exact sh_ring _ (by first | assumption | omega) | exact sh_imgs _ (by first | assumption | omega)) (by decide) rfl (by decide) (Nat.le_of_ble_eq_true rfl) (c_X10_pairCount hR hB hb6 hF hO hpt (prt_lt hO _ _ _ _) ?_)
    refine v_iret dX11_lovers_43 rfl rfl rfl rfl ?_
    exact hQ.fin h hh rfl (by rw [a_lovers, if_pos hc11, em, eo] <;> rfl)
  · (first | rw [bI_0, Bool.not_eq_false] at hc11 | rw [bI_0] at hc11 | rw [show (0 : Int32) = nI 0 from rfl, nI_eq (by omega) (by omega)] at hc11 | skip)
    refine v_iconst (v := -1) dX11_lovers_14 (by decide) ?_
    refine v_iret dX11_lovers_15 rfl rfl rfl rfl ?_
    exact hQ.fin h (hi_ui (by decide)) (by first | rfl | simp only [t_lovers, hc11, if_true, Bool.false_eq_true, if_false]) (by simp only [a_lovers, hc11, Bool.false_eq_true, if_false])
def a_lover (F : bkF) (s : LSt) (x y z : Int32) (sec : Bool) : Int32 := if ((inb x (F 2) && inb y (F 2) && decide (x ≠ y)) && true) = true then (if inb z (lcn F s (tN x) (tN y)) = true then eQ sec (opo (F 3) (prt F s.1 s.2.1 (tN x) (tN y)) 0 (F 3) (tN z)) else -1) else -1
def t_lover (F : bkF) (s : LSt) (x y z : Int32) (sec : Bool) : Nat := if ((inb x (F 2) && inb y (F 2) && decide (x ≠ y)) && true) = true then (if inb z (lcn F s (tN x) (tN y)) = true then 0 else 1) else trc (inb x (F 2) && inb y (F 2) && decide (x ≠ y)) true
theorem c_X11_lover {x : Int32} {y : Int32} {z : Int32} {sec : Bool} (h : ClsB I L R B B2 t tp nt tr fa pl F S u r im ic) (hQ : XQ I L R tp nt (t_lover F (S 0) x y z sec) fa pl F S u r im ic (a_lover F (S 0) x y z sec) Q) : KK 12 mX11_lover b ad [.ref (b + 0), .int x, .int y, .int z, .int (bI sec)] I L R Q := by
  have hR := cb_R h
  have hb := cb_b h
  have hB := cb_B h
  have hF := cb_F h
  have hO := cb_O h
  have o0 := hO.1
  have o1 := hO.2.1
  have o2 := hO.2.2.1
  have o3 := hO.2.2.2.1
  have o4 := hO.2.2.2.2.1
  have o5 := hO.2.2.2.2.2.1
  have o6 := hO.2.2.2.2.2.2.1
  have h1 := cb_1 h
  have ht := cb_t h
  have hS := sh_ring t ht
  have hL := cb_L h
  have hK := cb_K h
  have hps := hK.pers
  refine K.of (M := mX11_lover) (lv := [some (.ref (b + 0)), some (.int x), some (.int y), some (.int z), some (.int (bI sec))]) (by decide) (Nat.le_of_ble_eq_true rfl) rfl ?_
  refine v_aload_0 dX11_lover_0 ?_
  refine v_aload_0 dX11_lover_1 ?_
  refine v_iload_1 dX11_lover_2 ?_
  refine v_iload_2 dX11_lover_3 ?_
  refine u_callV_2 dX11_lover_4 ml_X11_226 mv_X11_areTwoMasks (by first | assumption | rfl | exact led_1 (by assumption) | exact led_2 (by assumption) | exact bk_m (by assumption) (by first | assumption | omega) | exact bk_p (by assumption) (by first | assumption | omega) | exact bk_o (by assumption) (by first | assumption | omega) | exact bk_s (by assumption) (by first | assumption | omega) | exact bk_1 (by assumption) | exact bk_2 (by assumption) | exact bk_3 (by assumption) | exact bk_4 (by assumption) | exact bk_5 (by assumption) | exact bk_6 (by assumption) | exact bk_7 (by assumption) | exact bk_8 (by assumption) | exact sh_ring _ (by first | assumption | omega) | exact sh_imgs _ (by first | assumption | omega)) (by decide) rfl (by decide) (Nat.le_of_ble_eq_true rfl) (c_X11_areTwoMasks h ?_)
  refine v_iconst (v := nI 1) dX11_lover_7 (by decide) ?_
  refine u_callV_2 dX11_lover_8 ml_X11_68 mv_X11_admit (by first | assumption | rfl | exact led_1 (by assumption) | exact led_2 (by assumption) | exact bk_m (by assumption) (by first | assumption | omega) | exact bk_p (by assumption) (by first | assumption | omega) | exact bk_o (by assumption) (by first | assumption | omega) | exact bk_s (by assumption) (by first | assumption | omega) | exact bk_1 (by assumption) | exact bk_2 (by assumption) | exact bk_3 (by assumption) | exact bk_4 (by assumption) | exact bk_5 (by assumption) | exact bk_6 (by assumption) | exact bk_7 (by assumption) | exact bk_8 (by assumption) | exact sh_ring _ (by first | assumption | omega) | exact sh_imgs _ (by first | assumption | omega)) (by decide) rfl (by decide) (Nat.le_of_ble_eq_true rfl) (c_X11_admit (p := (inb x (F 2) && inb y (F 2) && decide (x ≠ y))) (q := true) ?_)
  have hh : Hi I (ui I 0 2 (nI (trc ((inb x (F 2) && inb y (F 2) && decide (x ≠ y))) (true)))) L L R R := hi_ui (by decide)
  have h := cb_tr (v := trc ((inb x (F 2) && inb y (F 2) && decide (x ≠ y))) (true)) h (trc_lt _ _).1 (trc_lt _ _).2
  have hF := cb_F h
  have h1 := cb_1 h
  have hL := cb_L h
  refine v_if_ne (tgt := 16) dX11_lover_11 (by decide) (fun hc11 => ?_) (fun hc11 => ?_)
  · (first | rw [bI_0, Bool.not_eq_false] at hc11 | rw [bI_0] at hc11 | rw [show (0 : Int32) = nI 0 from rfl, nI_eq (by omega) (by omega)] at hc11 | skip)
    have hA := hc11
    rw [Bool.and_eq_true] at hA
    obtain ⟨hA1, hA2⟩ := hA
    rw [Bool.and_eq_true, Bool.and_eq_true] at hA1
    obtain ⟨⟨hP, hP2⟩, hP3⟩ := hA1
    obtain ⟨m, rfl, hm⟩ := inb_ex (by omega) hP
    obtain ⟨o, rfl, ho⟩ := inb_ex (by omega) hP2
    have em : tN (nI m) = m := tN_nI (by omega)
    have eo : tN (nI o) = o := tN_nI (by omega)
    refine v_aload_0 dX11_lover_16 ?_
    refine u_getR dX11_lover_17 gf_X11_60 (by first | assumption | rfl | exact led_1 (by assumption) | exact led_2 (by assumption) | exact bk_m (by assumption) (by first | assumption | omega) | exact bk_p (by assumption) (by first | assumption | omega) | exact bk_o (by assumption) (by first | assumption | omega) | exact bk_s (by assumption) (by first | assumption | omega) | exact bk_1 (by assumption) | exact bk_2 (by assumption) | exact bk_3 (by assumption) | exact bk_4 (by assumption) | exact bk_5 (by assumption) | exact bk_6 (by assumption) | exact bk_7 (by assumption) | exact bk_8 (by assumption) | exact sh_ring _ (by first | assumption | omega) | exact sh_imgs _ (by first | assumption | omega)) (ro_X11_10 (by assumption)) ?_
    refine v_aload_0 dX11_lover_20 ?_
    refine u_getR dX11_lover_21 gf_X11_29 (by first | assumption | rfl | exact led_1 (by assumption) | exact led_2 (by assumption) | exact bk_m (by assumption) (by first | assumption | omega) | exact bk_p (by assumption) (by first | assumption | omega) | exact bk_o (by assumption) (by first | assumption | omega) | exact bk_s (by assumption) (by first | assumption | omega) | exact bk_1 (by assumption) | exact bk_2 (by assumption) | exact bk_3 (by assumption) | exact bk_4 (by assumption) | exact bk_5 (by assumption) | exact bk_6 (by assumption) | exact bk_7 (by assumption) | exact bk_8 (by assumption) | exact sh_ring _ (by first | assumption | omega) | exact sh_imgs _ (by first | assumption | omega)) (by assumption) ?_
    refine v_aload_0 dX11_lover_24 ?_
    refine u_getR dX11_lover_25 gf_X11_46 (by first | assumption | rfl | exact led_1 (by assumption) | exact led_2 (by assumption) | exact bk_m (by assumption) (by first | assumption | omega) | exact bk_p (by assumption) (by first | assumption | omega) | exact bk_o (by assumption) (by first | assumption | omega) | exact bk_s (by assumption) (by first | assumption | omega) | exact bk_1 (by assumption) | exact bk_2 (by assumption) | exact bk_3 (by assumption) | exact bk_4 (by assumption) | exact bk_5 (by assumption) | exact bk_6 (by assumption) | exact bk_7 (by assumption) | exact bk_8 (by assumption) | exact sh_ring _ (by first | assumption | omega) | exact sh_imgs _ (by first | assumption | omega)) (ro_X11_8 (by assumption)) ?_
    refine u_callV_0 dX11_lover_28 ml_X11_113 mv_X1_now (by first | assumption | rfl | exact led_1 (by assumption) | exact led_2 (by assumption) | exact bk_m (by assumption) (by first | assumption | omega) | exact bk_p (by assumption) (by first | assumption | omega) | exact bk_o (by assumption) (by first | assumption | omega) | exact bk_s (by assumption) (by first | assumption | omega) | exact bk_1 (by assumption) | exact bk_2 (by assumption) | exact bk_3 (by assumption) | exact bk_4 (by assumption) | exact bk_5 (by assumption) | exact bk_6 (by assumption) | exact bk_7 (by assumption) | exact bk_8 (by assumption) | exact sh_ring _ (by first | assumption | omega) | exact sh_imgs _ (by first | assumption | omega)) (by decide) rfl (by decide) (Nat.le_of_ble_eq_true rfl) (c_X1_now hR h1 ht ?_)
    refine v_iload_1 dX11_lover_31 ?_
    refine v_iload_2 dX11_lover_32 ?_
    refine u_callV_4 dX11_lover_33 ml_X11_229 mv_X10_pair (by first | assumption | rfl | exact led_1 (by assumption) | exact led_2 (by assumption) | exact bk_m (by assumption) (by first | assumption | omega) | exact bk_p (by assumption) (by first | assumption | omega) | exact bk_o (by assumption) (by first | assumption | omega) | exact bk_s (by assumption) (by first | assumption | omega) | exact bk_1 (by assumption) | exact bk_2 (by assumption) | exact bk_3 (by assumption) | exact bk_4 (by assumption) | exact bk_5 (by assumption) | exact bk_6 (by assumption) | exact bk_7 (by assumption) | exact bk_8 (by assumption) | exact sh_ring _ (by first | assumption | omega) | exact sh_imgs _ (by first | assumption | omega)) (by decide) rfl (by decide) (Nat.le_of_ble_eq_true rfl) (c_X10_pair hR hB hF hO hS (by omega) hL.1 hps (fun d _ _ => (fls_some hO hK d).imp fun _ q => q.1) hm ho (fun J hpt hJ => ?_))
    have hh := hh.trans (fun a ha => ⟨hJ a (by omega), rfl, ur_ne (by omega)⟩ : Hi _ J L L R (ur R 150 0 (some B)))
    have h := cb_q h (fun x hx => hJ x (by omega)) (RO.up hR (a := 150) (k := 0) (v := some B) (by omega)) (ur_ne (by decide))
    have hR := cb_R h
    have hb := cb_b h
    have hF := cb_F h
    have h1 := cb_1 h
    have hL := cb_L h
    have hb6 : ur R 150 0 (some B) 150 0 = some B := ur_s
    have hcl : sun (fun p => bitc (prt F (S 0).1 (S 0).2.1 m o p)) 0 (F 3) 0 < 2 ^ 30 := lcn_lt hO
    refine v_iload_3 dX11_lover_36 ?_
    refine v_if_lt (tgt := 51) dX11_lover_37 (by decide) (fun hc37 => ?_) (fun hc37 => ?_)
    · (first | rw [show (0 : Int32) = nI 0 from rfl, nI_ltI (by omega) (by omega)] at hc37 | rw [show (0 : Int32) = nI 0 from rfl, nI_leI (by omega) (by omega)] at hc37 | skip)
      refine v_aload_0 dX11_lover_51 ?_
      refine v_iconst (v := nI 1) dX11_lover_52 (by decide) ?_
      refine u_callV_1 dX11_lover_53 ml_X11_78 mv_X11_refuse (by first | assumption | rfl | exact led_1 (by assumption) | exact led_2 (by assumption) | exact bk_m (by assumption) (by first | assumption | omega) | exact bk_p (by assumption) (by first | assumption | omega) | exact bk_o (by assumption) (by first | assumption | omega) | exact bk_s (by assumption) (by first | assumption | omega) | exact bk_1 (by assumption) | exact bk_2 (by assumption) | exact bk_3 (by assumption) | exact bk_4 (by assumption) | exact bk_5 (by assumption) | exact bk_6 (by assumption) | exact bk_7 (by assumption) | exact bk_8 (by assumption) | exact sh_ring _ (by first | assumption | omega) | exact sh_imgs _ (by first | assumption | omega)) (by decide) rfl (by decide) (Nat.le_of_ble_eq_true rfl) (c_X11_refuse ?_)
      refine v_pop dX11_lover_56 rfl ?_
      refine v_iconst (v := -1) dX11_lover_57 (by decide) ?_
      refine v_iret dX11_lover_58 rfl rfl rfl rfl ?_
      have e : inb z (lcn F (S 0) m o) = false := by
        unfold inb lcn
        rw [dle_f hc37, Bool.false_and]
      exact hQ.fin (cb_tr h (by decide) (by decide)) (hh.trans (hi_ui (by decide))) (by rw [t_lover, if_pos hc11, em, eo, e]; rfl) (by rw [a_lover, if_pos hc11, em, eo, e]; rfl)
    · (first | rw [show (0 : Int32) = nI 0 from rfl, nI_ltI (by omega) (by omega)] at hc37 | rw [show (0 : Int32) = nI 0 from rfl, nI_leI (by omega) (by omega)] at hc37 | skip)
      refine v_iload_3 dX11_lover_40 ?_
      refine v_aload_0 dX11_lover_41 ?_
      refine u_getR dX11_lover_42 gf_X11_60 (by first | assumption | rfl | exact led_1 (by assumption) | exact led_2 (by assumption) | exact bk_m (by assumption) (by first | assumption | omega) | exact bk_p (by assumption) (by first | assumption | omega) | exact bk_o (by assumption) (by first | assumption | omega) | exact bk_s (by assumption) (by first | assumption | omega) | exact bk_1 (by assumption) | exact bk_2 (by assumption) | exact bk_3 (by assumption) | exact bk_4 (by assumption) | exact bk_5 (by assumption) | exact bk_6 (by assumption) | exact bk_7 (by assumption) | exact bk_8 (by assumption) | exact sh_ring _ (by first | assumption | omega) | exact sh_imgs _ (by first | assumption | omega)) (ro_X11_10 (by assumption)) ?_
      refine u_callV_0 dX11_lover_45 ml_X11_233 mv_X10_pairCount (by first | assumption | rfl | exact led_1 (by assumption) | exact led_2 (by assumption) | exact bk_m (by assumption) (by first | assumption | omega) | exact bk_p (by assumption) (by first | assumption | omega) | exact bk_o (by assumption) (by first | assumption | omega) | exact bk_s (by assumption) (by first | assumption | omega) | exact bk_1 (by assumption) | exact bk_2 (by assumption) | exact bk_3 (by assumption) | exact bk_4 (by assumption) | exact bk_5 (by assumption) | exact bk_6 (by assumption) | exact bk_7 (by assumption) | exact bk_8 (by assumption) | exact sh_ring _ (by first | assumption | omega) | exact sh_imgs _ (by first | assumption | omega)) (by decide) rfl (by decide) (Nat.le_of_ble_eq_true rfl) (c_X10_pairCount hR hB hb6 hF hO hpt (prt_lt hO _ _ _ _) ?_)
      refine v_icmp_lt (tgt := 59) dX11_lover_48 (by decide) (fun hc48 => ?_) (fun hc48 => ?_)
      · (try rw [nI_ltI (by omega) (by omega)] at hc48)
        have hz : inb z (lcn F (S 0) m o) = true := by
          unfold inb lcn
          rw [dle_t hc37, Bool.true_and]
          exact decide_eq_true hc48
        obtain ⟨i, rfl, hi⟩ := inb_ex (Nat.lt_trans (show lcn F (S 0) m o < 2 ^ 30 from hcl) (by decide)) hz
        have ei : tN (nI i) = i := tN_nI (by have : lcn F (S 0) m o < 2 ^ 30 := hcl; omega)
        have hi3 : i < 2 ^ 30 := Nat.lt_trans hi hcl
        refine v_aload_0 dX11_lover_59 ?_
        refine u_getR dX11_lover_60 gf_X11_60 (by first | assumption | rfl | exact led_1 (by assumption) | exact led_2 (by assumption) | exact bk_m (by assumption) (by first | assumption | omega) | exact bk_p (by assumption) (by first | assumption | omega) | exact bk_o (by assumption) (by first | assumption | omega) | exact bk_s (by assumption) (by first | assumption | omega) | exact bk_1 (by assumption) | exact bk_2 (by assumption) | exact bk_3 (by assumption) | exact bk_4 (by assumption) | exact bk_5 (by assumption) | exact bk_6 (by assumption) | exact bk_7 (by assumption) | exact bk_8 (by assumption) | exact sh_ring _ (by first | assumption | omega) | exact sh_imgs _ (by first | assumption | omega)) (ro_X11_10 (by assumption)) ?_
        refine v_iload_3 dX11_lover_63 ?_
        refine v_iload_4 dX11_lover_64 ?_
        refine u_callV_2 dX11_lover_66 ml_X11_236 mv_X10_ofPair (by first | assumption | rfl | exact led_1 (by assumption) | exact led_2 (by assumption) | exact bk_m (by assumption) (by first | assumption | omega) | exact bk_p (by assumption) (by first | assumption | omega) | exact bk_o (by assumption) (by first | assumption | omega) | exact bk_s (by assumption) (by first | assumption | omega) | exact bk_1 (by assumption) | exact bk_2 (by assumption) | exact bk_3 (by assumption) | exact bk_4 (by assumption) | exact bk_5 (by assumption) | exact bk_6 (by assumption) | exact bk_7 (by assumption) | exact bk_8 (by assumption) | exact sh_ring _ (by first | assumption | omega) | exact sh_imgs _ (by first | assumption | omega)) (by decide) rfl (by decide) (Nat.le_of_ble_eq_true rfl) (c_X10_ofPair hR hB hb6 hF hO hpt (prt_lt hO _ _ _ _) (by omega) ?_)
        refine v_iret dX11_lover_69 rfl rfl rfl rfl ?_
        exact hQ.fin h hh (by rw [t_lover, if_pos hc11, em, eo, hz, if_pos rfl]; exact trc_0 hc11) (by rw [a_lover, if_pos hc11, em, eo, hz, if_pos rfl, ei])
      · (try rw [nI_ltI (by omega) (by omega)] at hc48)
        refine v_aload_0 dX11_lover_51 ?_
        refine v_iconst (v := nI 1) dX11_lover_52 (by decide) ?_
        refine u_callV_1 dX11_lover_53 ml_X11_78 mv_X11_refuse (by first | assumption | rfl | exact led_1 (by assumption) | exact led_2 (by assumption) | exact bk_m (by assumption) (by first | assumption | omega) | exact bk_p (by assumption) (by first | assumption | omega) | exact bk_o (by assumption) (by first | assumption | omega) | exact bk_s (by assumption) (by first | assumption | omega) | exact bk_1 (by assumption) | exact bk_2 (by assumption) | exact bk_3 (by assumption) | exact bk_4 (by assumption) | exact bk_5 (by assumption) | exact bk_6 (by assumption) | exact bk_7 (by assumption) | exact bk_8 (by assumption) | exact sh_ring _ (by first | assumption | omega) | exact sh_imgs _ (by first | assumption | omega)) (by decide) rfl (by decide) (Nat.le_of_ble_eq_true rfl) (c_X11_refuse ?_)
        refine v_pop dX11_lover_56 rfl ?_
        refine v_iconst (v := -1) dX11_lover_57 (by decide) ?_
        refine v_iret dX11_lover_58 rfl rfl rfl rfl ?_
        have e : inb z (lcn F (S 0) m o) = false := by
          unfold inb lcn
          rw [dlt_f (Int32.not_lt.1 hc48), Bool.and_false]
        exact hQ.fin (cb_tr h (by decide) (by decide)) (hh.trans (hi_ui (by decide))) (by rw [t_lover, if_pos hc11, em, eo, e]; rfl) (by rw [a_lover, if_pos hc11, em, eo, e]; rfl)
  · (first | rw [bI_0, Bool.not_eq_false] at hc11 | rw [bI_0] at hc11 | rw [show (0 : Int32) = nI 0 from rfl, nI_eq (by omega) (by omega)] at hc11 | skip)
    refine v_iconst (v := -1) dX11_lover_14 (by decide) ?_
    refine v_iret dX11_lover_15 rfl rfl rfl rfl ?_
    exact hQ.fin h (hi_ui (by decide)) (by first | rfl | simp only [t_lover, hc11, if_true, Bool.false_eq_true, if_false]) (by simp only [a_lover, hc11, Bool.false_eq_true, if_false])
end
