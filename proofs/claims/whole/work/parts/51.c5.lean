theorem ur_ne {R : HR} {a k x : Nat} {v : Option Nat} (h : x ≠ a) : ur R a k v x = R x := by simp [ur, h]
theorem ur_s {R : HR} {a k : Nat} {v : Option Nat} : ur R a k v a k = v := by simp [ur, va_up]
section
variable {b : Nat} {ad : Nat → Nat} {I : HI} {L : HL} {R : HR} {Q : QT} {B B2 t : Nat} {tp : Nat → Nat} {nt tr fa pl : Nat} {F : bkF} {S : Nat → LSt} {u r : Nat} {im : Nat → LSt} {ic : Nat}
def a_value (F : bkF) (s : LSt) (x : Int32) : Int32 := if ((decide (0 < F 0)) && ind x (F 0)) = true then zI (bzc F (tN x) (F 2) 0) else -10000
def t_value (F : bkF) (s : LSt) (x : Int32) : Nat := trc (decide (0 < F 0)) (ind x (F 0))
theorem c_X11_value {x : Int32} (h : ClsB I L R B B2 t tp nt tr fa pl F S u r im ic) (hQ : XQ I L R tp nt (t_value F (S 0) x) fa pl F S u r im ic (a_value F (S 0) x) Q) : KK 12 mX11_value b ad [.ref (b + 0), .int x] I L R Q := by
  have hR := cb_R h
  have hb := cb_b h
  have hB := cb_B h
  have hF := cb_F h
  have hO := cb_O h
  have o0 := hO.1
  have o1 := hO.2.1
  have o2 := hO.2.2.1
  have o3 := hO.2.2.2.1
  have o4 := hO.2.2.2.2.1
  have o5 := hO.2.2.2.2.2.1
  have o6 := hO.2.2.2.2.2.2.1
  have h1 := cb_1 h
  have ht := cb_t h
  have hS := sh_ring t ht
  have hL := cb_L h
  have hK := cb_K h
  have hps := hK.pers
  refine K.of (M := mX11_value) (lv := [some (.ref (b + 0)), some (.int x)]) (by decide) (Nat.le_of_ble_eq_true rfl) rfl ?_
  refine v_aload_0 dX11_value_0 ?_
  refine v_aload_0 dX11_value_1 ?_
  refine u_getR dX11_value_2 gf_X11_29 (by first | assumption | rfl | exact led_1 (by assumption) | exact led_2 (by assumption) | exact bk_m (by assumption) (by first | assumption | omega) | exact bk_p (by assumption) (by first | assumption | omega) | exact bk_o (by assumption) (by first | assumption | omega) | exact bk_s (by assumption) (by first | assumption | omega) | exact bk_1 (by assumption) | exact bk_2 (by assumption) | exact bk_3 (by assumption) | exact bk_4 (by assumption) | exact bk_5 (by assumption) | exact bk_6 (by assumption) | exact bk_7 (by assumption) | exact bk_8 (by assumption) | exact sh_ring _ (by first | assumption | omega) | exact sh_imgs _ (by first | assumption | omega)) (by assumption) ?_
  refine u_callV_0 dX11_value_5 ml_X11_150 mv_X0_isTold (by first | assumption | rfl | exact led_1 (by assumption) | exact led_2 (by assumption) | exact bk_m (by assumption) (by first | assumption | omega) | exact bk_p (by assumption) (by first | assumption | omega) | exact bk_o (by assumption) (by first | assumption | omega) | exact bk_s (by assumption) (by first | assumption | omega) | exact bk_1 (by assumption) | exact bk_2 (by assumption) | exact bk_3 (by assumption) | exact bk_4 (by assumption) | exact bk_5 (by assumption) | exact bk_6 (by assumption) | exact bk_7 (by assumption) | exact bk_8 (by assumption) | exact sh_ring _ (by first | assumption | omega) | exact sh_imgs _ (by first | assumption | omega)) (by decide) rfl (by decide) (Nat.le_of_ble_eq_true rfl) (c_X0_isTold hB hF hO ?_)
  refine v_aload_0 dX11_value_8 ?_
  refine u_getR dX11_value_9 gf_X11_29 (by first | assumption | rfl | exact led_1 (by assumption) | exact led_2 (by assumption) | exact bk_m (by assumption) (by first | assumption | omega) | exact bk_p (by assumption) (by first | assumption | omega) | exact bk_o (by assumption) (by first | assumption | omega) | exact bk_s (by assumption) (by first | assumption | omega) | exact bk_1 (by assumption) | exact bk_2 (by assumption) | exact bk_3 (by assumption) | exact bk_4 (by assumption) | exact bk_5 (by assumption) | exact bk_6 (by assumption) | exact bk_7 (by assumption) | exact bk_8 (by assumption) | exact sh_ring _ (by first | assumption | omega) | exact sh_imgs _ (by first | assumption | omega)) (by assumption) ?_
  refine v_iload_1 dX11_value_12 ?_
  refine u_callV_1 dX11_value_13 ml_X11_110 mv_X0_hasDay (by first | assumption | rfl | exact led_1 (by assumption) | exact led_2 (by assumption) | exact bk_m (by assumption) (by first | assumption | omega) | exact bk_p (by assumption) (by first | assumption | omega) | exact bk_o (by assumption) (by first | assumption | omega) | exact bk_s (by assumption) (by first | assumption | omega) | exact bk_1 (by assumption) | exact bk_2 (by assumption) | exact bk_3 (by assumption) | exact bk_4 (by assumption) | exact bk_5 (by assumption) | exact bk_6 (by assumption) | exact bk_7 (by assumption) | exact bk_8 (by assumption) | exact sh_ring _ (by first | assumption | omega) | exact sh_imgs _ (by first | assumption | omega)) (by decide) rfl (by decide) (Nat.le_of_ble_eq_true rfl) (c_X0_hasDay hB hF ?_)
  refine u_callV_2 dX11_value_16 ml_X11_68 mv_X11_admit (by first | assumption | rfl | exact led_1 (by assumption) | exact led_2 (by assumption) | exact bk_m (by assumption) (by first | assumption | omega) | exact bk_p (by assumption) (by first | assumption | omega) | exact bk_o (by assumption) (by first | assumption | omega) | exact bk_s (by assumption) (by first | assumption | omega) | exact bk_1 (by assumption) | exact bk_2 (by assumption) | exact bk_3 (by assumption) | exact bk_4 (by assumption) | exact bk_5 (by assumption) | exact bk_6 (by assumption) | exact bk_7 (by assumption) | exact bk_8 (by assumption) | exact sh_ring _ (by first | assumption | omega) | exact sh_imgs _ (by first | assumption | omega)) (by decide) rfl (by decide) (Nat.le_of_ble_eq_true rfl) (c_X11_admit (p := decide (0 < F 0)) (q := ind x (F 0)) ?_)
  have hh : Hi I (ui I 0 2 (nI (trc (decide (0 < F 0)) (ind x (F 0))))) L L R R := hi_ui (by decide)
  have h := cb_tr (v := trc (decide (0 < F 0)) (ind x (F 0))) h (trc_lt _ _).1 (trc_lt _ _).2
  have hF := cb_F h
  have h1 := cb_1 h
  have hL := cb_L h
  refine v_if_ne (tgt := 26) dX11_value_19 (by decide) (fun hc19 => ?_) (fun hc19 => ?_)
  · (first | rw [bI_0, Bool.not_eq_false] at hc19 | rw [bI_0] at hc19 | rw [show (0 : Int32) = nI 0 from rfl, nI_eq (by omega) (by omega)] at hc19 | skip)
    have hA := hc19
    rw [Bool.and_eq_true] at hA
    obtain ⟨hA1, hA2⟩ := hA
    obtain ⟨d, rfl, hd1, hd⟩ := ind_ex (by omega) hA2
    have ed : tN (nI d) = d := tN_nI (by omega)
    refine v_aload_0 dX11_value_26 ?_
    refine u_getR dX11_value_27 gf_X11_53 (by first | assumption | rfl | exact led_1 (by assumption) | exact led_2 (by assumption) | exact bk_m (by assumption) (by first | assumption | omega) | exact bk_p (by assumption) (by first | assumption | omega) | exact bk_o (by assumption) (by first | assumption | omega) | exact bk_s (by assumption) (by first | assumption | omega) | exact bk_1 (by assumption) | exact bk_2 (by assumption) | exact bk_3 (by assumption) | exact bk_4 (by assumption) | exact bk_5 (by assumption) | exact bk_6 (by assumption) | exact bk_7 (by assumption) | exact bk_8 (by assumption) | exact sh_ring _ (by first | assumption | omega) | exact sh_imgs _ (by first | assumption | omega)) (ro_X11_9 (by assumption)) ?_
    refine v_aload_0 dX11_value_30 ?_
    refine u_getR dX11_value_31 gf_X11_29 (by first | assumption | rfl | exact led_1 (by assumption) | exact led_2 (by assumption) | exact bk_m (by assumption) (by first | assumption | omega) | exact bk_p (by assumption) (by first | assumption | omega) | exact bk_o (by assumption) (by first | assumption | omega) | exact bk_s (by assumption) (by first | assumption | omega) | exact bk_1 (by assumption) | exact bk_2 (by assumption) | exact bk_3 (by assumption) | exact bk_4 (by assumption) | exact bk_5 (by assumption) | exact bk_6 (by assumption) | exact bk_7 (by assumption) | exact bk_8 (by assumption) | exact sh_ring _ (by first | assumption | omega) | exact sh_imgs _ (by first | assumption | omega)) (by assumption) ?_
    refine v_iload_1 dX11_value_34 ?_
    refine u_callV_2 dX11_value_35 ml_X11_160 mv_X5_weigh (by first | assumption | rfl | exact led_1 (by assumption) | exact led_2 (by assumption) | exact bk_m (by assumption) (by first | assumption | omega) | exact bk_p (by assumption) (by first | assumption | omega) | exact bk_o (by assumption) (by first | assumption | omega) | exact bk_s (by assumption) (by first | assumption | omega) | exact bk_1 (by assumption) | exact bk_2 (by assumption) | exact bk_3 (by assumption) | exact bk_4 (by assumption) | exact bk_5 (by assumption) | exact bk_6 (by assumption) | exact bk_7 (by assumption) | exact bk_8 (by assumption) | exact sh_ring _ (by first | assumption | omega) | exact sh_imgs _ (by first | assumption | omega)) (by decide) rfl (by decide) (Nat.le_of_ble_eq_true rfl) (c_X5_weigh hR hB hF hO (by omega) (fun J hP hT hJ => ?_))
    have h := cb_q h (fun x hx => hJ x (by omega) (by omega) (by omega) (by omega)) (RO.up hR (a := 145) (k := 0) (v := some B) (by omega)) (ur_ne (by decide))
    have hh := hh.trans (fun a ha => ⟨hJ a (by omega) (by omega) (by omega) (by omega), rfl, ur_ne (by omega)⟩ : Hi _ J L L R (ur R 145 0 (some B)))
    have hR := cb_R h
    have hb := cb_b h
    have hF := cb_F h
    have h1 := cb_1 h
    have hL := cb_L h
    have hb5 : ur R 145 0 (some B) 145 0 = some B := ur_s
    refine v_aload_0 dX11_value_38 ?_
    refine u_getR dX11_value_39 gf_X11_53 (by first | assumption | rfl | exact led_1 (by assumption) | exact led_2 (by assumption) | exact bk_m (by assumption) (by first | assumption | omega) | exact bk_p (by assumption) (by first | assumption | omega) | exact bk_o (by assumption) (by first | assumption | omega) | exact bk_s (by assumption) (by first | assumption | omega) | exact bk_1 (by assumption) | exact bk_2 (by assumption) | exact bk_3 (by assumption) | exact bk_4 (by assumption) | exact bk_5 (by assumption) | exact bk_6 (by assumption) | exact bk_7 (by assumption) | exact bk_8 (by assumption) | exact sh_ring _ (by first | assumption | omega) | exact sh_imgs _ (by first | assumption | omega)) (ro_X11_9 (by assumption)) ?_
    refine v_iconst (v := nI 0) dX11_value_42 (by decide) ?_
    refine u_callV_1 dX11_value_43 ml_X11_164 mv_X5_most (by first | assumption | rfl | exact led_1 (by assumption) | exact led_2 (by assumption) | exact bk_m (by assumption) (by first | assumption | omega) | exact bk_p (by assumption) (by first | assumption | omega) | exact bk_o (by assumption) (by first | assumption | omega) | exact bk_s (by assumption) (by first | assumption | omega) | exact bk_1 (by assumption) | exact bk_2 (by assumption) | exact bk_3 (by assumption) | exact bk_4 (by assumption) | exact bk_5 (by assumption) | exact bk_6 (by assumption) | exact bk_7 (by assumption) | exact bk_8 (by assumption) | exact sh_ring _ (by first | assumption | omega) | exact sh_imgs _ (by first | assumption | omega)) (by decide) rfl (by decide) (Nat.le_of_ble_eq_true rfl) (c_X5_most (s := 0) hR hT (by decide) ?_)
    refine v_iret dX11_value_46 rfl rfl rfl rfl ?_
    exact hQ.fin h hh rfl (by rw [a_value, if_pos hc19, ed])
  · (first | rw [bI_0, Bool.not_eq_false] at hc19 | rw [bI_0] at hc19 | rw [show (0 : Int32) = nI 0 from rfl, nI_eq (by omega) (by omega)] at hc19 | skip)
    refine v_sipush (v := -10000) dX11_value_22 (by decide) ?_
    refine v_iret dX11_value_25 rfl rfl rfl rfl ?_
    exact hQ.fin h (hi_ui (by decide)) (by first | rfl | simp only [t_value, hc19, if_true, Bool.false_eq_true, if_false]) (by simp only [a_value, hc19, Bool.false_eq_true, if_false])
def a_plan (F : bkF) (s : LSt) (x : Int32) (y : Int32) : Int32 := if ((inb y (F 2)) && ind x (F 0)) = true then eP (chz F (tN x) 0 (tN y + 1) 0 none) else -1
def t_plan (F : bkF) (s : LSt) (x : Int32) (y : Int32) : Nat := trc (inb y (F 2)) (ind x (F 0))
theorem c_X11_plan {x y : Int32} (h : ClsB I L R B B2 t tp nt tr fa pl F S u r im ic) (hQ : XQ I L R tp nt (t_plan F (S 0) x y) fa pl F S u r im ic (a_plan F (S 0) x y) Q) : KK 12 mX11_plan b ad [.ref (b + 0), .int x, .int y] I L R Q := by
  have hR := cb_R h
  have hb := cb_b h
  have hB := cb_B h
  have hF := cb_F h
  have hO := cb_O h
  have o0 := hO.1
  have o1 := hO.2.1
  have o2 := hO.2.2.1
  have o3 := hO.2.2.2.1
  have o4 := hO.2.2.2.2.1
  have o5 := hO.2.2.2.2.2.1
  have o6 := hO.2.2.2.2.2.2.1
  have h1 := cb_1 h
  have ht := cb_t h
  have hS := sh_ring t ht
  have hL := cb_L h
  have hK := cb_K h
  have hps := hK.pers
  refine K.of (M := mX11_plan) (lv := [some (.ref (b + 0)), some (.int x), some (.int y)]) (by decide) (Nat.le_of_ble_eq_true rfl) rfl ?_
  refine v_aload_0 dX11_plan_0 ?_
  refine v_aload_0 dX11_plan_1 ?_
  refine u_getR dX11_plan_2 gf_X11_29 (by first | assumption | rfl | exact led_1 (by assumption) | exact led_2 (by assumption) | exact bk_m (by assumption) (by first | assumption | omega) | exact bk_p (by assumption) (by first | assumption | omega) | exact bk_o (by assumption) (by first | assumption | omega) | exact bk_s (by assumption) (by first | assumption | omega) | exact bk_1 (by assumption) | exact bk_2 (by assumption) | exact bk_3 (by assumption) | exact bk_4 (by assumption) | exact bk_5 (by assumption) | exact bk_6 (by assumption) | exact bk_7 (by assumption) | exact bk_8 (by assumption) | exact sh_ring _ (by first | assumption | omega) | exact sh_imgs _ (by first | assumption | omega)) (by assumption) ?_
  refine v_iload_2 dX11_plan_5 ?_
  refine u_callV_1 dX11_plan_6 ml_X11_96 mv_X0_hasMask (by first | assumption | rfl | exact led_1 (by assumption) | exact led_2 (by assumption) | exact bk_m (by assumption) (by first | assumption | omega) | exact bk_p (by assumption) (by first | assumption | omega) | exact bk_o (by assumption) (by first | assumption | omega) | exact bk_s (by assumption) (by first | assumption | omega) | exact bk_1 (by assumption) | exact bk_2 (by assumption) | exact bk_3 (by assumption) | exact bk_4 (by assumption) | exact bk_5 (by assumption) | exact bk_6 (by assumption) | exact bk_7 (by assumption) | exact bk_8 (by assumption) | exact sh_ring _ (by first | assumption | omega) | exact sh_imgs _ (by first | assumption | omega)) (by decide) rfl (by decide) (Nat.le_of_ble_eq_true rfl) (c_X0_hasMask hB hF ?_)
  refine v_aload_0 dX11_plan_9 ?_
  refine u_getR dX11_plan_10 gf_X11_29 (by first | assumption | rfl | exact led_1 (by assumption) | exact led_2 (by assumption) | exact bk_m (by assumption) (by first | assumption | omega) | exact bk_p (by assumption) (by first | assumption | omega) | exact bk_o (by assumption) (by first | assumption | omega) | exact bk_s (by assumption) (by first | assumption | omega) | exact bk_1 (by assumption) | exact bk_2 (by assumption) | exact bk_3 (by assumption) | exact bk_4 (by assumption) | exact bk_5 (by assumption) | exact bk_6 (by assumption) | exact bk_7 (by assumption) | exact bk_8 (by assumption) | exact sh_ring _ (by first | assumption | omega) | exact sh_imgs _ (by first | assumption | omega)) (by assumption) ?_
  refine v_iload_1 dX11_plan_13 ?_
  refine u_callV_1 dX11_plan_14 ml_X11_110 mv_X0_hasDay (by first | assumption | rfl | exact led_1 (by assumption) | exact led_2 (by assumption) | exact bk_m (by assumption) (by first | assumption | omega) | exact bk_p (by assumption) (by first | assumption | omega) | exact bk_o (by assumption) (by first | assumption | omega) | exact bk_s (by assumption) (by first | assumption | omega) | exact bk_1 (by assumption) | exact bk_2 (by assumption) | exact bk_3 (by assumption) | exact bk_4 (by assumption) | exact bk_5 (by assumption) | exact bk_6 (by assumption) | exact bk_7 (by assumption) | exact bk_8 (by assumption) | exact sh_ring _ (by first | assumption | omega) | exact sh_imgs _ (by first | assumption | omega)) (by decide) rfl (by decide) (Nat.le_of_ble_eq_true rfl) (c_X0_hasDay hB hF ?_)
  refine u_callV_2 dX11_plan_17 ml_X11_68 mv_X11_admit (by first | assumption | rfl | exact led_1 (by assumption) | exact led_2 (by assumption) | exact bk_m (by assumption) (by first | assumption | omega) | exact bk_p (by assumption) (by first | assumption | omega) | exact bk_o (by assumption) (by first | assumption | omega) | exact bk_s (by assumption) (by first | assumption | omega) | exact bk_1 (by assumption) | exact bk_2 (by assumption) | exact bk_3 (by assumption) | exact bk_4 (by assumption) | exact bk_5 (by assumption) | exact bk_6 (by assumption) | exact bk_7 (by assumption) | exact bk_8 (by assumption) | exact sh_ring _ (by first | assumption | omega) | exact sh_imgs _ (by first | assumption | omega)) (by decide) rfl (by decide) (Nat.le_of_ble_eq_true rfl) (c_X11_admit (p := inb y (F 2)) (q := ind x (F 0)) ?_)
  have hh : Hi I (ui I 0 2 (nI (trc (inb y (F 2)) (ind x (F 0))))) L L R R := hi_ui (by decide)
  have h := cb_tr (v := trc (inb y (F 2)) (ind x (F 0))) h (trc_lt _ _).1 (trc_lt _ _).2
  have hF := cb_F h
  have h1 := cb_1 h
  have hL := cb_L h
  refine v_if_ne (tgt := 25) dX11_plan_20 (by decide) (fun hc20 => ?_) (fun hc20 => ?_)
  · (first | rw [bI_0, Bool.not_eq_false] at hc20 | rw [bI_0] at hc20 | rw [show (0 : Int32) = nI 0 from rfl, nI_eq (by omega) (by omega)] at hc20 | skip)
    have hA := hc20
    rw [Bool.and_eq_true] at hA
    obtain ⟨hA1, hA2⟩ := hA
    obtain ⟨m, rfl, hm⟩ := inb_ex (by omega) hA1
    have em : tN (nI m) = m := tN_nI (by omega)
    obtain ⟨d, rfl, hd1, hd⟩ := ind_ex (by omega) hA2
    have ed : tN (nI d) = d := tN_nI (by omega)
    refine v_aload_0 dX11_plan_25 ?_
    refine u_getR dX11_plan_26 gf_X11_53 (by first | assumption | rfl | exact led_1 (by assumption) | exact led_2 (by assumption) | exact bk_m (by assumption) (by first | assumption | omega) | exact bk_p (by assumption) (by first | assumption | omega) | exact bk_o (by assumption) (by first | assumption | omega) | exact bk_s (by assumption) (by first | assumption | omega) | exact bk_1 (by assumption) | exact bk_2 (by assumption) | exact bk_3 (by assumption) | exact bk_4 (by assumption) | exact bk_5 (by assumption) | exact bk_6 (by assumption) | exact bk_7 (by assumption) | exact bk_8 (by assumption) | exact sh_ring _ (by first | assumption | omega) | exact sh_imgs _ (by first | assumption | omega)) (ro_X11_9 (by assumption)) ?_
    refine v_aload_0 dX11_plan_29 ?_
    refine u_getR dX11_plan_30 gf_X11_29 (by first | assumption | rfl | exact led_1 (by assumption) | exact led_2 (by assumption) | exact bk_m (by assumption) (by first | assumption | omega) | exact bk_p (by assumption) (by first | assumption | omega) | exact bk_o (by assumption) (by first | assumption | omega) | exact bk_s (by assumption) (by first | assumption | omega) | exact bk_1 (by assumption) | exact bk_2 (by assumption) | exact bk_3 (by assumption) | exact bk_4 (by assumption) | exact bk_5 (by assumption) | exact bk_6 (by assumption) | exact bk_7 (by assumption) | exact bk_8 (by assumption) | exact sh_ring _ (by first | assumption | omega) | exact sh_imgs _ (by first | assumption | omega)) (by assumption) ?_
    refine v_iload_1 dX11_plan_33 ?_
    refine u_callV_2 dX11_plan_34 ml_X11_160 mv_X5_weigh (by first | assumption | rfl | exact led_1 (by assumption) | exact led_2 (by assumption) | exact bk_m (by assumption) (by first | assumption | omega) | exact bk_p (by assumption) (by first | assumption | omega) | exact bk_o (by assumption) (by first | assumption | omega) | exact bk_s (by assumption) (by first | assumption | omega) | exact bk_1 (by assumption) | exact bk_2 (by assumption) | exact bk_3 (by assumption) | exact bk_4 (by assumption) | exact bk_5 (by assumption) | exact bk_6 (by assumption) | exact bk_7 (by assumption) | exact bk_8 (by assumption) | exact sh_ring _ (by first | assumption | omega) | exact sh_imgs _ (by first | assumption | omega)) (by decide) rfl (by decide) (Nat.le_of_ble_eq_true rfl) (c_X5_weigh hR hB hF hO (by omega) (fun J hP hT hJ => ?_))
    have h := cb_q h (fun x hx => hJ x (by omega) (by omega) (by omega) (by omega)) (RO.up hR (a := 145) (k := 0) (v := some B) (by omega)) (ur_ne (by decide))
    have hh := hh.trans (fun a ha => ⟨hJ a (by omega) (by omega) (by omega) (by omega), rfl, ur_ne (by omega)⟩ : Hi _ J L L R (ur R 145 0 (some B)))
    have hR := cb_R h
    have hb := cb_b h
    have hF := cb_F h
    have h1 := cb_1 h
    have hL := cb_L h
    have hb5 : ur R 145 0 (some B) 145 0 = some B := ur_s
    refine v_aload_0 dX11_plan_37 ?_
    refine u_getR dX11_plan_38 gf_X11_53 (by first | assumption | rfl | exact led_1 (by assumption) | exact led_2 (by assumption) | exact bk_m (by assumption) (by first | assumption | omega) | exact bk_p (by assumption) (by first | assumption | omega) | exact bk_o (by assumption) (by first | assumption | omega) | exact bk_s (by assumption) (by first | assumption | omega) | exact bk_1 (by assumption) | exact bk_2 (by assumption) | exact bk_3 (by assumption) | exact bk_4 (by assumption) | exact bk_5 (by assumption) | exact bk_6 (by assumption) | exact bk_7 (by assumption) | exact bk_8 (by assumption) | exact sh_ring _ (by first | assumption | omega) | exact sh_imgs _ (by first | assumption | omega)) (ro_X11_9 (by assumption)) ?_
    refine v_iload_2 dX11_plan_41 ?_
    refine u_callV_1 dX11_plan_42 ml_X11_168 mv_X5_choice (by first | assumption | rfl | exact led_1 (by assumption) | exact led_2 (by assumption) | exact bk_m (by assumption) (by first | assumption | omega) | exact bk_p (by assumption) (by first | assumption | omega) | exact bk_o (by assumption) (by first | assumption | omega) | exact bk_s (by assumption) (by first | assumption | omega) | exact bk_1 (by assumption) | exact bk_2 (by assumption) | exact bk_3 (by assumption) | exact bk_4 (by assumption) | exact bk_5 (by assumption) | exact bk_6 (by assumption) | exact bk_7 (by assumption) | exact bk_8 (by assumption) | exact sh_ring _ (by first | assumption | omega) | exact sh_imgs _ (by first | assumption | omega)) (by decide) rfl (by decide) (Nat.le_of_ble_eq_true rfl) (c_X5_choice hR hB hb5 hF hO hP hT hm ?_)
    refine v_iret dX11_plan_45 rfl rfl rfl rfl ?_
    exact hQ.fin h hh rfl (by rw [a_plan, if_pos hc20, ed, em])
  · (first | rw [bI_0, Bool.not_eq_false] at hc20 | rw [bI_0] at hc20 | rw [show (0 : Int32) = nI 0 from rfl, nI_eq (by omega) (by omega)] at hc20 | skip)
    refine v_iconst (v := -1) dX11_plan_23 (by decide) ?_
    refine v_iret dX11_plan_24 rfl rfl rfl rfl ?_
    exact hQ.fin h (hi_ui (by decide)) (by first | rfl | simp only [t_plan, hc20, if_true, Bool.false_eq_true, if_false]) (by simp only [a_plan, hc20, Bool.false_eq_true, if_false])
theorem pow64 {p : Nat} (h : p < 6) : 2 ^ p < 64 := by
  have : 2 ^ p < 2 ^ 6 := Nat.pow_lt_pow_right (by decide) h
  exact this
def a_needed (F : bkF) (s : LSt) (x : Int32) (y : Int32) : Int32 := if ((inb y (F 3)) && ind x (F 0)) = true then zI (bzc F (tN x) (F 2) 0) - zI (bzc F (tN x) (F 2) (2 ^ tN y)) else -1
def t_needed (F : bkF) (s : LSt) (x : Int32) (y : Int32) : Nat := trc (inb y (F 3)) (ind x (F 0))
theorem c_X11_needed {x y : Int32} (h : ClsB I L R B B2 t tp nt tr fa pl F S u r im ic) (hQ : XQ I L R tp nt (t_needed F (S 0) x y) fa pl F S u r im ic (a_needed F (S 0) x y) Q) : KK 12 mX11_needed b ad [.ref (b + 0), .int x, .int y] I L R Q := by
  have hR := cb_R h
  have hb := cb_b h
  have hB := cb_B h
  have hF := cb_F h
  have hO := cb_O h
  have o0 := hO.1
  have o1 := hO.2.1
  have o2 := hO.2.2.1
  have o3 := hO.2.2.2.1
  have o4 := hO.2.2.2.2.1
  have o5 := hO.2.2.2.2.2.1
  have o6 := hO.2.2.2.2.2.2.1
  have h1 := cb_1 h
  have ht := cb_t h
  have hS := sh_ring t ht
  have hL := cb_L h
  have hK := cb_K h
  have hps := hK.pers
  refine K.of (M := mX11_needed) (lv := [some (.ref (b + 0)), some (.int x), some (.int y)]) (by decide) (Nat.le_of_ble_eq_true rfl) rfl ?_
  refine v_aload_0 dX11_needed_0 ?_
  refine v_aload_0 dX11_needed_1 ?_
  refine u_getR dX11_needed_2 gf_X11_29 (by first | assumption | rfl | exact led_1 (by assumption) | exact led_2 (by assumption) | exact bk_m (by assumption) (by first | assumption | omega) | exact bk_p (by assumption) (by first | assumption | omega) | exact bk_o (by assumption) (by first | assumption | omega) | exact bk_s (by assumption) (by first | assumption | omega) | exact bk_1 (by assumption) | exact bk_2 (by assumption) | exact bk_3 (by assumption) | exact bk_4 (by assumption) | exact bk_5 (by assumption) | exact bk_6 (by assumption) | exact bk_7 (by assumption) | exact bk_8 (by assumption) | exact sh_ring _ (by first | assumption | omega) | exact sh_imgs _ (by first | assumption | omega)) (by assumption) ?_
  refine v_iload_2 dX11_needed_5 ?_
  refine u_callV_1 dX11_needed_6 ml_X11_99 mv_X0_hasPerson (by first | assumption | rfl | exact led_1 (by assumption) | exact led_2 (by assumption) | exact bk_m (by assumption) (by first | assumption | omega) | exact bk_p (by assumption) (by first | assumption | omega) | exact bk_o (by assumption) (by first | assumption | omega) | exact bk_s (by assumption) (by first | assumption | omega) | exact bk_1 (by assumption) | exact bk_2 (by assumption) | exact bk_3 (by assumption) | exact bk_4 (by assumption) | exact bk_5 (by assumption) | exact bk_6 (by assumption) | exact bk_7 (by assumption) | exact bk_8 (by assumption) | exact sh_ring _ (by first | assumption | omega) | exact sh_imgs _ (by first | assumption | omega)) (by decide) rfl (by decide) (Nat.le_of_ble_eq_true rfl) (c_X0_hasPerson hB hF ?_)
  refine v_aload_0 dX11_needed_9 ?_
  refine u_getR dX11_needed_10 gf_X11_29 (by first | assumption | rfl | exact led_1 (by assumption) | exact led_2 (by assumption) | exact bk_m (by assumption) (by first | assumption | omega) | exact bk_p (by assumption) (by first | assumption | omega) | exact bk_o (by assumption) (by first | assumption | omega) | exact bk_s (by assumption) (by first | assumption | omega) | exact bk_1 (by assumption) | exact bk_2 (by assumption) | exact bk_3 (by assumption) | exact bk_4 (by assumption) | exact bk_5 (by assumption) | exact bk_6 (by assumption) | exact bk_7 (by assumption) | exact bk_8 (by assumption) | exact sh_ring _ (by first | assumption | omega) | exact sh_imgs _ (by first | assumption | omega)) (by assumption) ?_
  refine v_iload_1 dX11_needed_13 ?_
  refine u_callV_1 dX11_needed_14 ml_X11_110 mv_X0_hasDay (by first | assumption | rfl | exact led_1 (by assumption) | exact led_2 (by assumption) | exact bk_m (by assumption) (by first | assumption | omega) | exact bk_p (by assumption) (by first | assumption | omega) | exact bk_o (by assumption) (by first | assumption | omega) | exact bk_s (by assumption) (by first | assumption | omega) | exact bk_1 (by assumption) | exact bk_2 (by assumption) | exact bk_3 (by assumption) | exact bk_4 (by assumption) | exact bk_5 (by assumption) | exact bk_6 (by assumption) | exact bk_7 (by assumption) | exact bk_8 (by assumption) | exact sh_ring _ (by first | assumption | omega) | exact sh_imgs _ (by first | assumption | omega)) (by decide) rfl (by decide) (Nat.le_of_ble_eq_true rfl) (c_X0_hasDay hB hF ?_)
  refine u_callV_2 dX11_needed_17 ml_X11_68 mv_X11_admit (by first | assumption | rfl | exact led_1 (by assumption) | exact led_2 (by assumption) | exact bk_m (by assumption) (by first | assumption | omega) | exact bk_p (by assumption) (by first | assumption | omega) | exact bk_o (by assumption) (by first | assumption | omega) | exact bk_s (by assumption) (by first | assumption | omega) | exact bk_1 (by assumption) | exact bk_2 (by assumption) | exact bk_3 (by assumption) | exact bk_4 (by assumption) | exact bk_5 (by assumption) | exact bk_6 (by assumption) | exact bk_7 (by assumption) | exact bk_8 (by assumption) | exact sh_ring _ (by first | assumption | omega) | exact sh_imgs _ (by first | assumption | omega)) (by decide) rfl (by decide) (Nat.le_of_ble_eq_true rfl) (c_X11_admit (p := inb y (F 3)) (q := ind x (F 0)) ?_)
  have hh : Hi I (ui I 0 2 (nI (trc (inb y (F 3)) (ind x (F 0))))) L L R R := hi_ui (by decide)
  have h := cb_tr (v := trc (inb y (F 3)) (ind x (F 0))) h (trc_lt _ _).1 (trc_lt _ _).2
  have hF := cb_F h
  have h1 := cb_1 h
  have hL := cb_L h
  refine v_if_ne (tgt := 25) dX11_needed_20 (by decide) (fun hc20 => ?_) (fun hc20 => ?_)
  · (first | rw [bI_0, Bool.not_eq_false] at hc20 | rw [bI_0] at hc20 | rw [show (0 : Int32) = nI 0 from rfl, nI_eq (by omega) (by omega)] at hc20 | skip)
    have hA := hc20
    rw [Bool.and_eq_true] at hA
    obtain ⟨hA1, hA2⟩ := hA
    obtain ⟨p, rfl, hp⟩ := inb_ex (by omega) hA1
    have ep : tN (nI p) = p := tN_nI (by omega)
    obtain ⟨d, rfl, hd1, hd⟩ := ind_ex (by omega) hA2
    have ed : tN (nI d) = d := tN_nI (by omega)
    have p64 : 2 ^ p < 64 := pow64 (by omega)
    refine v_aload_0 dX11_needed_25 ?_
    refine u_getR dX11_needed_26 gf_X11_53 (by first | assumption | rfl | exact led_1 (by assumption) | exact led_2 (by assumption) | exact bk_m (by assumption) (by first | assumption | omega) | exact bk_p (by assumption) (by first | assumption | omega) | exact bk_o (by assumption) (by first | assumption | omega) | exact bk_s (by assumption) (by first | assumption | omega) | exact bk_1 (by assumption) | exact bk_2 (by assumption) | exact bk_3 (by assumption) | exact bk_4 (by assumption) | exact bk_5 (by assumption) | exact bk_6 (by assumption) | exact bk_7 (by assumption) | exact bk_8 (by assumption) | exact sh_ring _ (by first | assumption | omega) | exact sh_imgs _ (by first | assumption | omega)) (ro_X11_9 (by assumption)) ?_
    refine v_aload_0 dX11_needed_29 ?_
    refine u_getR dX11_needed_30 gf_X11_29 (by first | assumption | rfl | exact led_1 (by assumption) | exact led_2 (by assumption) | exact bk_m (by assumption) (by first | assumption | omega) | exact bk_p (by assumption) (by first | assumption | omega) | exact bk_o (by assumption) (by first | assumption | omega) | exact bk_s (by assumption) (by first | assumption | omega) | exact bk_1 (by assumption) | exact bk_2 (by assumption) | exact bk_3 (by assumption) | exact bk_4 (by assumption) | exact bk_5 (by assumption) | exact bk_6 (by assumption) | exact bk_7 (by assumption) | exact bk_8 (by assumption) | exact sh_ring _ (by first | assumption | omega) | exact sh_imgs _ (by first | assumption | omega)) (by assumption) ?_
    refine v_iload_1 dX11_needed_33 ?_
    refine u_callV_2 dX11_needed_34 ml_X11_160 mv_X5_weigh (by first | assumption | rfl | exact led_1 (by assumption) | exact led_2 (by assumption) | exact bk_m (by assumption) (by first | assumption | omega) | exact bk_p (by assumption) (by first | assumption | omega) | exact bk_o (by assumption) (by first | assumption | omega) | exact bk_s (by assumption) (by first | assumption | omega) | exact bk_1 (by assumption) | exact bk_2 (by assumption) | exact bk_3 (by assumption) | exact bk_4 (by assumption) | exact bk_5 (by assumption) | exact bk_6 (by assumption) | exact bk_7 (by assumption) | exact bk_8 (by assumption) | exact sh_ring _ (by first | assumption | omega) | exact sh_imgs _ (by first | assumption | omega)) (by decide) rfl (by decide) (Nat.le_of_ble_eq_true rfl) (c_X5_weigh hR hB hF hO (by omega) (fun J hP hT hJ => ?_))
    have h := cb_q h (fun x hx => hJ x (by omega) (by omega) (by omega) (by omega)) (RO.up hR (a := 145) (k := 0) (v := some B) (by omega)) (ur_ne (by decide))
    have hh := hh.trans (fun a ha => ⟨hJ a (by omega) (by omega) (by omega) (by omega), rfl, ur_ne (by omega)⟩ : Hi _ J L L R (ur R 145 0 (some B)))
    have hR := cb_R h
    have hb := cb_b h
    have hF := cb_F h
    have h1 := cb_1 h
    have hL := cb_L h
    have hb5 : ur R 145 0 (some B) 145 0 = some B := ur_s
    refine v_aload_0 dX11_needed_37 ?_
    refine u_getR dX11_needed_38 gf_X11_53 (by first | assumption | rfl | exact led_1 (by assumption) | exact led_2 (by assumption) | exact bk_m (by assumption) (by first | assumption | omega) | exact bk_p (by assumption) (by first | assumption | omega) | exact bk_o (by assumption) (by first | assumption | omega) | exact bk_s (by assumption) (by first | assumption | omega) | exact bk_1 (by assumption) | exact bk_2 (by assumption) | exact bk_3 (by assumption) | exact bk_4 (by assumption) | exact bk_5 (by assumption) | exact bk_6 (by assumption) | exact bk_7 (by assumption) | exact bk_8 (by assumption) | exact sh_ring _ (by first | assumption | omega) | exact sh_imgs _ (by first | assumption | omega)) (ro_X11_9 (by assumption)) ?_
    refine v_iconst (v := nI 0) dX11_needed_41 (by decide) ?_
    refine u_callV_1 dX11_needed_42 ml_X11_164 mv_X5_most (by first | assumption | rfl | exact led_1 (by assumption) | exact led_2 (by assumption) | exact bk_m (by assumption) (by first | assumption | omega) | exact bk_p (by assumption) (by first | assumption | omega) | exact bk_o (by assumption) (by first | assumption | omega) | exact bk_s (by assumption) (by first | assumption | omega) | exact bk_1 (by assumption) | exact bk_2 (by assumption) | exact bk_3 (by assumption) | exact bk_4 (by assumption) | exact bk_5 (by assumption) | exact bk_6 (by assumption) | exact bk_7 (by assumption) | exact bk_8 (by assumption) | exact sh_ring _ (by first | assumption | omega) | exact sh_imgs _ (by first | assumption | omega)) (by decide) rfl (by decide) (Nat.le_of_ble_eq_true rfl) (c_X5_most (s := 0) hR hT (by decide) ?_)
    refine v_aload_0 dX11_needed_45 ?_
    refine u_getR dX11_needed_46 gf_X11_53 (by first | assumption | rfl | exact led_1 (by assumption) | exact led_2 (by assumption) | exact bk_m (by assumption) (by first | assumption | omega) | exact bk_p (by assumption) (by first | assumption | omega) | exact bk_o (by assumption) (by first | assumption | omega) | exact bk_s (by assumption) (by first | assumption | omega) | exact bk_1 (by assumption) | exact bk_2 (by assumption) | exact bk_3 (by assumption) | exact bk_4 (by assumption) | exact bk_5 (by assumption) | exact bk_6 (by assumption) | exact bk_7 (by assumption) | exact bk_8 (by assumption) | exact sh_ring _ (by first | assumption | omega) | exact sh_imgs _ (by first | assumption | omega)) (ro_X11_9 (by assumption)) ?_
    refine v_iconst (v := nI 1) dX11_needed_49 (by decide) ?_
    refine v_iload_2 dX11_needed_50 ?_
    refine v_ishl dX11_needed_51 ?_
    rw [show nI 1 <<< (nI p &&& 31) = nI (2 ^ p) from by rw [sh_n (by omega) (by omega), Nat.one_mul]]
    refine u_callV_1 dX11_needed_52 ml_X11_164 mv_X5_most (by first | assumption | rfl | exact led_1 (by assumption) | exact led_2 (by assumption) | exact bk_m (by assumption) (by first | assumption | omega) | exact bk_p (by assumption) (by first | assumption | omega) | exact bk_o (by assumption) (by first | assumption | omega) | exact bk_s (by assumption) (by first | assumption | omega) | exact bk_1 (by assumption) | exact bk_2 (by assumption) | exact bk_3 (by assumption) | exact bk_4 (by assumption) | exact bk_5 (by assumption) | exact bk_6 (by assumption) | exact bk_7 (by assumption) | exact bk_8 (by assumption) | exact sh_ring _ (by first | assumption | omega) | exact sh_imgs _ (by first | assumption | omega)) (by decide) rfl (by decide) (Nat.le_of_ble_eq_true rfl) (c_X5_most (s := 2 ^ p) hR hT p64 ?_)
    refine v_isub dX11_needed_55 ?_
    refine v_iret dX11_needed_56 rfl rfl rfl rfl ?_
    exact hQ.fin h hh rfl (by rw [a_needed, if_pos hc20, ed, ep])
  · (first | rw [bI_0, Bool.not_eq_false] at hc20 | rw [bI_0] at hc20 | rw [show (0 : Int32) = nI 0 from rfl, nI_eq (by omega) (by omega)] at hc20 | skip)
    refine v_iconst (v := -1) dX11_needed_23 (by decide) ?_
    refine v_iret dX11_needed_24 rfl rfl rfl rfl ?_
    exact hQ.fin h (hi_ui (by decide)) (by first | rfl | simp only [t_needed, hc20, if_true, Bool.false_eq_true, if_false]) (by simp only [a_needed, hc20, Bool.false_eq_true, if_false])
theorem c_worth_loop (I0 : HI) (R0 : HR) : ∀ (j d : Nat) (acc : Int32) (I : HI) (R : HR), d + j = F 0 + 1 → ClsB I L R B B2 t tp nt tr fa pl F S u r im ic → Hi I0 I L L R0 R → (∀ I' R', ClsB I' L R' B B2 t tp nt tr fa pl F S u r im ic → Hi I0 I' L L R0 R' → Q (some (.int (sui (fun d => zI (bzc F d (F 2) 0)) d j acc))) SH I' L R') → VV yX11_worth cX11_worth 3 (some .int) 12 Q b ad 22 [some (.ref (b + 0)), some (.int (acc)), some (.int (nI d))] [] I L R := by
  intro j
  induction j with
  | zero =>
    intro d acc I R hdj h hh k
    have hR := cb_R h
    have hb := cb_b h
    have hB := cb_B h
    have hF := cb_F h
    have hO := cb_O h
    have o0 := hO.1
    have o1 := hO.2.1
    have o2 := hO.2.2.1
    have o3 := hO.2.2.2.1
    have o4 := hO.2.2.2.2.1
    have o5 := hO.2.2.2.2.2.1
    have o6 := hO.2.2.2.2.2.2.1
    have h1 := cb_1 h
    have ht := cb_t h
    have hS := sh_ring t ht
    have hL := cb_L h
    have hK := cb_K h
    have hps := hK.pers
    refine v_iload_2 dX11_worth_22 ?_
    refine v_aload_0 dX11_worth_23 ?_
    refine u_getR dX11_worth_24 gf_X11_29 (by first | assumption | rfl | exact led_1 (by assumption) | exact led_2 (by assumption) | exact bk_m (by assumption) (by first | assumption | omega) | exact bk_p (by assumption) (by first | assumption | omega) | exact bk_o (by assumption) (by first | assumption | omega) | exact bk_s (by assumption) (by first | assumption | omega) | exact bk_1 (by assumption) | exact bk_2 (by assumption) | exact bk_3 (by assumption) | exact bk_4 (by assumption) | exact bk_5 (by assumption) | exact bk_6 (by assumption) | exact bk_7 (by assumption) | exact bk_8 (by assumption) | exact sh_ring _ (by first | assumption | omega) | exact sh_imgs _ (by first | assumption | omega)) (by assumption) ?_
    refine u_getI dX11_worth_27 gf_X11_154 (by first | assumption | rfl | exact led_1 (by assumption) | exact led_2 (by assumption) | exact bk_m (by assumption) (by first | assumption | omega) | exact bk_p (by assumption) (by first | assumption | omega) | exact bk_o (by assumption) (by first | assumption | omega) | exact bk_s (by assumption) (by first | assumption | omega) | exact bk_1 (by assumption) | exact bk_2 (by assumption) | exact bk_3 (by assumption) | exact bk_4 (by assumption) | exact bk_5 (by assumption) | exact bk_6 (by assumption) | exact bk_7 (by assumption) | exact bk_8 (by assumption) | exact sh_ring _ (by first | assumption | omega) | exact sh_imgs _ (by first | assumption | omega)) ?_
    (try rw [bx0 hF])
    refine v_icmp_gt (tgt := 62) dX11_worth_30 (by decide) (fun hc30 => ?_) (fun hc30 => ?_)
    · (try rw [nI_ltI (by omega) (by omega)] at hc30)
      refine v_iload_1 dX11_worth_62 ?_
      refine v_iret dX11_worth_63 rfl rfl rfl rfl ?_
      exact k I R h hh
    · (try rw [nI_ltI (by omega) (by omega)] at hc30)
      exfalso; omega
  | succ j ih =>
    intro d acc I R hdj h hh k
    simp only [sui] at k
    have hR := cb_R h
    have hb := cb_b h
    have hB := cb_B h
    have hF := cb_F h
    have hO := cb_O h
    have o0 := hO.1
    have o1 := hO.2.1
    have o2 := hO.2.2.1
    have o3 := hO.2.2.2.1
    have o4 := hO.2.2.2.2.1
    have o5 := hO.2.2.2.2.2.1
    have o6 := hO.2.2.2.2.2.2.1
    have h1 := cb_1 h
    have ht := cb_t h
    have hS := sh_ring t ht
    have hL := cb_L h
    have hK := cb_K h
    have hps := hK.pers
    refine v_iload_2 dX11_worth_22 ?_
    refine v_aload_0 dX11_worth_23 ?_
    refine u_getR dX11_worth_24 gf_X11_29 (by first | assumption | rfl | exact led_1 (by assumption) | exact led_2 (by assumption) | exact bk_m (by assumption) (by first | assumption | omega) | exact bk_p (by assumption) (by first | assumption | omega) | exact bk_o (by assumption) (by first | assumption | omega) | exact bk_s (by assumption) (by first | assumption | omega) | exact bk_1 (by assumption) | exact bk_2 (by assumption) | exact bk_3 (by assumption) | exact bk_4 (by assumption) | exact bk_5 (by assumption) | exact bk_6 (by assumption) | exact bk_7 (by assumption) | exact bk_8 (by assumption) | exact sh_ring _ (by first | assumption | omega) | exact sh_imgs _ (by first | assumption | omega)) (by assumption) ?_
    refine u_getI dX11_worth_27 gf_X11_154 (by first | assumption | rfl | exact led_1 (by assumption) | exact led_2 (by assumption) | exact bk_m (by assumption) (by first | assumption | omega) | exact bk_p (by assumption) (by first | assumption | omega) | exact bk_o (by assumption) (by first | assumption | omega) | exact bk_s (by assumption) (by first | assumption | omega) | exact bk_1 (by assumption) | exact bk_2 (by assumption) | exact bk_3 (by assumption) | exact bk_4 (by assumption) | exact bk_5 (by assumption) | exact bk_6 (by assumption) | exact bk_7 (by assumption) | exact bk_8 (by assumption) | exact sh_ring _ (by first | assumption | omega) | exact sh_imgs _ (by first | assumption | omega)) ?_
    (try rw [bx0 hF])
    refine v_icmp_gt (tgt := 62) dX11_worth_30 (by decide) (fun hc30 => ?_) (fun hc30 => ?_)
    · (try rw [nI_ltI (by omega) (by omega)] at hc30)
      exfalso; omega
    · (try rw [nI_ltI (by omega) (by omega)] at hc30)
      refine v_aload_0 dX11_worth_33 ?_
      refine u_getR dX11_worth_34 gf_X11_53 (by first | assumption | rfl | exact led_1 (by assumption) | exact led_2 (by assumption) | exact bk_m (by assumption) (by first | assumption | omega) | exact bk_p (by assumption) (by first | assumption | omega) | exact bk_o (by assumption) (by first | assumption | omega) | exact bk_s (by assumption) (by first | assumption | omega) | exact bk_1 (by assumption) | exact bk_2 (by assumption) | exact bk_3 (by assumption) | exact bk_4 (by assumption) | exact bk_5 (by assumption) | exact bk_6 (by assumption) | exact bk_7 (by assumption) | exact bk_8 (by assumption) | exact sh_ring _ (by first | assumption | omega) | exact sh_imgs _ (by first | assumption | omega)) (ro_X11_9 (by assumption)) ?_
      refine v_aload_0 dX11_worth_37 ?_
      refine u_getR dX11_worth_38 gf_X11_29 (by first | assumption | rfl | exact led_1 (by assumption) | exact led_2 (by assumption) | exact bk_m (by assumption) (by first | assumption | omega) | exact bk_p (by assumption) (by first | assumption | omega) | exact bk_o (by assumption) (by first | assumption | omega) | exact bk_s (by assumption) (by first | assumption | omega) | exact bk_1 (by assumption) | exact bk_2 (by assumption) | exact bk_3 (by assumption) | exact bk_4 (by assumption) | exact bk_5 (by assumption) | exact bk_6 (by assumption) | exact bk_7 (by assumption) | exact bk_8 (by assumption) | exact sh_ring _ (by first | assumption | omega) | exact sh_imgs _ (by first | assumption | omega)) (by assumption) ?_
      refine v_iload_2 dX11_worth_41 ?_
      refine u_callV_2 dX11_worth_42 ml_X11_160 mv_X5_weigh (by first | assumption | rfl | exact led_1 (by assumption) | exact led_2 (by assumption) | exact bk_m (by assumption) (by first | assumption | omega) | exact bk_p (by assumption) (by first | assumption | omega) | exact bk_o (by assumption) (by first | assumption | omega) | exact bk_s (by assumption) (by first | assumption | omega) | exact bk_1 (by assumption) | exact bk_2 (by assumption) | exact bk_3 (by assumption) | exact bk_4 (by assumption) | exact bk_5 (by assumption) | exact bk_6 (by assumption) | exact bk_7 (by assumption) | exact bk_8 (by assumption) | exact sh_ring _ (by first | assumption | omega) | exact sh_imgs _ (by first | assumption | omega)) (by decide) rfl (by decide) (Nat.le_of_ble_eq_true rfl) (c_X5_weigh hR hB hF hO (by omega) (fun J hP hT hJ => ?_))
      have hh2 : Hi I0 J L L R0 (ur R 145 0 (some B)) := hh.trans (fun a ha => ⟨hJ a (by omega) (by omega) (by omega) (by omega), rfl, ur_ne (by omega)⟩)
      have h := cb_q h (fun x hx => hJ x (by omega) (by omega) (by omega) (by omega)) (RO.up hR (a := 145) (k := 0) (v := some B) (by omega)) (ur_ne (by decide))
      have hR := cb_R h
      have hb := cb_b h
      have hF := cb_F h
      refine v_iload_1 dX11_worth_45 ?_
      refine v_aload_0 dX11_worth_46 ?_
      refine u_getR dX11_worth_47 gf_X11_53 (by first | assumption | rfl | exact led_1 (by assumption) | exact led_2 (by assumption) | exact bk_m (by assumption) (by first | assumption | omega) | exact bk_p (by assumption) (by first | assumption | omega) | exact bk_o (by assumption) (by first | assumption | omega) | exact bk_s (by assumption) (by first | assumption | omega) | exact bk_1 (by assumption) | exact bk_2 (by assumption) | exact bk_3 (by assumption) | exact bk_4 (by assumption) | exact bk_5 (by assumption) | exact bk_6 (by assumption) | exact bk_7 (by assumption) | exact bk_8 (by assumption) | exact sh_ring _ (by first | assumption | omega) | exact sh_imgs _ (by first | assumption | omega)) (ro_X11_9 (by assumption)) ?_
      refine v_iconst (v := nI 0) dX11_worth_50 (by decide) ?_
      refine u_callV_1 dX11_worth_51 ml_X11_164 mv_X5_most (by first | assumption | rfl | exact led_1 (by assumption) | exact led_2 (by assumption) | exact bk_m (by assumption) (by first | assumption | omega) | exact bk_p (by assumption) (by first | assumption | omega) | exact bk_o (by assumption) (by first | assumption | omega) | exact bk_s (by assumption) (by first | assumption | omega) | exact bk_1 (by assumption) | exact bk_2 (by assumption) | exact bk_3 (by assumption) | exact bk_4 (by assumption) | exact bk_5 (by assumption) | exact bk_6 (by assumption) | exact bk_7 (by assumption) | exact bk_8 (by assumption) | exact sh_ring _ (by first | assumption | omega) | exact sh_imgs _ (by first | assumption | omega)) (by decide) rfl (by decide) (Nat.le_of_ble_eq_true rfl) (c_X5_most (s := 0) hR hT (by decide) ?_)
      refine v_iadd dX11_worth_54 ?_
      refine v_istore_1 rfl dX11_worth_55 ?_
      refine v_iinc_2 (v := 1) rfl dX11_worth_56 (by decide) ?_
      refine v_goto (tgt := 22) dX11_worth_59 (by decide) ?_
      rw [← nI_succ]
      exact ih (d + 1) (acc + zI (bzc F d (F 2) 0)) J _ (by omega) h hh2 (fun J2 R2 q1 q2 => k J2 R2 q1 q2)
def a_worth (F : bkF) (s : LSt)  : Int32 := if ((decide (0 < F 0)) && true) = true then sui (fun d => zI (bzc F d (F 2) 0)) 1 (F 0) 0 else -100000
def t_worth (F : bkF) (s : LSt)  : Nat := trc (decide (0 < F 0)) (true)
theorem c_X11_worth  (h : ClsB I L R B B2 t tp nt tr fa pl F S u r im ic) (hQ : XQ I L R tp nt (t_worth F (S 0) ) fa pl F S u r im ic (a_worth F (S 0) ) Q) : KK 12 mX11_worth b ad [.ref (b + 0)] I L R Q := by
  have hR := cb_R h
  have hb := cb_b h
  have hB := cb_B h
  have hF := cb_F h
  have hO := cb_O h
  have o0 := hO.1
  have o1 := hO.2.1
  have o2 := hO.2.2.1
  have o3 := hO.2.2.2.1
  have o4 := hO.2.2.2.2.1
  have o5 := hO.2.2.2.2.2.1
  have o6 := hO.2.2.2.2.2.2.1
  have h1 := cb_1 h
  have ht := cb_t h
  have hS := sh_ring t ht
  have hL := cb_L h
  have hK := cb_K h
  have hps := hK.pers
  refine K.of (M := mX11_worth) (lv := [some (.ref (b + 0)), none, none]) (by decide) (Nat.le_of_ble_eq_true rfl) rfl ?_
  refine v_aload_0 dX11_worth_0 ?_
  refine v_aload_0 dX11_worth_1 ?_
  refine u_getR dX11_worth_2 gf_X11_29 (by first | assumption | rfl | exact led_1 (by assumption) | exact led_2 (by assumption) | exact bk_m (by assumption) (by first | assumption | omega) | exact bk_p (by assumption) (by first | assumption | omega) | exact bk_o (by assumption) (by first | assumption | omega) | exact bk_s (by assumption) (by first | assumption | omega) | exact bk_1 (by assumption) | exact bk_2 (by assumption) | exact bk_3 (by assumption) | exact bk_4 (by assumption) | exact bk_5 (by assumption) | exact bk_6 (by assumption) | exact bk_7 (by assumption) | exact bk_8 (by assumption) | exact sh_ring _ (by first | assumption | omega) | exact sh_imgs _ (by first | assumption | omega)) (by assumption) ?_
  refine u_callV_0 dX11_worth_5 ml_X11_150 mv_X0_isTold (by first | assumption | rfl | exact led_1 (by assumption) | exact led_2 (by assumption) | exact bk_m (by assumption) (by first | assumption | omega) | exact bk_p (by assumption) (by first | assumption | omega) | exact bk_o (by assumption) (by first | assumption | omega) | exact bk_s (by assumption) (by first | assumption | omega) | exact bk_1 (by assumption) | exact bk_2 (by assumption) | exact bk_3 (by assumption) | exact bk_4 (by assumption) | exact bk_5 (by assumption) | exact bk_6 (by assumption) | exact bk_7 (by assumption) | exact bk_8 (by assumption) | exact sh_ring _ (by first | assumption | omega) | exact sh_imgs _ (by first | assumption | omega)) (by decide) rfl (by decide) (Nat.le_of_ble_eq_true rfl) (c_X0_isTold hB hF hO ?_)
  refine v_iconst (v := nI 1) dX11_worth_8 (by decide) ?_
  refine u_callV_2 dX11_worth_9 ml_X11_68 mv_X11_admit (by first | assumption | rfl | exact led_1 (by assumption) | exact led_2 (by assumption) | exact bk_m (by assumption) (by first | assumption | omega) | exact bk_p (by assumption) (by first | assumption | omega) | exact bk_o (by assumption) (by first | assumption | omega) | exact bk_s (by assumption) (by first | assumption | omega) | exact bk_1 (by assumption) | exact bk_2 (by assumption) | exact bk_3 (by assumption) | exact bk_4 (by assumption) | exact bk_5 (by assumption) | exact bk_6 (by assumption) | exact bk_7 (by assumption) | exact bk_8 (by assumption) | exact sh_ring _ (by first | assumption | omega) | exact sh_imgs _ (by first | assumption | omega)) (by decide) rfl (by decide) (Nat.le_of_ble_eq_true rfl) (c_X11_admit (p := decide (0 < F 0)) (q := true) ?_)
  have hh : Hi I (ui I 0 2 (nI (trc (decide (0 < F 0)) (true)))) L L R R := hi_ui (by decide)
  have h := cb_tr (v := trc (decide (0 < F 0)) (true)) h (trc_lt _ _).1 (trc_lt _ _).2
  have hF := cb_F h
  have h1 := cb_1 h
  have hL := cb_L h
  refine v_if_ne (tgt := 18) dX11_worth_12 (by decide) (fun hc12 => ?_) (fun hc12 => ?_)
  · (first | rw [bI_0, Bool.not_eq_false] at hc12 | rw [bI_0] at hc12 | rw [show (0 : Int32) = nI 0 from rfl, nI_eq (by omega) (by omega)] at hc12 | skip)
    have hA := hc12
    rw [Bool.and_eq_true] at hA
    obtain ⟨hA1, hA2⟩ := hA
    refine v_iconst (v := nI 0) dX11_worth_18 (by decide) ?_
    refine v_istore_1 rfl dX11_worth_19 ?_
    refine v_iconst (v := nI 1) dX11_worth_20 (by decide) ?_
    refine v_istore_2 rfl dX11_worth_21 ?_
    exact c_worth_loop I R (F 0) 1 0 _ _ (by omega) h hh (fun I2 R2 q1 q2 => hQ.fin q1 q2 rfl (by rw [a_worth, if_pos hc12]))
  · (first | rw [bI_0, Bool.not_eq_false] at hc12 | rw [bI_0] at hc12 | rw [show (0 : Int32) = nI 0 from rfl, nI_eq (by omega) (by omega)] at hc12 | skip)
    refine v_ldc (v := -100000) dX11_worth_15 (uu (i := 1098) (by decide +kernel) rfl) ?_
    refine v_iret dX11_worth_17 rfl rfl rfl rfl ?_
    exact hQ.fin h (hi_ui (by decide)) (by first | rfl | simp only [t_worth, hc12, if_true, Bool.false_eq_true, if_false]) (by simp only [a_worth, hc12, Bool.false_eq_true, if_false])
end
