section
variable {b : Nat} {ad : Nat → Nat} {I : HI} {L : HL} {R : HR} {Q : QT} {B B2 t : Nat} {tp : Nat → Nat} {nt tr fa pl : Nat} {F : bkF} {S : Nat → LSt} {u r : Nat} {im : Nat → LSt} {ic : Nat}
theorem c_X11_admit {p q : Bool} (hQ : Q (some (.int (bI (p && q)))) SH (ui I 0 2 (nI (trc p q))) L R) : KK 0 mX11_admit b ad [.ref (b + 0), .int (bI p), .int (bI q)] I L R Q := by
  refine K.of (M := mX11_admit) (lv := [some (.ref (b + 0)), some (.int (bI p)), some (.int (bI q))]) (by decide) (Nat.le_of_ble_eq_true rfl) rfl ?_
  refine v_iload_1 dX11_admit_0 ?_
  refine v_if_ne (tgt := 12) dX11_admit_1 (by decide) (fun hc1 => ?_) (fun hc1 => ?_)
  · (first | rw [bI_0, Bool.not_eq_false] at hc1 | rw [bI_0] at hc1 | rw [show (0 : Int32) = nI 0 from rfl, nI_eq (by omega) (by omega)] at hc1 | skip)
    refine v_iload_2 dX11_admit_12 ?_
    refine v_if_ne (tgt := 24) dX11_admit_13 (by decide) (fun hc13 => ?_) (fun hc13 => ?_)
    · (first | rw [bI_0, Bool.not_eq_false] at hc13 | rw [bI_0] at hc13 | rw [show (0 : Int32) = nI 0 from rfl, nI_eq (by omega) (by omega)] at hc13 | skip)
      refine v_aload_0 dX11_admit_24 ?_
      refine v_iconst (v := nI 0) dX11_admit_25 (by decide) ?_
      refine u_putI dX11_admit_26 gf_X11_17 (by first | assumption | rfl | exact led_1 (by assumption) | exact led_2 (by assumption) | exact bk_m (by assumption) (by first | assumption | omega) | exact bk_p (by assumption) (by first | assumption | omega) | exact bk_o (by assumption) (by first | assumption | omega) | exact bk_s (by assumption) (by first | assumption | omega) | exact bk_1 (by assumption) | exact bk_2 (by assumption) | exact bk_3 (by assumption) | exact bk_4 (by assumption) | exact bk_5 (by assumption) | exact bk_6 (by assumption) | exact bk_7 (by assumption) | exact bk_8 (by assumption) | exact sh_ring _ (by first | assumption | omega) | exact sh_imgs _ (by first | assumption | omega)) rfl rfl rfl ?_
      refine v_aload_0 dX11_admit_29 ?_
      refine u_getI dX11_admit_30 gf_X11_17 (by first | assumption | rfl | exact led_1 (by assumption) | exact led_2 (by assumption) | exact bk_m (by assumption) (by first | assumption | omega) | exact bk_p (by assumption) (by first | assumption | omega) | exact bk_o (by assumption) (by first | assumption | omega) | exact bk_s (by assumption) (by first | assumption | omega) | exact bk_1 (by assumption) | exact bk_2 (by assumption) | exact bk_3 (by assumption) | exact bk_4 (by assumption) | exact bk_5 (by assumption) | exact bk_6 (by assumption) | exact bk_7 (by assumption) | exact bk_8 (by assumption) | exact sh_ring _ (by first | assumption | omega) | exact sh_imgs _ (by first | assumption | omega)) ?_
      rw [ui_s]
      refine v_if_ne (tgt := 40) dX11_admit_33 (by decide) (fun hc33 => ?_) (fun hc33 => ?_)
      · (first | rw [bI_0, Bool.not_eq_false] at hc33 | rw [bI_0] at hc33 | rw [show (0 : Int32) = nI 0 from rfl, nI_eq (by omega) (by omega)] at hc33 | skip)
        refine v_iconst (v := nI 0) dX11_admit_40 (by decide) ?_
        refine v_zret dX11_admit_41 (by first | rfl | exact bI_n _) rfl rfl rfl rfl ?_
        first
          | (exfalso; revert hc33; decide)
          | (have e : p = false := hc1; subst e; exact hQ)
          | (have e : p = true := hc1; have e2 : q = false := hc13; subst e; subst e2; exact hQ)
          | (have e : p = true := hc1; have e2 : q = true := hc13; subst e; subst e2; exact hQ)
      · (first | rw [bI_0, Bool.not_eq_false] at hc33 | rw [bI_0] at hc33 | rw [show (0 : Int32) = nI 0 from rfl, nI_eq (by omega) (by omega)] at hc33 | skip)
        refine v_iconst (v := nI 1) dX11_admit_36 (by decide) ?_
        refine v_goto (tgt := 41) dX11_admit_37 (by decide) ?_
        refine v_zret dX11_admit_41 (by first | rfl | exact bI_n _) rfl rfl rfl rfl ?_
        first
          | (exfalso; revert hc33; decide)
          | (have e : p = false := hc1; subst e; exact hQ)
          | (have e : p = true := hc1; have e2 : q = false := hc13; subst e; subst e2; exact hQ)
          | (have e : p = true := hc1; have e2 : q = true := hc13; subst e; subst e2; exact hQ)
    · (first | rw [bI_0, Bool.not_eq_false] at hc13 | rw [bI_0] at hc13 | rw [show (0 : Int32) = nI 0 from rfl, nI_eq (by omega) (by omega)] at hc13 | skip)
      refine v_aload_0 dX11_admit_16 ?_
      refine v_iconst (v := nI 2) dX11_admit_17 (by decide) ?_
      refine u_putI dX11_admit_18 gf_X11_17 (by first | assumption | rfl | exact led_1 (by assumption) | exact led_2 (by assumption) | exact bk_m (by assumption) (by first | assumption | omega) | exact bk_p (by assumption) (by first | assumption | omega) | exact bk_o (by assumption) (by first | assumption | omega) | exact bk_s (by assumption) (by first | assumption | omega) | exact bk_1 (by assumption) | exact bk_2 (by assumption) | exact bk_3 (by assumption) | exact bk_4 (by assumption) | exact bk_5 (by assumption) | exact bk_6 (by assumption) | exact bk_7 (by assumption) | exact bk_8 (by assumption) | exact sh_ring _ (by first | assumption | omega) | exact sh_imgs _ (by first | assumption | omega)) rfl rfl rfl ?_
      refine v_goto (tgt := 29) dX11_admit_21 (by decide) ?_
      refine v_aload_0 dX11_admit_29 ?_
      refine u_getI dX11_admit_30 gf_X11_17 (by first | assumption | rfl | exact led_1 (by assumption) | exact led_2 (by assumption) | exact bk_m (by assumption) (by first | assumption | omega) | exact bk_p (by assumption) (by first | assumption | omega) | exact bk_o (by assumption) (by first | assumption | omega) | exact bk_s (by assumption) (by first | assumption | omega) | exact bk_1 (by assumption) | exact bk_2 (by assumption) | exact bk_3 (by assumption) | exact bk_4 (by assumption) | exact bk_5 (by assumption) | exact bk_6 (by assumption) | exact bk_7 (by assumption) | exact bk_8 (by assumption) | exact sh_ring _ (by first | assumption | omega) | exact sh_imgs _ (by first | assumption | omega)) ?_
      rw [ui_s]
      refine v_if_ne (tgt := 40) dX11_admit_33 (by decide) (fun hc33 => ?_) (fun hc33 => ?_)
      · (first | rw [bI_0, Bool.not_eq_false] at hc33 | rw [bI_0] at hc33 | rw [show (0 : Int32) = nI 0 from rfl, nI_eq (by omega) (by omega)] at hc33 | skip)
        refine v_iconst (v := nI 0) dX11_admit_40 (by decide) ?_
        refine v_zret dX11_admit_41 (by first | rfl | exact bI_n _) rfl rfl rfl rfl ?_
        first
          | (exfalso; revert hc33; decide)
          | (have e : p = false := hc1; subst e; exact hQ)
          | (have e : p = true := hc1; have e2 : q = false := hc13; subst e; subst e2; exact hQ)
          | (have e : p = true := hc1; have e2 : q = true := hc13; subst e; subst e2; exact hQ)
      · (first | rw [bI_0, Bool.not_eq_false] at hc33 | rw [bI_0] at hc33 | rw [show (0 : Int32) = nI 0 from rfl, nI_eq (by omega) (by omega)] at hc33 | skip)
        refine v_iconst (v := nI 1) dX11_admit_36 (by decide) ?_
        refine v_goto (tgt := 41) dX11_admit_37 (by decide) ?_
        refine v_zret dX11_admit_41 (by first | rfl | exact bI_n _) rfl rfl rfl rfl ?_
        first
          | (exfalso; revert hc33; decide)
          | (have e : p = false := hc1; subst e; exact hQ)
          | (have e : p = true := hc1; have e2 : q = false := hc13; subst e; subst e2; exact hQ)
          | (have e : p = true := hc1; have e2 : q = true := hc13; subst e; subst e2; exact hQ)
  · (first | rw [bI_0, Bool.not_eq_false] at hc1 | rw [bI_0] at hc1 | rw [show (0 : Int32) = nI 0 from rfl, nI_eq (by omega) (by omega)] at hc1 | skip)
    refine v_aload_0 dX11_admit_4 ?_
    refine v_iconst (v := nI 1) dX11_admit_5 (by decide) ?_
    refine u_putI dX11_admit_6 gf_X11_17 (by first | assumption | rfl | exact led_1 (by assumption) | exact led_2 (by assumption) | exact bk_m (by assumption) (by first | assumption | omega) | exact bk_p (by assumption) (by first | assumption | omega) | exact bk_o (by assumption) (by first | assumption | omega) | exact bk_s (by assumption) (by first | assumption | omega) | exact bk_1 (by assumption) | exact bk_2 (by assumption) | exact bk_3 (by assumption) | exact bk_4 (by assumption) | exact bk_5 (by assumption) | exact bk_6 (by assumption) | exact bk_7 (by assumption) | exact bk_8 (by assumption) | exact sh_ring _ (by first | assumption | omega) | exact sh_imgs _ (by first | assumption | omega)) rfl rfl rfl ?_
    refine v_goto (tgt := 29) dX11_admit_9 (by decide) ?_
    refine v_aload_0 dX11_admit_29 ?_
    refine u_getI dX11_admit_30 gf_X11_17 (by first | assumption | rfl | exact led_1 (by assumption) | exact led_2 (by assumption) | exact bk_m (by assumption) (by first | assumption | omega) | exact bk_p (by assumption) (by first | assumption | omega) | exact bk_o (by assumption) (by first | assumption | omega) | exact bk_s (by assumption) (by first | assumption | omega) | exact bk_1 (by assumption) | exact bk_2 (by assumption) | exact bk_3 (by assumption) | exact bk_4 (by assumption) | exact bk_5 (by assumption) | exact bk_6 (by assumption) | exact bk_7 (by assumption) | exact bk_8 (by assumption) | exact sh_ring _ (by first | assumption | omega) | exact sh_imgs _ (by first | assumption | omega)) ?_
    rw [ui_s]
    refine v_if_ne (tgt := 40) dX11_admit_33 (by decide) (fun hc33 => ?_) (fun hc33 => ?_)
    · (first | rw [bI_0, Bool.not_eq_false] at hc33 | rw [bI_0] at hc33 | rw [show (0 : Int32) = nI 0 from rfl, nI_eq (by omega) (by omega)] at hc33 | skip)
      refine v_iconst (v := nI 0) dX11_admit_40 (by decide) ?_
      refine v_zret dX11_admit_41 (by first | rfl | exact bI_n _) rfl rfl rfl rfl ?_
      first
        | (exfalso; revert hc33; decide)
        | (have e : p = false := hc1; subst e; exact hQ)
        | (have e : p = true := hc1; have e2 : q = false := hc13; subst e; subst e2; exact hQ)
        | (have e : p = true := hc1; have e2 : q = true := hc13; subst e; subst e2; exact hQ)
    · (first | rw [bI_0, Bool.not_eq_false] at hc33 | rw [bI_0] at hc33 | rw [show (0 : Int32) = nI 0 from rfl, nI_eq (by omega) (by omega)] at hc33 | skip)
      refine v_iconst (v := nI 1) dX11_admit_36 (by decide) ?_
      refine v_goto (tgt := 41) dX11_admit_37 (by decide) ?_
      refine v_zret dX11_admit_41 (by first | rfl | exact bI_n _) rfl rfl rfl rfl ?_
      first
        | (exfalso; revert hc33; decide)
        | (have e : p = false := hc1; subst e; exact hQ)
        | (have e : p = true := hc1; have e2 : q = false := hc13; subst e; subst e2; exact hQ)
        | (have e : p = true := hc1; have e2 : q = true := hc13; subst e; subst e2; exact hQ)
theorem c_X11_refuse {k : Nat} (hQ : Q (some (.int 0)) SH (ui I 0 2 (nI k)) L R) : KK 0 mX11_refuse b ad [.ref (b + 0), .int (nI k)] I L R Q := by
  refine K.of (M := mX11_refuse) (lv := [some (.ref (b + 0)), some (.int (nI k))]) (by decide) (Nat.le_of_ble_eq_true rfl) rfl ?_
  refine v_aload_0 dX11_refuse_0 ?_
  refine v_iload_1 dX11_refuse_1 ?_
  refine u_putI dX11_refuse_2 gf_X11_17 (by first | assumption | rfl | exact led_1 (by assumption) | exact led_2 (by assumption) | exact bk_m (by assumption) (by first | assumption | omega) | exact bk_p (by assumption) (by first | assumption | omega) | exact bk_o (by assumption) (by first | assumption | omega) | exact bk_s (by assumption) (by first | assumption | omega) | exact bk_1 (by assumption) | exact bk_2 (by assumption) | exact bk_3 (by assumption) | exact bk_4 (by assumption) | exact bk_5 (by assumption) | exact bk_6 (by assumption) | exact bk_7 (by assumption) | exact bk_8 (by assumption) | exact sh_ring _ (by first | assumption | omega) | exact sh_imgs _ (by first | assumption | omega)) rfl rfl rfl ?_
  refine v_iconst (v := nI 0) dX11_refuse_5 (by decide) ?_
  refine v_zret dX11_refuse_6 (by first | rfl | exact bI_n _) rfl rfl rfl rfl ?_
  exact hQ
theorem c_X11_asNumber {p : Bool} (hQ : Q (some (.int (bI p))) SH I L R) : KK 0 mX11_asNumber b ad [.int (bI p)] I L R Q := by
  refine K.of (M := mX11_asNumber) (lv := [some (.int (bI p))]) (by decide) (Nat.le_of_ble_eq_true rfl) rfl ?_
  refine v_iload_0 dX11_asNumber_0 ?_
  refine v_if_eq (tgt := 8) dX11_asNumber_1 (by decide) (fun hc1 => ?_) (fun hc1 => ?_)
  · (first | rw [bI_0, Bool.not_eq_false] at hc1 | rw [bI_0] at hc1 | rw [show (0 : Int32) = nI 0 from rfl, nI_eq (by omega) (by omega)] at hc1 | skip)
    refine v_iconst (v := nI 0) dX11_asNumber_8 (by decide) ?_
    refine v_iret dX11_asNumber_9 rfl rfl rfl rfl ?_
    first | (have e : p = false := hc1; subst e; exact hQ) | (have e : p = true := hc1; subst e; exact hQ)
  · (first | rw [bI_0, Bool.not_eq_false] at hc1 | rw [bI_0] at hc1 | rw [show (0 : Int32) = nI 0 from rfl, nI_eq (by omega) (by omega)] at hc1 | skip)
    refine v_iconst (v := nI 1) dX11_asNumber_4 (by decide) ?_
    refine v_goto (tgt := 9) dX11_asNumber_5 (by decide) ?_
    refine v_iret dX11_asNumber_9 rfl rfl rfl rfl ?_
    first | (have e : p = false := hc1; subst e; exact hQ) | (have e : p = true := hc1; subst e; exact hQ)
end
