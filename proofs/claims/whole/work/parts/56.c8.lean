section
variable {b : Nat} {ad : Nat → Nat} {I : HI} {L : HL} {R : HR} {Q : QT} {B B2 t : Nat} {tp : Nat → Nat} {nt tr fa pl : Nat} {F : bkF} {S : Nat → LSt} {u r : Nat} {im : Nat → LSt} {ic : Nat}
def k_breaking (F : bkF) (s : LSt) (x y : Int32) (z : Bool) : Nat := if (inb x (F 3) && ind y (F 0)) = true then (if (s.2.2 (tN x)).testBit (tN y) = z then 5 else 0) else trc (inb x (F 3)) (ind y (F 0))
theorem c_X11_breaking {x : Int32} {y : Int32} {z : Bool} (h : ClsB I L R B B2 t tp nt tr fa pl F S u r im ic) (hQ0 : k_breaking F (S 0) x y z ≠ 0 → XQ I L R tp nt (k_breaking F (S 0) x y z) fa pl F S u r im ic (0) Q) (hQ1 : k_breaking F (S 0) x y z = 0 → XQ I L R tp nt 0 fa pl F (stepS S (flipS (S 0) (tN x) (tN y))) (upU u) 0 im ic (1) Q) : KK 12 mX11_breaking b ad [.ref (b + 0), .int x, .int y, .int (bI z)] I L R Q := by
  have hR := cb_R h
  have hb := cb_b h
  have hB := cb_B h
  have hF := cb_F h
  have hO := cb_O h
  have o0 := hO.1
  have o1 := hO.2.1
  have o2 := hO.2.2.1
  have o3 := hO.2.2.2.1
  have o4 := hO.2.2.2.2.1
  have o5 := hO.2.2.2.2.2.1
  have o6 := hO.2.2.2.2.2.2.1
  have h1 := cb_1 h
  have ht := cb_t h
  have hS := sh_ring t ht
  have hL := cb_L h
  have hK := cb_K h
  have hps := hK.pers
  refine K.of (M := mX11_breaking) (lv := [some (.ref (b + 0)), some (.int x), some (.int y), some (.int (bI z))]) (by decide) (Nat.le_of_ble_eq_true rfl) rfl ?_
  refine v_aload_0 dX11_breaking_0 ?_
  refine v_aload_0 dX11_breaking_1 ?_
  refine u_getR dX11_breaking_2 gf_X11_29 (by first | assumption | rfl | exact led_1 (by assumption) | exact led_2 (by assumption) | exact bk_m (by assumption) (by first | assumption | omega) | exact bk_p (by assumption) (by first | assumption | omega) | exact bk_o (by assumption) (by first | assumption | omega) | exact bk_s (by assumption) (by first | assumption | omega) | exact bk_1 (by assumption) | exact bk_2 (by assumption) | exact bk_3 (by assumption) | exact bk_4 (by assumption) | exact bk_5 (by assumption) | exact bk_6 (by assumption) | exact bk_7 (by assumption) | exact bk_8 (by assumption) | exact sh_ring _ (by first | assumption | omega) | exact sh_imgs _ (by first | assumption | omega)) (by assumption) ?_
  refine v_iload_1 dX11_breaking_5 ?_
  refine u_callV_1 dX11_breaking_6 ml_X11_99 mv_X0_hasPerson (by first | assumption | rfl | exact led_1 (by assumption) | exact led_2 (by assumption) | exact bk_m (by assumption) (by first | assumption | omega) | exact bk_p (by assumption) (by first | assumption | omega) | exact bk_o (by assumption) (by first | assumption | omega) | exact bk_s (by assumption) (by first | assumption | omega) | exact bk_1 (by assumption) | exact bk_2 (by assumption) | exact bk_3 (by assumption) | exact bk_4 (by assumption) | exact bk_5 (by assumption) | exact bk_6 (by assumption) | exact bk_7 (by assumption) | exact bk_8 (by assumption) | exact sh_ring _ (by first | assumption | omega) | exact sh_imgs _ (by first | assumption | omega)) (by decide) rfl (by decide) (Nat.le_of_ble_eq_true rfl) (c_X0_hasPerson hB hF ?_)
  refine v_aload_0 dX11_breaking_9 ?_
  refine u_getR dX11_breaking_10 gf_X11_29 (by first | assumption | rfl | exact led_1 (by assumption) | exact led_2 (by assumption) | exact bk_m (by assumption) (by first | assumption | omega) | exact bk_p (by assumption) (by first | assumption | omega) | exact bk_o (by assumption) (by first | assumption | omega) | exact bk_s (by assumption) (by first | assumption | omega) | exact bk_1 (by assumption) | exact bk_2 (by assumption) | exact bk_3 (by assumption) | exact bk_4 (by assumption) | exact bk_5 (by assumption) | exact bk_6 (by assumption) | exact bk_7 (by assumption) | exact bk_8 (by assumption) | exact sh_ring _ (by first | assumption | omega) | exact sh_imgs _ (by first | assumption | omega)) (by assumption) ?_
  refine v_iload_2 dX11_breaking_13 ?_
  refine u_callV_1 dX11_breaking_14 ml_X11_110 mv_X0_hasDay (by first | assumption | rfl | exact led_1 (by assumption) | exact led_2 (by assumption) | exact bk_m (by assumption) (by first | assumption | omega) | exact bk_p (by assumption) (by first | assumption | omega) | exact bk_o (by assumption) (by first | assumption | omega) | exact bk_s (by assumption) (by first | assumption | omega) | exact bk_1 (by assumption) | exact bk_2 (by assumption) | exact bk_3 (by assumption) | exact bk_4 (by assumption) | exact bk_5 (by assumption) | exact bk_6 (by assumption) | exact bk_7 (by assumption) | exact bk_8 (by assumption) | exact sh_ring _ (by first | assumption | omega) | exact sh_imgs _ (by first | assumption | omega)) (by decide) rfl (by decide) (Nat.le_of_ble_eq_true rfl) (c_X0_hasDay hB hF ?_)
  refine u_callV_2 dX11_breaking_17 ml_X11_68 mv_X11_admit (by first | assumption | rfl | exact led_1 (by assumption) | exact led_2 (by assumption) | exact bk_m (by assumption) (by first | assumption | omega) | exact bk_p (by assumption) (by first | assumption | omega) | exact bk_o (by assumption) (by first | assumption | omega) | exact bk_s (by assumption) (by first | assumption | omega) | exact bk_1 (by assumption) | exact bk_2 (by assumption) | exact bk_3 (by assumption) | exact bk_4 (by assumption) | exact bk_5 (by assumption) | exact bk_6 (by assumption) | exact bk_7 (by assumption) | exact bk_8 (by assumption) | exact sh_ring _ (by first | assumption | omega) | exact sh_imgs _ (by first | assumption | omega)) (by decide) rfl (by decide) (Nat.le_of_ble_eq_true rfl) (c_X11_admit (p := inb x (F 3)) (q := ind y (F 0)) ?_)
  have hh : Hi I (ui I 0 2 (nI (trc (inb x (F 3)) (ind y (F 0))))) L L R R := hi_ui (by decide)
  have h := cb_tr (v := trc (inb x (F 3)) (ind y (F 0))) h (trc_lt _ _).1 (trc_lt _ _).2
  have hF := cb_F h
  have h1 := cb_1 h
  have hL := cb_L h
  refine v_if_ne (tgt := 25) dX11_breaking_20 (by decide) (fun hc20 => ?_) (fun hc20 => ?_)
  · (first | rw [bI_0, Bool.not_eq_false] at hc20 | rw [bI_0] at hc20 | rw [show (0 : Int32) = nI 0 from rfl, nI_eq (by omega) (by omega)] at hc20 | skip)
    have hA := hc20
    rw [Bool.and_eq_true] at hA
    obtain ⟨hA1, hA2⟩ := hA
    obtain ⟨p, rfl, hp⟩ := inb_ex (by omega) hA1
    have ep : tN (nI p) = p := tN_nI (by omega)
    obtain ⟨d, rfl, hd1, hd⟩ := ind_ex (by omega) hA2
    have ed : tN (nI d) = d := tN_nI (by omega)
    have hu2 := h.2.2.2.2.2.1.2.2.1
    have h12 := h.2.2.2.2.2.1.2.2.2.2.1
    have hS2 := sh_ring ((t + 1) % 13) (by omega)
    refine v_aload_0 dX11_breaking_25 ?_
    refine u_getR dX11_breaking_26 gf_X11_46 (by first | assumption | rfl | exact led_1 (by assumption) | exact led_2 (by assumption) | exact bk_m (by assumption) (by first | assumption | omega) | exact bk_p (by assumption) (by first | assumption | omega) | exact bk_o (by assumption) (by first | assumption | omega) | exact bk_s (by assumption) (by first | assumption | omega) | exact bk_1 (by assumption) | exact bk_2 (by assumption) | exact bk_3 (by assumption) | exact bk_4 (by assumption) | exact bk_5 (by assumption) | exact bk_6 (by assumption) | exact bk_7 (by assumption) | exact bk_8 (by assumption) | exact sh_ring _ (by first | assumption | omega) | exact sh_imgs _ (by first | assumption | omega)) (ro_X11_8 (by assumption)) ?_
    refine u_callV_0 dX11_breaking_29 ml_X11_113 mv_X1_now (by first | assumption | rfl | exact led_1 (by assumption) | exact led_2 (by assumption) | exact bk_m (by assumption) (by first | assumption | omega) | exact bk_p (by assumption) (by first | assumption | omega) | exact bk_o (by assumption) (by first | assumption | omega) | exact bk_s (by assumption) (by first | assumption | omega) | exact bk_1 (by assumption) | exact bk_2 (by assumption) | exact bk_3 (by assumption) | exact bk_4 (by assumption) | exact bk_5 (by assumption) | exact bk_6 (by assumption) | exact bk_7 (by assumption) | exact bk_8 (by assumption) | exact sh_ring _ (by first | assumption | omega) | exact sh_imgs _ (by first | assumption | omega)) (by decide) rfl (by decide) (Nat.le_of_ble_eq_true rfl) (c_X1_now hR h1 ht ?_)
    refine v_iload_1 dX11_breaking_32 ?_
    refine v_iload_2 dX11_breaking_33 ?_
    refine u_callV_2 dX11_breaking_34 ml_X11_157 mv_X2_isBreaking (by first | assumption | rfl | exact led_1 (by assumption) | exact led_2 (by assumption) | exact bk_m (by assumption) (by first | assumption | omega) | exact bk_p (by assumption) (by first | assumption | omega) | exact bk_o (by assumption) (by first | assumption | omega) | exact bk_s (by assumption) (by first | assumption | omega) | exact bk_1 (by assumption) | exact bk_2 (by assumption) | exact bk_3 (by assumption) | exact bk_4 (by assumption) | exact bk_5 (by assumption) | exact bk_6 (by assumption) | exact bk_7 (by assumption) | exact bk_8 (by assumption) | exact sh_ring _ (by first | assumption | omega) | exact sh_imgs _ (by first | assumption | omega)) (by decide) rfl (by decide) (Nat.le_of_ble_eq_true rfl) (c_X2_isBreaking hR hS (by omega) (by omega) (hL.2 p (by omega)) ?_)
    refine v_iload_3 dX11_breaking_37 ?_
    refine v_icmp_ne (tgt := 47) dX11_breaking_38 (by decide) (fun hc38 => ?_) (fun hc38 => ?_)
    · (try rw [nI_eq (by omega) (by omega)] at hc38)
      refine v_aload_0 dX11_breaking_47 ?_
      refine u_getR dX11_breaking_48 gf_X11_46 (by first | assumption | rfl | exact led_1 (by assumption) | exact led_2 (by assumption) | exact bk_m (by assumption) (by first | assumption | omega) | exact bk_p (by assumption) (by first | assumption | omega) | exact bk_o (by assumption) (by first | assumption | omega) | exact bk_s (by assumption) (by first | assumption | omega) | exact bk_1 (by assumption) | exact bk_2 (by assumption) | exact bk_3 (by assumption) | exact bk_4 (by assumption) | exact bk_5 (by assumption) | exact bk_6 (by assumption) | exact bk_7 (by assumption) | exact bk_8 (by assumption) | exact sh_ring _ (by first | assumption | omega) | exact sh_imgs _ (by first | assumption | omega)) (ro_X11_8 (by assumption)) ?_
      refine u_callV_0 dX11_breaking_51 ml_X11_247 mv_X1_step (by first | assumption | rfl | exact led_1 (by assumption) | exact led_2 (by assumption) | exact bk_m (by assumption) (by first | assumption | omega) | exact bk_p (by assumption) (by first | assumption | omega) | exact bk_o (by assumption) (by first | assumption | omega) | exact bk_s (by assumption) (by first | assumption | omega) | exact bk_1 (by assumption) | exact bk_2 (by assumption) | exact bk_3 (by assumption) | exact bk_4 (by assumption) | exact bk_5 (by assumption) | exact bk_6 (by assumption) | exact bk_7 (by assumption) | exact bk_8 (by assumption) | exact sh_ring _ (by first | assumption | omega) | exact sh_imgs _ (by first | assumption | omega)) (by decide) rfl (by decide) (Nat.le_of_ble_eq_true rfl) (c_X1_step hR h1 ht hu2 (by omega) hL (fun J q1 q2 q3 q4 q5 q6 => ?_))
      refine v_iload_1 dX11_breaking_54 ?_
      refine v_iload_2 dX11_breaking_55 ?_
      refine u_callV_2 dX11_breaking_56 ml_X11_271 mv_X2_flipBreaking (by first | assumption | rfl | exact led_1 (by assumption) | exact led_2 (by assumption) | exact bk_m (by assumption) (by first | assumption | omega) | exact bk_p (by assumption) (by first | assumption | omega) | exact bk_o (by assumption) (by first | assumption | omega) | exact bk_s (by assumption) (by first | assumption | omega) | exact bk_1 (by assumption) | exact bk_2 (by assumption) | exact bk_3 (by assumption) | exact bk_4 (by assumption) | exact bk_5 (by assumption) | exact bk_6 (by assumption) | exact bk_7 (by assumption) | exact bk_8 (by assumption) | exact sh_ring _ (by first | assumption | omega) | exact sh_imgs _ (by first | assumption | omega)) (by decide) rfl (by decide) (Nat.le_of_ble_eq_true rfl) (c_X2_flipBreaking hR hS2 (by omega) (by omega) (q1.2 p (by omega)) ?_)
      refine v_iconst (v := nI 1) dX11_breaking_59 (by decide) ?_
      refine v_zret dX11_breaking_60 (by first | rfl | exact bI_n _) rfl rfl rfl rfl ?_
      have hk : k_breaking F (S 0) (nI p) (nI d) z = 0 := by rw [k_breaking, if_pos hc20, ep, ed, if_neg (fun e => hc38 (bI_inj.2 e))]
      have hfin := hQ1 hk
      rw [ep, ed] at hfin
      refine hfin.fin (cb_step (s := flipS (S 0) p d) h (fun x e1 e2 e3 e4 => (ui_ne e4).trans (q6 x e1 e2 e3 e4)) (by rw [ui_ne (by omega)]; exact q2) (by rw [ui_ne (by omega)]; exact q3) (by rw [ui_ne (by omega)]; exact q4) (by rw [ui_ne (by omega)]; exact q5) ⟨q1.1.same (ui_ne (by omega)) (ui_ne (by omega)), fun x hx => ?_⟩ (lok_flip hK (by omega))) (hh.trans (fun a ha => ⟨(ui_ne (by omega)).trans (q6 a (by omega) (by omega) (by omega) (by omega)), rfl, rfl⟩)) (trc_0 hc20) rfl
      have hlt := (lok_flip (p := p) hK (show d < 21 by omega)).2.2.2 x
      refine ⟨?_, hlt⟩
      show _ = nI (if x = p then (S 0).2.2 p ^^^ 2 ^ d else (S 0).2.2 x)
      by_cases e : x = p
      · subst e; rw [ui_s, if_pos rfl]
      · rw [ui_o e, if_neg e]; exact (q1.2 x hx).1
    · (try rw [nI_eq (by omega) (by omega)] at hc38)
      refine v_aload_0 dX11_breaking_41 ?_
      refine v_iconst (v := nI 5) dX11_breaking_42 (by decide) ?_
      refine u_callV_1 dX11_breaking_43 ml_X11_78 mv_X11_refuse (by first | assumption | rfl | exact led_1 (by assumption) | exact led_2 (by assumption) | exact bk_m (by assumption) (by first | assumption | omega) | exact bk_p (by assumption) (by first | assumption | omega) | exact bk_o (by assumption) (by first | assumption | omega) | exact bk_s (by assumption) (by first | assumption | omega) | exact bk_1 (by assumption) | exact bk_2 (by assumption) | exact bk_3 (by assumption) | exact bk_4 (by assumption) | exact bk_5 (by assumption) | exact bk_6 (by assumption) | exact bk_7 (by assumption) | exact bk_8 (by assumption) | exact sh_ring _ (by first | assumption | omega) | exact sh_imgs _ (by first | assumption | omega)) (by decide) rfl (by decide) (Nat.le_of_ble_eq_true rfl) (c_X11_refuse ?_)
      refine v_zret dX11_breaking_46 (by first | rfl | exact bI_n _) rfl rfl rfl rfl ?_
      have hk : k_breaking F (S 0) (nI p) (nI d) z = 5 := by rw [k_breaking, if_pos hc20, ep, ed, if_pos (bI_inj.1 hc38)]
      exact (hQ0 (by rw [hk]; decide)).fin (cb_tr h (by decide) (by decide)) (hh.trans (hi_ui (by decide))) hk.symm rfl
  · (first | rw [bI_0, Bool.not_eq_false] at hc20 | rw [bI_0] at hc20 | rw [show (0 : Int32) = nI 0 from rfl, nI_eq (by omega) (by omega)] at hc20 | skip)
    refine v_iconst (v := nI 0) dX11_breaking_23 (by decide) ?_
    refine v_zret dX11_breaking_24 (by first | rfl | exact bI_n _) rfl rfl rfl rfl ?_
    have hk : k_breaking F (S 0) x y z = trc (inb x (F 3)) (ind y (F 0)) := by rw [k_breaking, if_neg (by rw [hc20]; decide)]
    exact (hQ0 (by rw [hk]; exact trc_n0 hc20)).fin h hh hk.symm rfl
theorem c_X11_undo (h : ClsB I L R B B2 t tp nt tr fa pl F S u r im ic) (hQ0 : u = 0 → XQ I L R tp nt 6 fa pl F S u r im ic 0 Q) (hQ1 : ¬ u = 0 → XQ I L R tp nt 0 fa pl F (backS S) (u - 1) (r + 1) im ic 1 Q) : KK 12 mX11_undo b ad [.ref (b + 0)] I L R Q := by
  have hR := cb_R h
  have hb := cb_b h
  have hB := cb_B h
  have hF := cb_F h
  have hO := cb_O h
  have o0 := hO.1
  have o1 := hO.2.1
  have o2 := hO.2.2.1
  have o3 := hO.2.2.2.1
  have o4 := hO.2.2.2.2.1
  have o5 := hO.2.2.2.2.2.1
  have o6 := hO.2.2.2.2.2.2.1
  have h1 := cb_1 h
  have ht := cb_t h
  have hS := sh_ring t ht
  have hL := cb_L h
  have hK := cb_K h
  have hps := hK.pers
  obtain ⟨-, -, f3, f4, f5, -⟩ := h.2.2.2.2.2.1
  refine K.of (M := mX11_undo) (lv := [some (.ref (b + 0))]) (by decide) (Nat.le_of_ble_eq_true rfl) rfl ?_
  refine v_aload_0 dX11_undo_0 ?_
  refine v_aload_0 dX11_undo_1 ?_
  refine u_getR dX11_undo_2 gf_X11_46 (by first | assumption | rfl | exact led_1 (by assumption) | exact led_2 (by assumption) | exact bk_m (by assumption) (by first | assumption | omega) | exact bk_p (by assumption) (by first | assumption | omega) | exact bk_o (by assumption) (by first | assumption | omega) | exact bk_s (by assumption) (by first | assumption | omega) | exact bk_1 (by assumption) | exact bk_2 (by assumption) | exact bk_3 (by assumption) | exact bk_4 (by assumption) | exact bk_5 (by assumption) | exact bk_6 (by assumption) | exact bk_7 (by assumption) | exact bk_8 (by assumption) | exact sh_ring _ (by first | assumption | omega) | exact sh_imgs _ (by first | assumption | omega)) (ro_X11_8 (by assumption)) ?_
  refine u_callV_0 dX11_undo_5 ml_X11_274 mv_X1_stepBack (by first | assumption | rfl | exact led_1 (by assumption) | exact led_2 (by assumption) | exact bk_m (by assumption) (by first | assumption | omega) | exact bk_p (by assumption) (by first | assumption | omega) | exact bk_o (by assumption) (by first | assumption | omega) | exact bk_s (by assumption) (by first | assumption | omega) | exact bk_1 (by assumption) | exact bk_2 (by assumption) | exact bk_3 (by assumption) | exact bk_4 (by assumption) | exact bk_5 (by assumption) | exact bk_6 (by assumption) | exact bk_7 (by assumption) | exact bk_8 (by assumption) | exact sh_ring _ (by first | assumption | omega) | exact sh_imgs _ (by first | assumption | omega)) (by decide) rfl (by decide) (Nat.le_of_ble_eq_true rfl) (c_X1_stepBack h1 ht f3 f4 (by omega) (by omega) (fun e => ?_) (fun e => ?_))
  · refine v_if_eq (tgt := 15) dX11_undo_8 (by decide) (fun hc8 => ?_) (fun hc8 => ?_)
    · (first | rw [bI_0, Bool.not_eq_false] at hc8 | rw [bI_0] at hc8 | rw [show (0 : Int32) = nI 0 from rfl, nI_eq (by omega) (by omega)] at hc8 | skip)
      refine v_bipush (v := nI 6) dX11_undo_15 (by decide) ?_
      refine u_putI dX11_undo_17 gf_X11_17 (by first | assumption | rfl | exact led_1 (by assumption) | exact led_2 (by assumption) | exact bk_m (by assumption) (by first | assumption | omega) | exact bk_p (by assumption) (by first | assumption | omega) | exact bk_o (by assumption) (by first | assumption | omega) | exact bk_s (by assumption) (by first | assumption | omega) | exact bk_1 (by assumption) | exact bk_2 (by assumption) | exact bk_3 (by assumption) | exact bk_4 (by assumption) | exact bk_5 (by assumption) | exact bk_6 (by assumption) | exact bk_7 (by assumption) | exact bk_8 (by assumption) | exact sh_ring _ (by first | assumption | omega) | exact sh_imgs _ (by first | assumption | omega)) rfl rfl rfl ?_
      refine v_aload_0 dX11_undo_20 ?_
      refine u_getI dX11_undo_21 gf_X11_17 (by first | assumption | rfl | exact led_1 (by assumption) | exact led_2 (by assumption) | exact bk_m (by assumption) (by first | assumption | omega) | exact bk_p (by assumption) (by first | assumption | omega) | exact bk_o (by assumption) (by first | assumption | omega) | exact bk_s (by assumption) (by first | assumption | omega) | exact bk_1 (by assumption) | exact bk_2 (by assumption) | exact bk_3 (by assumption) | exact bk_4 (by assumption) | exact bk_5 (by assumption) | exact bk_6 (by assumption) | exact bk_7 (by assumption) | exact bk_8 (by assumption) | exact sh_ring _ (by first | assumption | omega) | exact sh_imgs _ (by first | assumption | omega)) ?_
      rw [ui_s]
      refine v_if_ne (tgt := 31) dX11_undo_24 (by decide) (fun hc24 => ?_) (fun hc24 => ?_)
      · (first | rw [bI_0, Bool.not_eq_false] at hc24 | rw [bI_0] at hc24 | rw [show (0 : Int32) = nI 0 from rfl, nI_eq (by omega) (by omega)] at hc24 | skip)
        refine v_iconst (v := nI 0) dX11_undo_31 (by decide) ?_
        refine v_zret dX11_undo_32 (by first | rfl | exact bI_n _) rfl rfl rfl rfl ?_
        first
          | (exfalso; revert hc24; decide)
          | exact (hQ0 e).fin (cb_tr h (by decide) (by decide)) (hi_ui (by decide)) rfl rfl
      · (first | rw [bI_0, Bool.not_eq_false] at hc24 | rw [bI_0] at hc24 | rw [show (0 : Int32) = nI 0 from rfl, nI_eq (by omega) (by omega)] at hc24 | skip)
        refine v_iconst (v := nI 1) dX11_undo_27 (by decide) ?_
        refine v_goto (tgt := 32) dX11_undo_28 (by decide) ?_
        refine v_zret dX11_undo_32 (by first | rfl | exact bI_n _) rfl rfl rfl rfl ?_
        first
          | (exfalso; revert hc24; decide)
          | exact (hQ0 e).fin (cb_tr h (by decide) (by decide)) (hi_ui (by decide)) rfl rfl
    · (first | rw [bI_0, Bool.not_eq_false] at hc8 | rw [bI_0] at hc8 | rw [show (0 : Int32) = nI 0 from rfl, nI_eq (by omega) (by omega)] at hc8 | skip)
      exact absurd hc8 (by decide)
  · refine v_if_eq (tgt := 15) dX11_undo_8 (by decide) (fun hc8 => ?_) (fun hc8 => ?_)
    · (first | rw [bI_0, Bool.not_eq_false] at hc8 | rw [bI_0] at hc8 | rw [show (0 : Int32) = nI 0 from rfl, nI_eq (by omega) (by omega)] at hc8 | skip)
      exact absurd hc8 (by decide)
    · (first | rw [bI_0, Bool.not_eq_false] at hc8 | rw [bI_0] at hc8 | rw [show (0 : Int32) = nI 0 from rfl, nI_eq (by omega) (by omega)] at hc8 | skip)
      refine v_iconst (v := nI 0) dX11_undo_11 (by decide) ?_
      refine v_goto (tgt := 17) dX11_undo_12 (by decide) ?_
      refine u_putI dX11_undo_17 gf_X11_17 (by first | assumption | rfl | exact led_1 (by assumption) | exact led_2 (by assumption) | exact bk_m (by assumption) (by first | assumption | omega) | exact bk_p (by assumption) (by first | assumption | omega) | exact bk_o (by assumption) (by first | assumption | omega) | exact bk_s (by assumption) (by first | assumption | omega) | exact bk_1 (by assumption) | exact bk_2 (by assumption) | exact bk_3 (by assumption) | exact bk_4 (by assumption) | exact bk_5 (by assumption) | exact bk_6 (by assumption) | exact bk_7 (by assumption) | exact bk_8 (by assumption) | exact sh_ring _ (by first | assumption | omega) | exact sh_imgs _ (by first | assumption | omega)) rfl rfl rfl ?_
      refine v_aload_0 dX11_undo_20 ?_
      refine u_getI dX11_undo_21 gf_X11_17 (by first | assumption | rfl | exact led_1 (by assumption) | exact led_2 (by assumption) | exact bk_m (by assumption) (by first | assumption | omega) | exact bk_p (by assumption) (by first | assumption | omega) | exact bk_o (by assumption) (by first | assumption | omega) | exact bk_s (by assumption) (by first | assumption | omega) | exact bk_1 (by assumption) | exact bk_2 (by assumption) | exact bk_3 (by assumption) | exact bk_4 (by assumption) | exact bk_5 (by assumption) | exact bk_6 (by assumption) | exact bk_7 (by assumption) | exact bk_8 (by assumption) | exact sh_ring _ (by first | assumption | omega) | exact sh_imgs _ (by first | assumption | omega)) ?_
      rw [ui_s]
      refine v_if_ne (tgt := 31) dX11_undo_24 (by decide) (fun hc24 => ?_) (fun hc24 => ?_)
      · (first | rw [bI_0, Bool.not_eq_false] at hc24 | rw [bI_0] at hc24 | rw [show (0 : Int32) = nI 0 from rfl, nI_eq (by omega) (by omega)] at hc24 | skip)
        refine v_iconst (v := nI 0) dX11_undo_31 (by decide) ?_
        refine v_zret dX11_undo_32 (by first | rfl | exact bI_n _) rfl rfl rfl rfl ?_
        first
          | (exfalso; revert hc24; decide)
          | (refine (hQ1 e).fin (cb_tr (cb_same (J := (ui (ui (ui I 94 1 (nI ((t + 12) % 13))) 94 2 (nI (u - 1))) 94 3 (nI (r + 1)))) (t' := (t + 12) % 13) (u' := (u - 1)) (r' := (r + 1)) (S' := (backS S)) h (fun x q => ?_) ?_ (by omega) ?_ ?_ (by omega) ?_ (fun k hkl => ⟨(k + 12) % 13, by unfold live at *; omega, ring_b ht, rfl⟩)) (by decide) (by decide)) (fun a ha => ⟨?_, rfl, rfl⟩) rfl rfl
             · rw [ui_ne q, ui_ne q, ui_ne q]
             · rw [ui_o (by decide), ui_o (by decide), ui_s]
             · rw [ui_o (by decide), ui_s]
             · rw [ui_s]
             · rw [ui_o (by decide), ui_o (by decide), ui_o (by decide)]
             · rw [ui_ne (by omega), ui_ne (by omega), ui_ne (by omega), ui_ne (by omega)])
      · (first | rw [bI_0, Bool.not_eq_false] at hc24 | rw [bI_0] at hc24 | rw [show (0 : Int32) = nI 0 from rfl, nI_eq (by omega) (by omega)] at hc24 | skip)
        refine v_iconst (v := nI 1) dX11_undo_27 (by decide) ?_
        refine v_goto (tgt := 32) dX11_undo_28 (by decide) ?_
        refine v_zret dX11_undo_32 (by first | rfl | exact bI_n _) rfl rfl rfl rfl ?_
        first
          | (exfalso; revert hc24; decide)
          | (refine (hQ1 e).fin (cb_tr (cb_same (J := (ui (ui (ui I 94 1 (nI ((t + 12) % 13))) 94 2 (nI (u - 1))) 94 3 (nI (r + 1)))) (t' := (t + 12) % 13) (u' := (u - 1)) (r' := (r + 1)) (S' := (backS S)) h (fun x q => ?_) ?_ (by omega) ?_ ?_ (by omega) ?_ (fun k hkl => ⟨(k + 12) % 13, by unfold live at *; omega, ring_b ht, rfl⟩)) (by decide) (by decide)) (fun a ha => ⟨?_, rfl, rfl⟩) rfl rfl
             · rw [ui_ne q, ui_ne q, ui_ne q]
             · rw [ui_o (by decide), ui_o (by decide), ui_s]
             · rw [ui_o (by decide), ui_s]
             · rw [ui_s]
             · rw [ui_o (by decide), ui_o (by decide), ui_o (by decide)]
             · rw [ui_ne (by omega), ui_ne (by omega), ui_ne (by omega), ui_ne (by omega)])
theorem c_X11_redo (h : ClsB I L R B B2 t tp nt tr fa pl F S u r im ic) (hQ0 : r = 0 → XQ I L R tp nt 6 fa pl F S u r im ic 0 Q) (hQ1 : ¬ r = 0 → XQ I L R tp nt 0 fa pl F (forthS S) (u + 1) (r - 1) im ic 1 Q) : KK 12 mX11_redo b ad [.ref (b + 0)] I L R Q := by
  have hR := cb_R h
  have hb := cb_b h
  have hB := cb_B h
  have hF := cb_F h
  have hO := cb_O h
  have o0 := hO.1
  have o1 := hO.2.1
  have o2 := hO.2.2.1
  have o3 := hO.2.2.2.1
  have o4 := hO.2.2.2.2.1
  have o5 := hO.2.2.2.2.2.1
  have o6 := hO.2.2.2.2.2.2.1
  have h1 := cb_1 h
  have ht := cb_t h
  have hS := sh_ring t ht
  have hL := cb_L h
  have hK := cb_K h
  have hps := hK.pers
  obtain ⟨-, -, f3, f4, f5, -⟩ := h.2.2.2.2.2.1
  refine K.of (M := mX11_redo) (lv := [some (.ref (b + 0))]) (by decide) (Nat.le_of_ble_eq_true rfl) rfl ?_
  refine v_aload_0 dX11_redo_0 ?_
  refine v_aload_0 dX11_redo_1 ?_
  refine u_getR dX11_redo_2 gf_X11_46 (by first | assumption | rfl | exact led_1 (by assumption) | exact led_2 (by assumption) | exact bk_m (by assumption) (by first | assumption | omega) | exact bk_p (by assumption) (by first | assumption | omega) | exact bk_o (by assumption) (by first | assumption | omega) | exact bk_s (by assumption) (by first | assumption | omega) | exact bk_1 (by assumption) | exact bk_2 (by assumption) | exact bk_3 (by assumption) | exact bk_4 (by assumption) | exact bk_5 (by assumption) | exact bk_6 (by assumption) | exact bk_7 (by assumption) | exact bk_8 (by assumption) | exact sh_ring _ (by first | assumption | omega) | exact sh_imgs _ (by first | assumption | omega)) (ro_X11_8 (by assumption)) ?_
  refine u_callV_0 dX11_redo_5 ml_X11_277 mv_X1_stepForth (by first | assumption | rfl | exact led_1 (by assumption) | exact led_2 (by assumption) | exact bk_m (by assumption) (by first | assumption | omega) | exact bk_p (by assumption) (by first | assumption | omega) | exact bk_o (by assumption) (by first | assumption | omega) | exact bk_s (by assumption) (by first | assumption | omega) | exact bk_1 (by assumption) | exact bk_2 (by assumption) | exact bk_3 (by assumption) | exact bk_4 (by assumption) | exact bk_5 (by assumption) | exact bk_6 (by assumption) | exact bk_7 (by assumption) | exact bk_8 (by assumption) | exact sh_ring _ (by first | assumption | omega) | exact sh_imgs _ (by first | assumption | omega)) (by decide) rfl (by decide) (Nat.le_of_ble_eq_true rfl) (c_X1_stepForth h1 ht f3 f4 (by omega) (by omega) (fun e => ?_) (fun e => ?_))
  · refine v_if_eq (tgt := 15) dX11_redo_8 (by decide) (fun hc8 => ?_) (fun hc8 => ?_)
    · (first | rw [bI_0, Bool.not_eq_false] at hc8 | rw [bI_0] at hc8 | rw [show (0 : Int32) = nI 0 from rfl, nI_eq (by omega) (by omega)] at hc8 | skip)
      refine v_bipush (v := nI 6) dX11_redo_15 (by decide) ?_
      refine u_putI dX11_redo_17 gf_X11_17 (by first | assumption | rfl | exact led_1 (by assumption) | exact led_2 (by assumption) | exact bk_m (by assumption) (by first | assumption | omega) | exact bk_p (by assumption) (by first | assumption | omega) | exact bk_o (by assumption) (by first | assumption | omega) | exact bk_s (by assumption) (by first | assumption | omega) | exact bk_1 (by assumption) | exact bk_2 (by assumption) | exact bk_3 (by assumption) | exact bk_4 (by assumption) | exact bk_5 (by assumption) | exact bk_6 (by assumption) | exact bk_7 (by assumption) | exact bk_8 (by assumption) | exact sh_ring _ (by first | assumption | omega) | exact sh_imgs _ (by first | assumption | omega)) rfl rfl rfl ?_
      refine v_aload_0 dX11_redo_20 ?_
      refine u_getI dX11_redo_21 gf_X11_17 (by first | assumption | rfl | exact led_1 (by assumption) | exact led_2 (by assumption) | exact bk_m (by assumption) (by first | assumption | omega) | exact bk_p (by assumption) (by first | assumption | omega) | exact bk_o (by assumption) (by first | assumption | omega) | exact bk_s (by assumption) (by first | assumption | omega) | exact bk_1 (by assumption) | exact bk_2 (by assumption) | exact bk_3 (by assumption) | exact bk_4 (by assumption) | exact bk_5 (by assumption) | exact bk_6 (by assumption) | exact bk_7 (by assumption) | exact bk_8 (by assumption) | exact sh_ring _ (by first | assumption | omega) | exact sh_imgs _ (by first | assumption | omega)) ?_
      rw [ui_s]
      refine v_if_ne (tgt := 31) dX11_redo_24 (by decide) (fun hc24 => ?_) (fun hc24 => ?_)
      · (first | rw [bI_0, Bool.not_eq_false] at hc24 | rw [bI_0] at hc24 | rw [show (0 : Int32) = nI 0 from rfl, nI_eq (by omega) (by omega)] at hc24 | skip)
        refine v_iconst (v := nI 0) dX11_redo_31 (by decide) ?_
        refine v_zret dX11_redo_32 (by first | rfl | exact bI_n _) rfl rfl rfl rfl ?_
        first
          | (exfalso; revert hc24; decide)
          | exact (hQ0 e).fin (cb_tr h (by decide) (by decide)) (hi_ui (by decide)) rfl rfl
      · (first | rw [bI_0, Bool.not_eq_false] at hc24 | rw [bI_0] at hc24 | rw [show (0 : Int32) = nI 0 from rfl, nI_eq (by omega) (by omega)] at hc24 | skip)
        refine v_iconst (v := nI 1) dX11_redo_27 (by decide) ?_
        refine v_goto (tgt := 32) dX11_redo_28 (by decide) ?_
        refine v_zret dX11_redo_32 (by first | rfl | exact bI_n _) rfl rfl rfl rfl ?_
        first
          | (exfalso; revert hc24; decide)
          | exact (hQ0 e).fin (cb_tr h (by decide) (by decide)) (hi_ui (by decide)) rfl rfl
    · (first | rw [bI_0, Bool.not_eq_false] at hc8 | rw [bI_0] at hc8 | rw [show (0 : Int32) = nI 0 from rfl, nI_eq (by omega) (by omega)] at hc8 | skip)
      exact absurd hc8 (by decide)
  · refine v_if_eq (tgt := 15) dX11_redo_8 (by decide) (fun hc8 => ?_) (fun hc8 => ?_)
    · (first | rw [bI_0, Bool.not_eq_false] at hc8 | rw [bI_0] at hc8 | rw [show (0 : Int32) = nI 0 from rfl, nI_eq (by omega) (by omega)] at hc8 | skip)
      exact absurd hc8 (by decide)
    · (first | rw [bI_0, Bool.not_eq_false] at hc8 | rw [bI_0] at hc8 | rw [show (0 : Int32) = nI 0 from rfl, nI_eq (by omega) (by omega)] at hc8 | skip)
      refine v_iconst (v := nI 0) dX11_redo_11 (by decide) ?_
      refine v_goto (tgt := 17) dX11_redo_12 (by decide) ?_
      refine u_putI dX11_redo_17 gf_X11_17 (by first | assumption | rfl | exact led_1 (by assumption) | exact led_2 (by assumption) | exact bk_m (by assumption) (by first | assumption | omega) | exact bk_p (by assumption) (by first | assumption | omega) | exact bk_o (by assumption) (by first | assumption | omega) | exact bk_s (by assumption) (by first | assumption | omega) | exact bk_1 (by assumption) | exact bk_2 (by assumption) | exact bk_3 (by assumption) | exact bk_4 (by assumption) | exact bk_5 (by assumption) | exact bk_6 (by assumption) | exact bk_7 (by assumption) | exact bk_8 (by assumption) | exact sh_ring _ (by first | assumption | omega) | exact sh_imgs _ (by first | assumption | omega)) rfl rfl rfl ?_
      refine v_aload_0 dX11_redo_20 ?_
      refine u_getI dX11_redo_21 gf_X11_17 (by first | assumption | rfl | exact led_1 (by assumption) | exact led_2 (by assumption) | exact bk_m (by assumption) (by first | assumption | omega) | exact bk_p (by assumption) (by first | assumption | omega) | exact bk_o (by assumption) (by first | assumption | omega) | exact bk_s (by assumption) (by first | assumption | omega) | exact bk_1 (by assumption) | exact bk_2 (by assumption) | exact bk_3 (by assumption) | exact bk_4 (by assumption) | exact bk_5 (by assumption) | exact bk_6 (by assumption) | exact bk_7 (by assumption) | exact bk_8 (by assumption) | exact sh_ring _ (by first | assumption | omega) | exact sh_imgs _ (by first | assumption | omega)) ?_
      rw [ui_s]
      refine v_if_ne (tgt := 31) dX11_redo_24 (by decide) (fun hc24 => ?_) (fun hc24 => ?_)
      · (first | rw [bI_0, Bool.not_eq_false] at hc24 | rw [bI_0] at hc24 | rw [show (0 : Int32) = nI 0 from rfl, nI_eq (by omega) (by omega)] at hc24 | skip)
        refine v_iconst (v := nI 0) dX11_redo_31 (by decide) ?_
        refine v_zret dX11_redo_32 (by first | rfl | exact bI_n _) rfl rfl rfl rfl ?_
        first
          | (exfalso; revert hc24; decide)
          | (refine (hQ1 e).fin (cb_tr (cb_same (J := (ui (ui (ui I 94 1 (nI ((t + 1) % 13))) 94 2 (nI (u + 1))) 94 3 (nI (r - 1)))) (t' := (t + 1) % 13) (u' := (u + 1)) (r' := (r - 1)) (S' := (forthS S)) h (fun x q => ?_) ?_ (by omega) ?_ ?_ (by omega) ?_ (fun k hkl => ⟨(k + 1) % 13, by unfold live at *; omega, ring_s ht, rfl⟩)) (by decide) (by decide)) (fun a ha => ⟨?_, rfl, rfl⟩) rfl rfl
             · rw [ui_ne q, ui_ne q, ui_ne q]
             · rw [ui_o (by decide), ui_o (by decide), ui_s]
             · rw [ui_o (by decide), ui_s]
             · rw [ui_s]
             · rw [ui_o (by decide), ui_o (by decide), ui_o (by decide)]
             · rw [ui_ne (by omega), ui_ne (by omega), ui_ne (by omega), ui_ne (by omega)])
      · (first | rw [bI_0, Bool.not_eq_false] at hc24 | rw [bI_0] at hc24 | rw [show (0 : Int32) = nI 0 from rfl, nI_eq (by omega) (by omega)] at hc24 | skip)
        refine v_iconst (v := nI 1) dX11_redo_27 (by decide) ?_
        refine v_goto (tgt := 32) dX11_redo_28 (by decide) ?_
        refine v_zret dX11_redo_32 (by first | rfl | exact bI_n _) rfl rfl rfl rfl ?_
        first
          | (exfalso; revert hc24; decide)
          | (refine (hQ1 e).fin (cb_tr (cb_same (J := (ui (ui (ui I 94 1 (nI ((t + 1) % 13))) 94 2 (nI (u + 1))) 94 3 (nI (r - 1)))) (t' := (t + 1) % 13) (u' := (u + 1)) (r' := (r - 1)) (S' := (forthS S)) h (fun x q => ?_) ?_ (by omega) ?_ ?_ (by omega) ?_ (fun k hkl => ⟨(k + 1) % 13, by unfold live at *; omega, ring_s ht, rfl⟩)) (by decide) (by decide)) (fun a ha => ⟨?_, rfl, rfl⟩) rfl rfl
             · rw [ui_ne q, ui_ne q, ui_ne q]
             · rw [ui_o (by decide), ui_o (by decide), ui_s]
             · rw [ui_o (by decide), ui_s]
             · rw [ui_s]
             · rw [ui_o (by decide), ui_o (by decide), ui_o (by decide)]
             · rw [ui_ne (by omega), ui_ne (by omega), ui_ne (by omega), ui_ne (by omega)])
def k_image (F : bkF) (ic : Nat) : Nat := if (decide (0 < F 0) && true) = true then (if ic < 3 then 0 else 3) else trc (decide (0 < F 0)) true
theorem c_X11_image  (h : ClsB I L R B B2 t tp nt tr fa pl F S u r im ic) (hQ0 : k_image F ic ≠ 0 → XQ I L R tp nt (k_image F ic) fa pl F S u r im ic (-1) Q) (hQ1 : k_image F ic = 0 → XQ I L R tp nt 0 fa pl F S u r (fun c => if c = ic then S 0 else im c) (ic + 1) (nI ic) Q) : KK 12 mX11_image b ad [.ref (b + 0)] I L R Q := by
  have hR := cb_R h
  have hb := cb_b h
  have hB := cb_B h
  have hF := cb_F h
  have hO := cb_O h
  have o0 := hO.1
  have o1 := hO.2.1
  have o2 := hO.2.2.1
  have o3 := hO.2.2.2.1
  have o4 := hO.2.2.2.2.1
  have o5 := hO.2.2.2.2.2.1
  have o6 := hO.2.2.2.2.2.2.1
  have h1 := cb_1 h
  have ht := cb_t h
  have hS := sh_ring t ht
  have hL := cb_L h
  have hK := cb_K h
  have hps := hK.pers
  refine K.of (M := mX11_image) (lv := [some (.ref (b + 0))]) (by decide) (Nat.le_of_ble_eq_true rfl) rfl ?_
  refine v_aload_0 dX11_image_0 ?_
  refine v_aload_0 dX11_image_1 ?_
  refine u_getR dX11_image_2 gf_X11_29 (by first | assumption | rfl | exact led_1 (by assumption) | exact led_2 (by assumption) | exact bk_m (by assumption) (by first | assumption | omega) | exact bk_p (by assumption) (by first | assumption | omega) | exact bk_o (by assumption) (by first | assumption | omega) | exact bk_s (by assumption) (by first | assumption | omega) | exact bk_1 (by assumption) | exact bk_2 (by assumption) | exact bk_3 (by assumption) | exact bk_4 (by assumption) | exact bk_5 (by assumption) | exact bk_6 (by assumption) | exact bk_7 (by assumption) | exact bk_8 (by assumption) | exact sh_ring _ (by first | assumption | omega) | exact sh_imgs _ (by first | assumption | omega)) (by assumption) ?_
  refine u_callV_0 dX11_image_5 ml_X11_150 mv_X0_isTold (by first | assumption | rfl | exact led_1 (by assumption) | exact led_2 (by assumption) | exact bk_m (by assumption) (by first | assumption | omega) | exact bk_p (by assumption) (by first | assumption | omega) | exact bk_o (by assumption) (by first | assumption | omega) | exact bk_s (by assumption) (by first | assumption | omega) | exact bk_1 (by assumption) | exact bk_2 (by assumption) | exact bk_3 (by assumption) | exact bk_4 (by assumption) | exact bk_5 (by assumption) | exact bk_6 (by assumption) | exact bk_7 (by assumption) | exact bk_8 (by assumption) | exact sh_ring _ (by first | assumption | omega) | exact sh_imgs _ (by first | assumption | omega)) (by decide) rfl (by decide) (Nat.le_of_ble_eq_true rfl) (c_X0_isTold hB hF hO ?_)
  refine v_iconst (v := nI 1) dX11_image_8 (by decide) ?_
  refine u_callV_2 dX11_image_9 ml_X11_68 mv_X11_admit (by first | assumption | rfl | exact led_1 (by assumption) | exact led_2 (by assumption) | exact bk_m (by assumption) (by first | assumption | omega) | exact bk_p (by assumption) (by first | assumption | omega) | exact bk_o (by assumption) (by first | assumption | omega) | exact bk_s (by assumption) (by first | assumption | omega) | exact bk_1 (by assumption) | exact bk_2 (by assumption) | exact bk_3 (by assumption) | exact bk_4 (by assumption) | exact bk_5 (by assumption) | exact bk_6 (by assumption) | exact bk_7 (by assumption) | exact bk_8 (by assumption) | exact sh_ring _ (by first | assumption | omega) | exact sh_imgs _ (by first | assumption | omega)) (by decide) rfl (by decide) (Nat.le_of_ble_eq_true rfl) (c_X11_admit (p := decide (0 < F 0)) (q := true) ?_)
  have hh : Hi I (ui I 0 2 (nI (trc (decide (0 < F 0)) (true)))) L L R R := hi_ui (by decide)
  have h := cb_tr (v := trc (decide (0 < F 0)) (true)) h (trc_lt _ _).1 (trc_lt _ _).2
  have hF := cb_F h
  have h1 := cb_1 h
  have hL := cb_L h
  refine v_if_ne (tgt := 17) dX11_image_12 (by decide) (fun hc12 => ?_) (fun hc12 => ?_)
  · (first | rw [bI_0, Bool.not_eq_false] at hc12 | rw [bI_0] at hc12 | rw [show (0 : Int32) = nI 0 from rfl, nI_eq (by omega) (by omega)] at hc12 | skip)
    have hA := hc12
    rw [Bool.and_eq_true] at hA
    obtain ⟨hA1, hA2⟩ := hA
    have g5 := h.2.2.2.2.2.2.1.1
    have g6 := h.2.2.2.2.2.2.1.2.1
    refine v_aload_0 dX11_image_17 ?_
    refine u_getR dX11_image_18 gf_X11_46 (by first | assumption | rfl | exact led_1 (by assumption) | exact led_2 (by assumption) | exact bk_m (by assumption) (by first | assumption | omega) | exact bk_p (by assumption) (by first | assumption | omega) | exact bk_o (by assumption) (by first | assumption | omega) | exact bk_s (by assumption) (by first | assumption | omega) | exact bk_1 (by assumption) | exact bk_2 (by assumption) | exact bk_3 (by assumption) | exact bk_4 (by assumption) | exact bk_5 (by assumption) | exact bk_6 (by assumption) | exact bk_7 (by assumption) | exact bk_8 (by assumption) | exact sh_ring _ (by first | assumption | omega) | exact sh_imgs _ (by first | assumption | omega)) (ro_X11_8 (by assumption)) ?_
    refine u_getI dX11_image_21 gf_X11_280 (by first | assumption | rfl | exact led_1 (by assumption) | exact led_2 (by assumption) | exact bk_m (by assumption) (by first | assumption | omega) | exact bk_p (by assumption) (by first | assumption | omega) | exact bk_o (by assumption) (by first | assumption | omega) | exact bk_s (by assumption) (by first | assumption | omega) | exact bk_1 (by assumption) | exact bk_2 (by assumption) | exact bk_3 (by assumption) | exact bk_4 (by assumption) | exact bk_5 (by assumption) | exact bk_6 (by assumption) | exact bk_7 (by assumption) | exact bk_8 (by assumption) | exact sh_ring _ (by first | assumption | omega) | exact sh_imgs _ (by first | assumption | omega)) ?_
    rw [g5]
    refine v_iconst (v := nI 3) dX11_image_24 (by decide) ?_
    refine v_icmp_lt (tgt := 36) dX11_image_25 (by decide) (fun hc25 => ?_) (fun hc25 => ?_)
    · (try rw [nI_ltI (by omega) (by omega)] at hc25)
      refine v_aload_0 dX11_image_36 ?_
      refine u_getR dX11_image_37 gf_X11_46 (by first | assumption | rfl | exact led_1 (by assumption) | exact led_2 (by assumption) | exact bk_m (by assumption) (by first | assumption | omega) | exact bk_p (by assumption) (by first | assumption | omega) | exact bk_o (by assumption) (by first | assumption | omega) | exact bk_s (by assumption) (by first | assumption | omega) | exact bk_1 (by assumption) | exact bk_2 (by assumption) | exact bk_3 (by assumption) | exact bk_4 (by assumption) | exact bk_5 (by assumption) | exact bk_6 (by assumption) | exact bk_7 (by assumption) | exact bk_8 (by assumption) | exact sh_ring _ (by first | assumption | omega) | exact sh_imgs _ (by first | assumption | omega)) (ro_X11_8 (by assumption)) ?_
      refine u_callV_0 dX11_image_40 ml_X11_283 mv_X1_keepImage (by first | assumption | rfl | exact led_1 (by assumption) | exact led_2 (by assumption) | exact bk_m (by assumption) (by first | assumption | omega) | exact bk_p (by assumption) (by first | assumption | omega) | exact bk_o (by assumption) (by first | assumption | omega) | exact bk_s (by assumption) (by first | assumption | omega) | exact bk_1 (by assumption) | exact bk_2 (by assumption) | exact bk_3 (by assumption) | exact bk_4 (by assumption) | exact bk_5 (by assumption) | exact bk_6 (by assumption) | exact bk_7 (by assumption) | exact bk_8 (by assumption) | exact sh_ring _ (by first | assumption | omega) | exact sh_imgs _ (by first | assumption | omega)) (by decide) rfl (by decide) (Nat.le_of_ble_eq_true rfl) (c_X1_keepImage hR h1 ht g5 hc25 hL (fun J q1 q2 q3 q4 => ?_))
      refine v_iret dX11_image_43 rfl rfl rfl rfl ?_
      have hk : k_image F ic = 0 := by rw [k_image, if_pos hc12, if_pos hc25]
      exact (hQ1 hk).fin (cb_img h hc25 q1 q2 q3 q4) (hh.trans (fun a ha => ⟨q4 a (by omega) (by omega) (by omega) (by omega), rfl, rfl⟩)) (trc_0 hc12) rfl
    · (try rw [nI_ltI (by omega) (by omega)] at hc25)
      refine v_aload_0 dX11_image_28 ?_
      refine v_iconst (v := nI 3) dX11_image_29 (by decide) ?_
      refine u_callV_1 dX11_image_30 ml_X11_78 mv_X11_refuse (by first | assumption | rfl | exact led_1 (by assumption) | exact led_2 (by assumption) | exact bk_m (by assumption) (by first | assumption | omega) | exact bk_p (by assumption) (by first | assumption | omega) | exact bk_o (by assumption) (by first | assumption | omega) | exact bk_s (by assumption) (by first | assumption | omega) | exact bk_1 (by assumption) | exact bk_2 (by assumption) | exact bk_3 (by assumption) | exact bk_4 (by assumption) | exact bk_5 (by assumption) | exact bk_6 (by assumption) | exact bk_7 (by assumption) | exact bk_8 (by assumption) | exact sh_ring _ (by first | assumption | omega) | exact sh_imgs _ (by first | assumption | omega)) (by decide) rfl (by decide) (Nat.le_of_ble_eq_true rfl) (c_X11_refuse ?_)
      refine v_pop dX11_image_33 rfl ?_
      refine v_iconst (v := -1) dX11_image_34 (by decide) ?_
      refine v_iret dX11_image_35 rfl rfl rfl rfl ?_
      have hk : k_image F ic = 3 := by rw [k_image, if_pos hc12, if_neg hc25]
      exact (hQ0 (by rw [hk]; decide)).fin (cb_tr h (by decide) (by decide)) (hh.trans (hi_ui (by decide))) hk.symm rfl
  · (first | rw [bI_0, Bool.not_eq_false] at hc12 | rw [bI_0] at hc12 | rw [show (0 : Int32) = nI 0 from rfl, nI_eq (by omega) (by omega)] at hc12 | skip)
    refine v_iconst (v := -1) dX11_image_15 (by decide) ?_
    refine v_iret dX11_image_16 rfl rfl rfl rfl ?_
    have hk : k_image F ic = trc (decide (0 < F 0)) true := by rw [k_image, if_neg (by rw [hc12]; decide)]
    exact (hQ0 (by rw [hk]; exact trc_n0 hc12)).fin h hh hk.symm rfl
def k_back (ic : Nat) (x : Int32) : Nat := trc (inb x ic) true
theorem c_X11_back {x : Int32} (h : ClsB I L R B B2 t tp nt tr fa pl F S u r im ic) (hQ0 : k_back ic x ≠ 0 → XQ I L R tp nt (k_back ic x) fa pl F S u r im ic (0) Q) (hQ1 : k_back ic x = 0 → XQ I L R tp nt 0 fa pl F (putS S (im (tN x))) 0 0 im ic (1) Q) : KK 12 mX11_back b ad [.ref (b + 0), .int x] I L R Q := by
  have hR := cb_R h
  have hb := cb_b h
  have hB := cb_B h
  have hF := cb_F h
  have hO := cb_O h
  have o0 := hO.1
  have o1 := hO.2.1
  have o2 := hO.2.2.1
  have o3 := hO.2.2.2.1
  have o4 := hO.2.2.2.2.1
  have o5 := hO.2.2.2.2.2.1
  have o6 := hO.2.2.2.2.2.2.1
  have h1 := cb_1 h
  have ht := cb_t h
  have hS := sh_ring t ht
  have hL := cb_L h
  have hK := cb_K h
  have hps := hK.pers
  refine K.of (M := mX11_back) (lv := [some (.ref (b + 0)), some (.int x)]) (by decide) (Nat.le_of_ble_eq_true rfl) rfl ?_
  have cut : VV yX11_back cX11_back 2 (some .boolean) 12 Q b ad 21 [some (.ref (b + 0)), some (.int x)] [.int (bI (decide (0 ≤ x) && decide (x < nI ic))), .ref (b + 0)] I L R := by
    refine v_iconst (v := nI 1) dX11_back_21 (by decide) ?_
    refine u_callV_2 dX11_back_22 ml_X11_68 mv_X11_admit (by first | assumption | rfl | exact led_1 (by assumption) | exact led_2 (by assumption) | exact bk_m (by assumption) (by first | assumption | omega) | exact bk_p (by assumption) (by first | assumption | omega) | exact bk_o (by assumption) (by first | assumption | omega) | exact bk_s (by assumption) (by first | assumption | omega) | exact bk_1 (by assumption) | exact bk_2 (by assumption) | exact bk_3 (by assumption) | exact bk_4 (by assumption) | exact bk_5 (by assumption) | exact bk_6 (by assumption) | exact bk_7 (by assumption) | exact bk_8 (by assumption) | exact sh_ring _ (by first | assumption | omega) | exact sh_imgs _ (by first | assumption | omega)) (by decide) rfl (by decide) (Nat.le_of_ble_eq_true rfl) (c_X11_admit (p := decide (0 ≤ x) && decide (x < nI ic)) (q := true) ?_)
    have hh : Hi I (ui I 0 2 (nI (trc (decide (0 ≤ x) && decide (x < nI ic)) (true)))) L L R R := hi_ui (by decide)
    have h := cb_tr (v := trc (decide (0 ≤ x) && decide (x < nI ic)) (true)) h (trc_lt _ _).1 (trc_lt _ _).2
    have hF := cb_F h
    have h1 := cb_1 h
    have hL := cb_L h
    refine v_if_ne (tgt := 30) dX11_back_25 (by decide) (fun hc25 => ?_) (fun hc25 => ?_)
    · (first | rw [bI_0, Bool.not_eq_false] at hc25 | rw [bI_0] at hc25 | rw [show (0 : Int32) = nI 0 from rfl, nI_eq (by omega) (by omega)] at hc25 | skip)
      have hA := hc25
      rw [Bool.and_eq_true] at hA
      obtain ⟨hA0, hA2⟩ := hA
      rw [Bool.and_eq_true] at hA0
      obtain ⟨hA0, hP1⟩ := hA0
      have g5 := h.2.2.2.2.2.2.1.1
      have g6 := h.2.2.2.2.2.2.1.2.1
      have hin : inb x ic = true := by unfold inb; rw [hA0, hP1]; rfl
      obtain ⟨c, rfl, hc⟩ := inb_ex (by omega) hin
      have ec : tN (nI c) = c := tN_nI (by omega)
      have g7 := h.2.2.2.2.2.2.1.2.2 c hc
      refine v_aload_0 dX11_back_30 ?_
      refine u_getR dX11_back_31 gf_X11_46 (by first | assumption | rfl | exact led_1 (by assumption) | exact led_2 (by assumption) | exact bk_m (by assumption) (by first | assumption | omega) | exact bk_p (by assumption) (by first | assumption | omega) | exact bk_o (by assumption) (by first | assumption | omega) | exact bk_s (by assumption) (by first | assumption | omega) | exact bk_1 (by assumption) | exact bk_2 (by assumption) | exact bk_3 (by assumption) | exact bk_4 (by assumption) | exact bk_5 (by assumption) | exact bk_6 (by assumption) | exact bk_7 (by assumption) | exact bk_8 (by assumption) | exact sh_ring _ (by first | assumption | omega) | exact sh_imgs _ (by first | assumption | omega)) (ro_X11_8 (by assumption)) ?_
      refine v_aload_0 dX11_back_34 ?_
      refine u_getR dX11_back_35 gf_X11_46 (by first | assumption | rfl | exact led_1 (by assumption) | exact led_2 (by assumption) | exact bk_m (by assumption) (by first | assumption | omega) | exact bk_p (by assumption) (by first | assumption | omega) | exact bk_o (by assumption) (by first | assumption | omega) | exact bk_s (by assumption) (by first | assumption | omega) | exact bk_1 (by assumption) | exact bk_2 (by assumption) | exact bk_3 (by assumption) | exact bk_4 (by assumption) | exact bk_5 (by assumption) | exact bk_6 (by assumption) | exact bk_7 (by assumption) | exact bk_8 (by assumption) | exact sh_ring _ (by first | assumption | omega) | exact sh_imgs _ (by first | assumption | omega)) (ro_X11_8 (by assumption)) ?_
      refine u_getR dX11_back_38 gf_X11_286 (by first | assumption | rfl | exact led_1 (by assumption) | exact led_2 (by assumption) | exact bk_m (by assumption) (by first | assumption | omega) | exact bk_p (by assumption) (by first | assumption | omega) | exact bk_o (by assumption) (by first | assumption | omega) | exact bk_s (by assumption) (by first | assumption | omega) | exact bk_1 (by assumption) | exact bk_2 (by assumption) | exact bk_3 (by assumption) | exact bk_4 (by assumption) | exact bk_5 (by assumption) | exact bk_6 (by assumption) | exact bk_7 (by assumption) | exact bk_8 (by assumption) | exact sh_ring _ (by first | assumption | omega) | exact sh_imgs _ (by first | assumption | omega)) (ro_X1_4 (by assumption)) ?_
      refine v_iload_1 dX11_back_41 ?_
      refine u_aald dX11_back_42 (by first | assumption | rfl | exact led_1 (by assumption) | exact led_2 (by assumption) | exact bk_m (by assumption) (by first | assumption | omega) | exact bk_p (by assumption) (by first | assumption | omega) | exact bk_o (by assumption) (by first | assumption | omega) | exact bk_s (by assumption) (by first | assumption | omega) | exact bk_1 (by assumption) | exact bk_2 (by assumption) | exact bk_3 (by assumption) | exact bk_4 (by assumption) | exact bk_5 (by assumption) | exact bk_6 (by assumption) | exact bk_7 (by assumption) | exact bk_8 (by assumption) | exact sh_ring _ (by first | assumption | omega) | exact sh_imgs _ (by first | assumption | omega)) (by decide) (by decide) rfl (by first | with_reducible rfl | (simp only [nlit, nI_add, pk_mul]; with_reducible rfl) | rfl) (by first | assumption | omega) (by decide) (by first | exact ro_m (by assumption) (by assumption) (by first | assumption | omega) | exact ro_p (by assumption) (by assumption) (by first | assumption | omega) | exact ro_o (by assumption) (by assumption) (by first | assumption | omega) | exact ro_s (by assumption) (by assumption) (by first | assumption | omega) | exact ro_ring (by assumption) (by first | assumption | omega) | exact ro_imgs (by assumption) (by first | assumption | omega)) ?_
      refine u_callV_1 dX11_back_43 ml_X11_89 mv_X1_begin (by first | assumption | rfl | exact led_1 (by assumption) | exact led_2 (by assumption) | exact bk_m (by assumption) (by first | assumption | omega) | exact bk_p (by assumption) (by first | assumption | omega) | exact bk_o (by assumption) (by first | assumption | omega) | exact bk_s (by assumption) (by first | assumption | omega) | exact bk_1 (by assumption) | exact bk_2 (by assumption) | exact bk_3 (by assumption) | exact bk_4 (by assumption) | exact bk_5 (by assumption) | exact bk_6 (by assumption) | exact bk_7 (by assumption) | exact bk_8 (by assumption) | exact sh_ring _ (by first | assumption | omega) | exact sh_imgs _ (by first | assumption | omega)) (by decide) rfl (by decide) (Nat.le_of_ble_eq_true rfl) (c_X1_begin hR h1 ht (sh_imgs _ (by omega)) g7.1 (fun J q1 q2 q3 q4 q5 q6 => ?_))
      refine v_iconst (v := nI 1) dX11_back_46 (by decide) ?_
      refine v_zret dX11_back_47 (by first | rfl | exact bI_n _) rfl rfl rfl rfl ?_
      have hk : k_back ic (nI c) = 0 := trc_0 hc25
      have hfin := hQ1 hk
      rw [ec] at hfin
      exact hfin.fin (cb_put (s := im c) h q6 q2 q3 q4 q5 q1 g7.2) (hh.trans (fun a ha => ⟨q6 a (by omega) (by omega) (by omega) (by omega), rfl, rfl⟩)) (trc_0 hc25) rfl
    · (first | rw [bI_0, Bool.not_eq_false] at hc25 | rw [bI_0] at hc25 | rw [show (0 : Int32) = nI 0 from rfl, nI_eq (by omega) (by omega)] at hc25 | skip)
      refine v_iconst (v := nI 0) dX11_back_28 (by decide) ?_
      refine v_zret dX11_back_29 (by first | rfl | exact bI_n _) rfl rfl rfl rfl ?_
      have hk : k_back ic x = trc (decide (0 ≤ x) && decide (x < nI ic)) true := rfl
      exact (hQ0 (by rw [hk]; exact trc_n0 hc25)).fin h hh hk.symm rfl
  refine v_aload_0 dX11_back_0 ?_
  refine v_iload_1 dX11_back_1 ?_
  refine v_if_lt (tgt := 20) dX11_back_2 (by decide) (fun hc2 => ?_) (fun hc2 => ?_)
  · (first | rw [show (0 : Int32) = nI 0 from rfl, nI_ltI (by omega) (by omega)] at hc2 | rw [show (0 : Int32) = nI 0 from rfl, nI_leI (by omega) (by omega)] at hc2 | skip)
    refine v_iconst (v := nI 0) dX11_back_20 (by decide) ?_
    have e : (decide (0 ≤ x) && decide (x < nI ic)) = false := by
      simp only [hc2, dle_f, dle_t, dlt_f, dlt_t, not_false_eq_true, Bool.and_true, Bool.and_false, Bool.true_and, Bool.false_and]
    rw [e] at cut
    exact cut
  · (first | rw [show (0 : Int32) = nI 0 from rfl, nI_ltI (by omega) (by omega)] at hc2 | rw [show (0 : Int32) = nI 0 from rfl, nI_leI (by omega) (by omega)] at hc2 | skip)
    refine v_iload_1 dX11_back_5 ?_
    refine v_aload_0 dX11_back_6 ?_
    refine u_getR dX11_back_7 gf_X11_46 (by first | assumption | rfl | exact led_1 (by assumption) | exact led_2 (by assumption) | exact bk_m (by assumption) (by first | assumption | omega) | exact bk_p (by assumption) (by first | assumption | omega) | exact bk_o (by assumption) (by first | assumption | omega) | exact bk_s (by assumption) (by first | assumption | omega) | exact bk_1 (by assumption) | exact bk_2 (by assumption) | exact bk_3 (by assumption) | exact bk_4 (by assumption) | exact bk_5 (by assumption) | exact bk_6 (by assumption) | exact bk_7 (by assumption) | exact bk_8 (by assumption) | exact sh_ring _ (by first | assumption | omega) | exact sh_imgs _ (by first | assumption | omega)) (ro_X11_8 (by assumption)) ?_
    refine u_getI dX11_back_10 gf_X11_280 (by first | assumption | rfl | exact led_1 (by assumption) | exact led_2 (by assumption) | exact bk_m (by assumption) (by first | assumption | omega) | exact bk_p (by assumption) (by first | assumption | omega) | exact bk_o (by assumption) (by first | assumption | omega) | exact bk_s (by assumption) (by first | assumption | omega) | exact bk_1 (by assumption) | exact bk_2 (by assumption) | exact bk_3 (by assumption) | exact bk_4 (by assumption) | exact bk_5 (by assumption) | exact bk_6 (by assumption) | exact bk_7 (by assumption) | exact bk_8 (by assumption) | exact sh_ring _ (by first | assumption | omega) | exact sh_imgs _ (by first | assumption | omega)) ?_
    rw [h.2.2.2.2.2.2.1.1]
    refine v_icmp_ge (tgt := 20) dX11_back_13 (by decide) (fun hc13 => ?_) (fun hc13 => ?_)
    · (try rw [nI_leI (by omega) (by omega)] at hc13)
      refine v_iconst (v := nI 0) dX11_back_20 (by decide) ?_
      have e : (decide (0 ≤ x) && decide (x < nI ic)) = false := by
        simp only [hc2, hc13, dle_f, dle_t, dlt_f, dlt_t, not_false_eq_true, Bool.and_true, Bool.and_false, Bool.true_and, Bool.false_and]
      rw [e] at cut
      exact cut
    · (try rw [nI_leI (by omega) (by omega)] at hc13)
      refine v_iconst (v := nI 1) dX11_back_16 (by decide) ?_
      refine v_goto (tgt := 21) dX11_back_17 (by decide) ?_
      have e : (decide (0 ≤ x) && decide (x < nI ic)) = true := by
        simp only [hc2, hc13, dle_f, dle_t, dlt_f, dlt_t, not_false_eq_true, Bool.and_true, Bool.and_false, Bool.true_and, Bool.false_and]
      rw [e] at cut
      exact cut
end
