theorem trc_n0 {p q : Bool} (h : (p && q) = false) : trc p q ≠ 0 := by cases p <;> cases q <;> first | decide | cases h
theorem bI_inj {p q : Bool} : bI p = bI q ↔ p = q := by cases p <;> cases q <;> decide
def okL (F : bkF) (s : LSt) (m p f u : Nat) : Bool := fitF F m p && (fup (hitm s.2.1 m f u) 0 s.1).isNone && (fup (hitp s.2.1 p f u) 0 s.1).isNone
section
variable {b : Nat} {ad : Nat → Nat} {I : HI} {L : HL} {R : HR} {Q : QT} {B B2 t : Nat} {tp : Nat → Nat} {nt tr fa pl : Nat} {F : bkF} {S : Nat → LSt} {u r : Nat} {im : Nat → LSt} {ic : Nat}
def k_lend (F : bkF) (s : LSt) (x y z w : Int32) : Nat := if ((inb x (F 2) && inb y (F 3)) && (ind z (F 0) && ind w (F 0) && decide (z ≤ w))) = true then (if 20 ≤ s.1 then 3 else if okL F s (tN x) (tN y) (tN z) (tN w) = true then 0 else 5) else trc (inb x (F 2) && inb y (F 3)) (ind z (F 0) && ind w (F 0) && decide (z ≤ w))
theorem c_X11_lend {x y z w : Int32} (h : ClsB I L R B B2 t tp nt tr fa pl F S u r im ic) (hQ0 : k_lend F (S 0) x y z w ≠ 0 → XQ I L R tp nt (k_lend F (S 0) x y z w) fa pl F S u r im ic (0) Q) (hQ1 : k_lend F (S 0) x y z w = 0 → XQ I L R tp nt 0 fa pl F (stepS S (insS (S 0) (tN x, tN y, tN z, tN w))) (upU u) 0 im ic (1) Q) : KK 12 mX11_lend b ad [.ref (b + 0), .int x, .int y, .int z, .int w] I L R Q := by
  have hR := cb_R h
  have hb := cb_b h
  have hB := cb_B h
  have hF := cb_F h
  have hO := cb_O h
  have o0 := hO.1
  have o1 := hO.2.1
  have o2 := hO.2.2.1
  have o3 := hO.2.2.2.1
  have o4 := hO.2.2.2.2.1
  have o5 := hO.2.2.2.2.2.1
  have o6 := hO.2.2.2.2.2.2.1
  have h1 := cb_1 h
  have ht := cb_t h
  have hS := sh_ring t ht
  have hL := cb_L h
  have hK := cb_K h
  have hps := hK.pers
  refine K.of (M := mX11_lend) (lv := [some (.ref (b + 0)), some (.int x), some (.int y), some (.int z), some (.int w)]) (by decide) (Nat.le_of_ble_eq_true rfl) rfl ?_
  have cut : VV yX11_lend cX11_lend 5 (some .boolean) 12 Q b ad 28 [some (.ref (b + 0)), some (.int x), some (.int y), some (.int z), some (.int w)] [.int (bI (inb x (F 2) && inb y (F 3))), .ref (b + 0)] I L R := by
    refine v_aload_0 dX11_lend_28 ?_
    refine u_getR dX11_lend_29 gf_X11_29 (by first | assumption | rfl | exact led_1 (by assumption) | exact led_2 (by assumption) | exact bk_m (by assumption) (by first | assumption | omega) | exact bk_p (by assumption) (by first | assumption | omega) | exact bk_o (by assumption) (by first | assumption | omega) | exact bk_s (by assumption) (by first | assumption | omega) | exact bk_1 (by assumption) | exact bk_2 (by assumption) | exact bk_3 (by assumption) | exact bk_4 (by assumption) | exact bk_5 (by assumption) | exact bk_6 (by assumption) | exact bk_7 (by assumption) | exact bk_8 (by assumption) | exact sh_ring _ (by first | assumption | omega) | exact sh_imgs _ (by first | assumption | omega)) (by assumption) ?_
    refine v_iload_3 dX11_lend_32 ?_
    refine v_iload_4 dX11_lend_33 ?_
    refine u_callV_2 dX11_lend_35 ml_X11_179 mv_X0_hasDays (by first | assumption | rfl | exact led_1 (by assumption) | exact led_2 (by assumption) | exact bk_m (by assumption) (by first | assumption | omega) | exact bk_p (by assumption) (by first | assumption | omega) | exact bk_o (by assumption) (by first | assumption | omega) | exact bk_s (by assumption) (by first | assumption | omega) | exact bk_1 (by assumption) | exact bk_2 (by assumption) | exact bk_3 (by assumption) | exact bk_4 (by assumption) | exact bk_5 (by assumption) | exact bk_6 (by assumption) | exact bk_7 (by assumption) | exact bk_8 (by assumption) | exact sh_ring _ (by first | assumption | omega) | exact sh_imgs _ (by first | assumption | omega)) (by decide) rfl (by decide) (Nat.le_of_ble_eq_true rfl) (c_X0_hasDays hB hF ?_)
    refine u_callV_2 dX11_lend_38 ml_X11_68 mv_X11_admit (by first | assumption | rfl | exact led_1 (by assumption) | exact led_2 (by assumption) | exact bk_m (by assumption) (by first | assumption | omega) | exact bk_p (by assumption) (by first | assumption | omega) | exact bk_o (by assumption) (by first | assumption | omega) | exact bk_s (by assumption) (by first | assumption | omega) | exact bk_1 (by assumption) | exact bk_2 (by assumption) | exact bk_3 (by assumption) | exact bk_4 (by assumption) | exact bk_5 (by assumption) | exact bk_6 (by assumption) | exact bk_7 (by assumption) | exact bk_8 (by assumption) | exact sh_ring _ (by first | assumption | omega) | exact sh_imgs _ (by first | assumption | omega)) (by decide) rfl (by decide) (Nat.le_of_ble_eq_true rfl) (c_X11_admit (p := inb x (F 2) && inb y (F 3)) (q := (ind z (F 0) && ind w (F 0) && decide (z ≤ w))) ?_)
    have hh : Hi I (ui I 0 2 (nI (trc (inb x (F 2) && inb y (F 3)) ((ind z (F 0) && ind w (F 0) && decide (z ≤ w)))))) L L R R := hi_ui (by decide)
    have h := cb_tr (v := trc (inb x (F 2) && inb y (F 3)) ((ind z (F 0) && ind w (F 0) && decide (z ≤ w)))) h (trc_lt _ _).1 (trc_lt _ _).2
    have hF := cb_F h
    have h1 := cb_1 h
    have hL := cb_L h
    refine v_if_ne (tgt := 46) dX11_lend_41 (by decide) (fun hc41 => ?_) (fun hc41 => ?_)
    · (first | rw [bI_0, Bool.not_eq_false] at hc41 | rw [bI_0] at hc41 | rw [show (0 : Int32) = nI 0 from rfl, nI_eq (by omega) (by omega)] at hc41 | skip)
      have hA := hc41
      rw [Bool.and_eq_true] at hA
      obtain ⟨hA0, hA2⟩ := hA
      rw [Bool.and_eq_true] at hA0
      obtain ⟨hA0, hP1⟩ := hA0
      obtain ⟨m, rfl, hm⟩ := inb_ex (by omega) hA0
      have em : tN (nI m) = m := tN_nI (by omega)
      obtain ⟨p, rfl, hp⟩ := inb_ex (by omega) hP1
      have ep : tN (nI p) = p := tN_nI (by omega)
      rw [Bool.and_eq_true, Bool.and_eq_true, decide_eq_true_eq] at hA2
      obtain ⟨⟨hz, hw⟩, hzw⟩ := hA2
      obtain ⟨d, rfl, hd1, hd⟩ := ind_ex (by omega) hz
      have ed : tN (nI d) = d := tN_nI (by omega)
      obtain ⟨d2, rfl, hd21, hd2⟩ := ind_ex (by omega) hw
      have ed2 : tN (nI d2) = d2 := tN_nI (by omega)
      rw [nI_leI (by omega) (by omega)] at hzw
      have ho4 : ok4 (m, p, d, d2) := ⟨Nat.lt_of_lt_of_le hm o2, Nat.lt_of_lt_of_le hp o3, hd1, hzw, by show d2 ≤ 20; omega⟩
      have hu2 := h.2.2.2.2.2.1.2.2.1
      have h12 := h.2.2.2.2.2.1.2.2.2.2.1
      have hS2 := sh_ring ((t + 1) % 13) (by omega)
      refine v_aload_0 dX11_lend_46 ?_
      refine u_getR dX11_lend_47 gf_X11_46 (by first | assumption | rfl | exact led_1 (by assumption) | exact led_2 (by assumption) | exact bk_m (by assumption) (by first | assumption | omega) | exact bk_p (by assumption) (by first | assumption | omega) | exact bk_o (by assumption) (by first | assumption | omega) | exact bk_s (by assumption) (by first | assumption | omega) | exact bk_1 (by assumption) | exact bk_2 (by assumption) | exact bk_3 (by assumption) | exact bk_4 (by assumption) | exact bk_5 (by assumption) | exact bk_6 (by assumption) | exact bk_7 (by assumption) | exact bk_8 (by assumption) | exact sh_ring _ (by first | assumption | omega) | exact sh_imgs _ (by first | assumption | omega)) (ro_X11_8 (by assumption)) ?_
      refine u_callV_0 dX11_lend_50 ml_X11_113 mv_X1_now (by first | assumption | rfl | exact led_1 (by assumption) | exact led_2 (by assumption) | exact bk_m (by assumption) (by first | assumption | omega) | exact bk_p (by assumption) (by first | assumption | omega) | exact bk_o (by assumption) (by first | assumption | omega) | exact bk_s (by assumption) (by first | assumption | omega) | exact bk_1 (by assumption) | exact bk_2 (by assumption) | exact bk_3 (by assumption) | exact bk_4 (by assumption) | exact bk_5 (by assumption) | exact bk_6 (by assumption) | exact bk_7 (by assumption) | exact bk_8 (by assumption) | exact sh_ring _ (by first | assumption | omega) | exact sh_imgs _ (by first | assumption | omega)) (by decide) rfl (by decide) (Nat.le_of_ble_eq_true rfl) (c_X1_now hR h1 ht ?_)
      refine u_callV_0 dX11_lend_53 ml_X11_240 mv_X2_isFull (by first | assumption | rfl | exact led_1 (by assumption) | exact led_2 (by assumption) | exact bk_m (by assumption) (by first | assumption | omega) | exact bk_p (by assumption) (by first | assumption | omega) | exact bk_o (by assumption) (by first | assumption | omega) | exact bk_s (by assumption) (by first | assumption | omega) | exact bk_1 (by assumption) | exact bk_2 (by assumption) | exact bk_3 (by assumption) | exact bk_4 (by assumption) | exact bk_5 (by assumption) | exact bk_6 (by assumption) | exact bk_7 (by assumption) | exact bk_8 (by assumption) | exact sh_ring _ (by first | assumption | omega) | exact sh_imgs _ (by first | assumption | omega)) (by decide) rfl (by decide) (Nat.le_of_ble_eq_true rfl) (c_X2_isFull hS hL.1.1 hL.1.2.1 ?_)
      refine v_if_eq (tgt := 65) dX11_lend_56 (by decide) (fun hc56 => ?_) (fun hc56 => ?_)
      · (first | rw [bI_0, Bool.not_eq_false] at hc56 | rw [bI_0] at hc56 | rw [show (0 : Int32) = nI 0 from rfl, nI_eq (by omega) (by omega)] at hc56 | skip)
        refine v_aload_0 dX11_lend_65 ?_
        refine u_getR dX11_lend_66 gf_X11_29 (by first | assumption | rfl | exact led_1 (by assumption) | exact led_2 (by assumption) | exact bk_m (by assumption) (by first | assumption | omega) | exact bk_p (by assumption) (by first | assumption | omega) | exact bk_o (by assumption) (by first | assumption | omega) | exact bk_s (by assumption) (by first | assumption | omega) | exact bk_1 (by assumption) | exact bk_2 (by assumption) | exact bk_3 (by assumption) | exact bk_4 (by assumption) | exact bk_5 (by assumption) | exact bk_6 (by assumption) | exact bk_7 (by assumption) | exact bk_8 (by assumption) | exact sh_ring _ (by first | assumption | omega) | exact sh_imgs _ (by first | assumption | omega)) (by assumption) ?_
        refine v_iload_1 dX11_lend_69 ?_
        refine v_iload_2 dX11_lend_70 ?_
        refine v_iload_3 dX11_lend_71 ?_
        refine v_iload_4 dX11_lend_72 ?_
        refine v_aload_0 dX11_lend_74 ?_
        refine u_getR dX11_lend_75 gf_X11_46 (by first | assumption | rfl | exact led_1 (by assumption) | exact led_2 (by assumption) | exact bk_m (by assumption) (by first | assumption | omega) | exact bk_p (by assumption) (by first | assumption | omega) | exact bk_o (by assumption) (by first | assumption | omega) | exact bk_s (by assumption) (by first | assumption | omega) | exact bk_1 (by assumption) | exact bk_2 (by assumption) | exact bk_3 (by assumption) | exact bk_4 (by assumption) | exact bk_5 (by assumption) | exact bk_6 (by assumption) | exact bk_7 (by assumption) | exact bk_8 (by assumption) | exact sh_ring _ (by first | assumption | omega) | exact sh_imgs _ (by first | assumption | omega)) (ro_X11_8 (by assumption)) ?_
        refine u_callV_0 dX11_lend_78 ml_X11_113 mv_X1_now (by first | assumption | rfl | exact led_1 (by assumption) | exact led_2 (by assumption) | exact bk_m (by assumption) (by first | assumption | omega) | exact bk_p (by assumption) (by first | assumption | omega) | exact bk_o (by assumption) (by first | assumption | omega) | exact bk_s (by assumption) (by first | assumption | omega) | exact bk_1 (by assumption) | exact bk_2 (by assumption) | exact bk_3 (by assumption) | exact bk_4 (by assumption) | exact bk_5 (by assumption) | exact bk_6 (by assumption) | exact bk_7 (by assumption) | exact bk_8 (by assumption) | exact sh_ring _ (by first | assumption | omega) | exact sh_imgs _ (by first | assumption | omega)) (by decide) rfl (by decide) (Nat.le_of_ble_eq_true rfl) (c_X1_now hR h1 ht ?_)
        refine u_callV_5 dX11_lend_81 ml_X11_243 mv_X0_canLend (by first | assumption | rfl | exact led_1 (by assumption) | exact led_2 (by assumption) | exact bk_m (by assumption) (by first | assumption | omega) | exact bk_p (by assumption) (by first | assumption | omega) | exact bk_o (by assumption) (by first | assumption | omega) | exact bk_s (by assumption) (by first | assumption | omega) | exact bk_1 (by assumption) | exact bk_2 (by assumption) | exact bk_3 (by assumption) | exact bk_4 (by assumption) | exact bk_5 (by assumption) | exact bk_6 (by assumption) | exact bk_7 (by assumption) | exact bk_8 (by assumption) | exact sh_ring _ (by first | assumption | omega) | exact sh_imgs _ (by first | assumption | omega)) (by decide) rfl (by decide) (Nat.le_of_ble_eq_true rfl) (c_X0_canLend hR hB hF hO hS hL.1 hm hp (by omega) (by omega) ?_)
        refine v_if_ne (tgt := 93) dX11_lend_84 (by decide) (fun hc84 => ?_) (fun hc84 => ?_)
        · (first | rw [bI_0, Bool.not_eq_false] at hc84 | rw [bI_0] at hc84 | rw [show (0 : Int32) = nI 0 from rfl, nI_eq (by omega) (by omega)] at hc84 | skip)
          refine v_aload_0 dX11_lend_93 ?_
          refine u_getR dX11_lend_94 gf_X11_46 (by first | assumption | rfl | exact led_1 (by assumption) | exact led_2 (by assumption) | exact bk_m (by assumption) (by first | assumption | omega) | exact bk_p (by assumption) (by first | assumption | omega) | exact bk_o (by assumption) (by first | assumption | omega) | exact bk_s (by assumption) (by first | assumption | omega) | exact bk_1 (by assumption) | exact bk_2 (by assumption) | exact bk_3 (by assumption) | exact bk_4 (by assumption) | exact bk_5 (by assumption) | exact bk_6 (by assumption) | exact bk_7 (by assumption) | exact bk_8 (by assumption) | exact sh_ring _ (by first | assumption | omega) | exact sh_imgs _ (by first | assumption | omega)) (ro_X11_8 (by assumption)) ?_
          refine u_callV_0 dX11_lend_97 ml_X11_247 mv_X1_step (by first | assumption | rfl | exact led_1 (by assumption) | exact led_2 (by assumption) | exact bk_m (by assumption) (by first | assumption | omega) | exact bk_p (by assumption) (by first | assumption | omega) | exact bk_o (by assumption) (by first | assumption | omega) | exact bk_s (by assumption) (by first | assumption | omega) | exact bk_1 (by assumption) | exact bk_2 (by assumption) | exact bk_3 (by assumption) | exact bk_4 (by assumption) | exact bk_5 (by assumption) | exact bk_6 (by assumption) | exact bk_7 (by assumption) | exact bk_8 (by assumption) | exact sh_ring _ (by first | assumption | omega) | exact sh_imgs _ (by first | assumption | omega)) (by decide) rfl (by decide) (Nat.le_of_ble_eq_true rfl) (c_X1_step hR h1 ht hu2 (by omega) hL (fun J q1 q2 q3 q4 q5 q6 => ?_))
          refine v_iload_1 dX11_lend_100 ?_
          refine v_iload_2 dX11_lend_101 ?_
          refine v_iload_3 dX11_lend_102 ?_
          refine v_iload_4 dX11_lend_103 ?_
          refine u_callV_4 dX11_lend_105 ml_X11_250 mv_X2_add (by first | assumption | rfl | exact led_1 (by assumption) | exact led_2 (by assumption) | exact bk_m (by assumption) (by first | assumption | omega) | exact bk_p (by assumption) (by first | assumption | omega) | exact bk_o (by assumption) (by first | assumption | omega) | exact bk_s (by assumption) (by first | assumption | omega) | exact bk_1 (by assumption) | exact bk_2 (by assumption) | exact bk_3 (by assumption) | exact bk_4 (by assumption) | exact bk_5 (by assumption) | exact bk_6 (by assumption) | exact bk_7 (by assumption) | exact bk_8 (by assumption) | exact sh_ring _ (by first | assumption | omega) | exact sh_imgs _ (by first | assumption | omega)) (by decide) rfl (by decide) (Nat.le_of_ble_eq_true rfl) (c_X2_add hR hS2 q1.1 (by have := of_decide_eq_false hc56; omega) ho4 (fun J2 q7 q8 => ?_))
          refine v_iconst (v := nI 1) dX11_lend_108 (by decide) ?_
          refine v_zret dX11_lend_109 (by first | rfl | exact bI_n _) rfl rfl rfl rfl ?_
          have hk : k_lend F (S 0) (nI m) (nI p) (nI d) (nI d2) = 0 := by rw [k_lend, if_pos hc41, if_neg (of_decide_eq_false hc56), em, ep, ed, ed2, if_pos (show okL F (S 0) m p d d2 = true from hc84)]
          have hn20 := of_decide_eq_false hc56
          have hok := hc84
          rw [Bool.and_eq_true, Bool.and_eq_true] at hok
          obtain ⟨⟨hfit, hfm⟩, hfp⟩ := hok
          have hin : okq F (m, p, d, d2) := ⟨ho4, hm, hp, hd2, hfit⟩
          have hfr : free (S 0).1 (S 0).2.1 (m, p, d, d2) := ⟨fup_isNone hfm, fup_isNone hfp⟩
          have hfin := hQ1 hk
          rw [em, ep, ed, ed2] at hfin
          refine hfin.fin (cb_step (s := insS (S 0) (m, p, d, d2)) h (fun x e1 e2 e3 e4 => (q8 x e2 e3).trans (q6 x e1 e2 e3 e4)) (by rw [q8 94 (by omega) (by omega)]; exact q2) (by rw [q8 94 (by omega) (by omega)]; exact q3) (by rw [q8 94 (by omega) (by omega)]; exact q4) (by rw [q8 94 (by omega) (by omega)]; exact q5) ⟨q7, fun p hp => by rw [q8 _ (by omega) (by omega)]; exact q1.2 p hp⟩ (lok_ins hK (by omega) hin hfr)) (hh.trans (fun a ha => ⟨(q8 a (by omega) (by omega)).trans (q6 a (by omega) (by omega) (by omega) (by omega)), rfl, rfl⟩)) (trc_0 hc41) rfl
        · (first | rw [bI_0, Bool.not_eq_false] at hc84 | rw [bI_0] at hc84 | rw [show (0 : Int32) = nI 0 from rfl, nI_eq (by omega) (by omega)] at hc84 | skip)
          refine v_aload_0 dX11_lend_87 ?_
          refine v_iconst (v := nI 5) dX11_lend_88 (by decide) ?_
          refine u_callV_1 dX11_lend_89 ml_X11_78 mv_X11_refuse (by first | assumption | rfl | exact led_1 (by assumption) | exact led_2 (by assumption) | exact bk_m (by assumption) (by first | assumption | omega) | exact bk_p (by assumption) (by first | assumption | omega) | exact bk_o (by assumption) (by first | assumption | omega) | exact bk_s (by assumption) (by first | assumption | omega) | exact bk_1 (by assumption) | exact bk_2 (by assumption) | exact bk_3 (by assumption) | exact bk_4 (by assumption) | exact bk_5 (by assumption) | exact bk_6 (by assumption) | exact bk_7 (by assumption) | exact bk_8 (by assumption) | exact sh_ring _ (by first | assumption | omega) | exact sh_imgs _ (by first | assumption | omega)) (by decide) rfl (by decide) (Nat.le_of_ble_eq_true rfl) (c_X11_refuse ?_)
          refine v_zret dX11_lend_92 (by first | rfl | exact bI_n _) rfl rfl rfl rfl ?_
          have hk : k_lend F (S 0) (nI m) (nI p) (nI d) (nI d2) = 5 := by rw [k_lend, if_pos hc41, if_neg (of_decide_eq_false hc56), em, ep, ed, ed2, if_neg (by rw [show okL F (S 0) m p d d2 = false from hc84]; decide)]
          exact (hQ0 (by rw [hk]; decide)).fin (cb_tr h (by decide) (by decide)) (hh.trans (hi_ui (by decide))) hk.symm rfl
      · (first | rw [bI_0, Bool.not_eq_false] at hc56 | rw [bI_0] at hc56 | rw [show (0 : Int32) = nI 0 from rfl, nI_eq (by omega) (by omega)] at hc56 | skip)
        refine v_aload_0 dX11_lend_59 ?_
        refine v_iconst (v := nI 3) dX11_lend_60 (by decide) ?_
        refine u_callV_1 dX11_lend_61 ml_X11_78 mv_X11_refuse (by first | assumption | rfl | exact led_1 (by assumption) | exact led_2 (by assumption) | exact bk_m (by assumption) (by first | assumption | omega) | exact bk_p (by assumption) (by first | assumption | omega) | exact bk_o (by assumption) (by first | assumption | omega) | exact bk_s (by assumption) (by first | assumption | omega) | exact bk_1 (by assumption) | exact bk_2 (by assumption) | exact bk_3 (by assumption) | exact bk_4 (by assumption) | exact bk_5 (by assumption) | exact bk_6 (by assumption) | exact bk_7 (by assumption) | exact bk_8 (by assumption) | exact sh_ring _ (by first | assumption | omega) | exact sh_imgs _ (by first | assumption | omega)) (by decide) rfl (by decide) (Nat.le_of_ble_eq_true rfl) (c_X11_refuse ?_)
        refine v_zret dX11_lend_64 (by first | rfl | exact bI_n _) rfl rfl rfl rfl ?_
        have hk : k_lend F (S 0) (nI m) (nI p) (nI d) (nI d2) = 3 := by rw [k_lend, if_pos hc41, if_pos (of_decide_eq_true hc56)]
        exact (hQ0 (by rw [hk]; decide)).fin (cb_tr h (by decide) (by decide)) (hh.trans (hi_ui (by decide))) hk.symm rfl
    · (first | rw [bI_0, Bool.not_eq_false] at hc41 | rw [bI_0] at hc41 | rw [show (0 : Int32) = nI 0 from rfl, nI_eq (by omega) (by omega)] at hc41 | skip)
      refine v_iconst (v := nI 0) dX11_lend_44 (by decide) ?_
      refine v_zret dX11_lend_45 (by first | rfl | exact bI_n _) rfl rfl rfl rfl ?_
      have hk : k_lend F (S 0) x y z w = trc (inb x (F 2) && inb y (F 3)) (ind z (F 0) && ind w (F 0) && decide (z ≤ w)) := by rw [k_lend, if_neg (by rw [hc41]; decide)]
      exact (hQ0 (by rw [hk]; exact trc_n0 hc41)).fin h hh hk.symm rfl
  refine v_aload_0 dX11_lend_0 ?_
  refine v_aload_0 dX11_lend_1 ?_
  refine u_getR dX11_lend_2 gf_X11_29 (by first | assumption | rfl | exact led_1 (by assumption) | exact led_2 (by assumption) | exact bk_m (by assumption) (by first | assumption | omega) | exact bk_p (by assumption) (by first | assumption | omega) | exact bk_o (by assumption) (by first | assumption | omega) | exact bk_s (by assumption) (by first | assumption | omega) | exact bk_1 (by assumption) | exact bk_2 (by assumption) | exact bk_3 (by assumption) | exact bk_4 (by assumption) | exact bk_5 (by assumption) | exact bk_6 (by assumption) | exact bk_7 (by assumption) | exact bk_8 (by assumption) | exact sh_ring _ (by first | assumption | omega) | exact sh_imgs _ (by first | assumption | omega)) (by assumption) ?_
  refine v_iload_1 dX11_lend_5 ?_
  refine u_callV_1 dX11_lend_6 ml_X11_96 mv_X0_hasMask (by first | assumption | rfl | exact led_1 (by assumption) | exact led_2 (by assumption) | exact bk_m (by assumption) (by first | assumption | omega) | exact bk_p (by assumption) (by first | assumption | omega) | exact bk_o (by assumption) (by first | assumption | omega) | exact bk_s (by assumption) (by first | assumption | omega) | exact bk_1 (by assumption) | exact bk_2 (by assumption) | exact bk_3 (by assumption) | exact bk_4 (by assumption) | exact bk_5 (by assumption) | exact bk_6 (by assumption) | exact bk_7 (by assumption) | exact bk_8 (by assumption) | exact sh_ring _ (by first | assumption | omega) | exact sh_imgs _ (by first | assumption | omega)) (by decide) rfl (by decide) (Nat.le_of_ble_eq_true rfl) (c_X0_hasMask hB hF ?_)
  refine v_if_eq (tgt := 27) dX11_lend_9 (by decide) (fun hc9 => ?_) (fun hc9 => ?_)
  · (first | rw [bI_0, Bool.not_eq_false] at hc9 | rw [bI_0] at hc9 | rw [show (0 : Int32) = nI 0 from rfl, nI_eq (by omega) (by omega)] at hc9 | skip)
    refine v_iconst (v := nI 0) dX11_lend_27 (by decide) ?_
    have e : (inb x (F 2) && inb y (F 3)) = false := by
      simp only [hc9, dle_f, dle_t, dlt_f, dlt_t, not_false_eq_true, Bool.and_true, Bool.and_false, Bool.true_and, Bool.false_and]
    rw [e] at cut
    exact cut
  · (first | rw [bI_0, Bool.not_eq_false] at hc9 | rw [bI_0] at hc9 | rw [show (0 : Int32) = nI 0 from rfl, nI_eq (by omega) (by omega)] at hc9 | skip)
    refine v_aload_0 dX11_lend_12 ?_
    refine u_getR dX11_lend_13 gf_X11_29 (by first | assumption | rfl | exact led_1 (by assumption) | exact led_2 (by assumption) | exact bk_m (by assumption) (by first | assumption | omega) | exact bk_p (by assumption) (by first | assumption | omega) | exact bk_o (by assumption) (by first | assumption | omega) | exact bk_s (by assumption) (by first | assumption | omega) | exact bk_1 (by assumption) | exact bk_2 (by assumption) | exact bk_3 (by assumption) | exact bk_4 (by assumption) | exact bk_5 (by assumption) | exact bk_6 (by assumption) | exact bk_7 (by assumption) | exact bk_8 (by assumption) | exact sh_ring _ (by first | assumption | omega) | exact sh_imgs _ (by first | assumption | omega)) (by assumption) ?_
    refine v_iload_2 dX11_lend_16 ?_
    refine u_callV_1 dX11_lend_17 ml_X11_99 mv_X0_hasPerson (by first | assumption | rfl | exact led_1 (by assumption) | exact led_2 (by assumption) | exact bk_m (by assumption) (by first | assumption | omega) | exact bk_p (by assumption) (by first | assumption | omega) | exact bk_o (by assumption) (by first | assumption | omega) | exact bk_s (by assumption) (by first | assumption | omega) | exact bk_1 (by assumption) | exact bk_2 (by assumption) | exact bk_3 (by assumption) | exact bk_4 (by assumption) | exact bk_5 (by assumption) | exact bk_6 (by assumption) | exact bk_7 (by assumption) | exact bk_8 (by assumption) | exact sh_ring _ (by first | assumption | omega) | exact sh_imgs _ (by first | assumption | omega)) (by decide) rfl (by decide) (Nat.le_of_ble_eq_true rfl) (c_X0_hasPerson hB hF ?_)
    refine v_if_eq (tgt := 27) dX11_lend_20 (by decide) (fun hc20 => ?_) (fun hc20 => ?_)
    · (first | rw [bI_0, Bool.not_eq_false] at hc20 | rw [bI_0] at hc20 | rw [show (0 : Int32) = nI 0 from rfl, nI_eq (by omega) (by omega)] at hc20 | skip)
      refine v_iconst (v := nI 0) dX11_lend_27 (by decide) ?_
      have e : (inb x (F 2) && inb y (F 3)) = false := by
        simp only [hc9, hc20, dle_f, dle_t, dlt_f, dlt_t, not_false_eq_true, Bool.and_true, Bool.and_false, Bool.true_and, Bool.false_and]
      rw [e] at cut
      exact cut
    · (first | rw [bI_0, Bool.not_eq_false] at hc20 | rw [bI_0] at hc20 | rw [show (0 : Int32) = nI 0 from rfl, nI_eq (by omega) (by omega)] at hc20 | skip)
      refine v_iconst (v := nI 1) dX11_lend_23 (by decide) ?_
      refine v_goto (tgt := 28) dX11_lend_24 (by decide) ?_
      have e : (inb x (F 2) && inb y (F 3)) = true := by
        simp only [hc9, hc20, dle_f, dle_t, dlt_f, dlt_t, not_false_eq_true, Bool.and_true, Bool.and_false, Bool.true_and, Bool.false_and]
      rw [e] at cut
      exact cut
theorem nI_pos2 {i : Nat} (h : i < 2 ^ 31) : (0 : Int32) ≤ nI i := by rw [show (0 : Int32) = nI 0 from rfl, nI_leI (by decide) h]; exact Nat.zero_le _
def k_give (F : bkF) (s : LSt) (x y : Int32) : Nat := if (inb x (F 2) && ind y (F 0)) = true then (match fup (hitm s.2.1 (tN x) (tN y) (tN y)) 0 s.1 with
  | none => 6
  | some _ => 0) else trc (inb x (F 2)) (ind y (F 0))
def n_give (s : LSt) (m d : Nat) : LSt := match fup (hitm s.2.1 m d d) 0 s.1 with
  | none => s
  | some i => endS s i d
theorem c_X11_give {x y : Int32} (h : ClsB I L R B B2 t tp nt tr fa pl F S u r im ic) (hQ0 : k_give F (S 0) x y ≠ 0 → XQ I L R tp nt (k_give F (S 0) x y) fa pl F S u r im ic (0) Q) (hQ1 : k_give F (S 0) x y = 0 → XQ I L R tp nt 0 fa pl F (stepS S (n_give (S 0) (tN x) (tN y))) (upU u) 0 im ic (1) Q) : KK 12 mX11_give b ad [.ref (b + 0), .int x, .int y] I L R Q := by
  have hR := cb_R h
  have hb := cb_b h
  have hB := cb_B h
  have hF := cb_F h
  have hO := cb_O h
  have o0 := hO.1
  have o1 := hO.2.1
  have o2 := hO.2.2.1
  have o3 := hO.2.2.2.1
  have o4 := hO.2.2.2.2.1
  have o5 := hO.2.2.2.2.2.1
  have o6 := hO.2.2.2.2.2.2.1
  have h1 := cb_1 h
  have ht := cb_t h
  have hS := sh_ring t ht
  have hL := cb_L h
  have hK := cb_K h
  have hps := hK.pers
  refine K.of (M := mX11_give) (lv := [some (.ref (b + 0)), some (.int x), some (.int y), none]) (by decide) (Nat.le_of_ble_eq_true rfl) rfl ?_
  refine v_aload_0 dX11_give_0 ?_
  refine v_aload_0 dX11_give_1 ?_
  refine u_getR dX11_give_2 gf_X11_29 (by first | assumption | rfl | exact led_1 (by assumption) | exact led_2 (by assumption) | exact bk_m (by assumption) (by first | assumption | omega) | exact bk_p (by assumption) (by first | assumption | omega) | exact bk_o (by assumption) (by first | assumption | omega) | exact bk_s (by assumption) (by first | assumption | omega) | exact bk_1 (by assumption) | exact bk_2 (by assumption) | exact bk_3 (by assumption) | exact bk_4 (by assumption) | exact bk_5 (by assumption) | exact bk_6 (by assumption) | exact bk_7 (by assumption) | exact bk_8 (by assumption) | exact sh_ring _ (by first | assumption | omega) | exact sh_imgs _ (by first | assumption | omega)) (by assumption) ?_
  refine v_iload_1 dX11_give_5 ?_
  refine u_callV_1 dX11_give_6 ml_X11_96 mv_X0_hasMask (by first | assumption | rfl | exact led_1 (by assumption) | exact led_2 (by assumption) | exact bk_m (by assumption) (by first | assumption | omega) | exact bk_p (by assumption) (by first | assumption | omega) | exact bk_o (by assumption) (by first | assumption | omega) | exact bk_s (by assumption) (by first | assumption | omega) | exact bk_1 (by assumption) | exact bk_2 (by assumption) | exact bk_3 (by assumption) | exact bk_4 (by assumption) | exact bk_5 (by assumption) | exact bk_6 (by assumption) | exact bk_7 (by assumption) | exact bk_8 (by assumption) | exact sh_ring _ (by first | assumption | omega) | exact sh_imgs _ (by first | assumption | omega)) (by decide) rfl (by decide) (Nat.le_of_ble_eq_true rfl) (c_X0_hasMask hB hF ?_)
  refine v_aload_0 dX11_give_9 ?_
  refine u_getR dX11_give_10 gf_X11_29 (by first | assumption | rfl | exact led_1 (by assumption) | exact led_2 (by assumption) | exact bk_m (by assumption) (by first | assumption | omega) | exact bk_p (by assumption) (by first | assumption | omega) | exact bk_o (by assumption) (by first | assumption | omega) | exact bk_s (by assumption) (by first | assumption | omega) | exact bk_1 (by assumption) | exact bk_2 (by assumption) | exact bk_3 (by assumption) | exact bk_4 (by assumption) | exact bk_5 (by assumption) | exact bk_6 (by assumption) | exact bk_7 (by assumption) | exact bk_8 (by assumption) | exact sh_ring _ (by first | assumption | omega) | exact sh_imgs _ (by first | assumption | omega)) (by assumption) ?_
  refine v_iload_2 dX11_give_13 ?_
  refine u_callV_1 dX11_give_14 ml_X11_110 mv_X0_hasDay (by first | assumption | rfl | exact led_1 (by assumption) | exact led_2 (by assumption) | exact bk_m (by assumption) (by first | assumption | omega) | exact bk_p (by assumption) (by first | assumption | omega) | exact bk_o (by assumption) (by first | assumption | omega) | exact bk_s (by assumption) (by first | assumption | omega) | exact bk_1 (by assumption) | exact bk_2 (by assumption) | exact bk_3 (by assumption) | exact bk_4 (by assumption) | exact bk_5 (by assumption) | exact bk_6 (by assumption) | exact bk_7 (by assumption) | exact bk_8 (by assumption) | exact sh_ring _ (by first | assumption | omega) | exact sh_imgs _ (by first | assumption | omega)) (by decide) rfl (by decide) (Nat.le_of_ble_eq_true rfl) (c_X0_hasDay hB hF ?_)
  refine u_callV_2 dX11_give_17 ml_X11_68 mv_X11_admit (by first | assumption | rfl | exact led_1 (by assumption) | exact led_2 (by assumption) | exact bk_m (by assumption) (by first | assumption | omega) | exact bk_p (by assumption) (by first | assumption | omega) | exact bk_o (by assumption) (by first | assumption | omega) | exact bk_s (by assumption) (by first | assumption | omega) | exact bk_1 (by assumption) | exact bk_2 (by assumption) | exact bk_3 (by assumption) | exact bk_4 (by assumption) | exact bk_5 (by assumption) | exact bk_6 (by assumption) | exact bk_7 (by assumption) | exact bk_8 (by assumption) | exact sh_ring _ (by first | assumption | omega) | exact sh_imgs _ (by first | assumption | omega)) (by decide) rfl (by decide) (Nat.le_of_ble_eq_true rfl) (c_X11_admit (p := inb x (F 2)) (q := ind y (F 0)) ?_)
  have hh : Hi I (ui I 0 2 (nI (trc (inb x (F 2)) (ind y (F 0))))) L L R R := hi_ui (by decide)
  have h := cb_tr (v := trc (inb x (F 2)) (ind y (F 0))) h (trc_lt _ _).1 (trc_lt _ _).2
  have hF := cb_F h
  have h1 := cb_1 h
  have hL := cb_L h
  refine v_if_ne (tgt := 25) dX11_give_20 (by decide) (fun hc20 => ?_) (fun hc20 => ?_)
  · (first | rw [bI_0, Bool.not_eq_false] at hc20 | rw [bI_0] at hc20 | rw [show (0 : Int32) = nI 0 from rfl, nI_eq (by omega) (by omega)] at hc20 | skip)
    have hA := hc20
    rw [Bool.and_eq_true] at hA
    obtain ⟨hA1, hA2⟩ := hA
    obtain ⟨m, rfl, hm⟩ := inb_ex (by omega) hA1
    have em : tN (nI m) = m := tN_nI (by omega)
    obtain ⟨d, rfl, hd1, hd⟩ := ind_ex (by omega) hA2
    have ed : tN (nI d) = d := tN_nI (by omega)
    have hu2 := h.2.2.2.2.2.1.2.2.1
    have h12 := h.2.2.2.2.2.1.2.2.2.2.1
    have hS2 := sh_ring ((t + 1) % 13) (by omega)
    refine v_aload_0 dX11_give_25 ?_
    refine u_getR dX11_give_26 gf_X11_46 (by first | assumption | rfl | exact led_1 (by assumption) | exact led_2 (by assumption) | exact bk_m (by assumption) (by first | assumption | omega) | exact bk_p (by assumption) (by first | assumption | omega) | exact bk_o (by assumption) (by first | assumption | omega) | exact bk_s (by assumption) (by first | assumption | omega) | exact bk_1 (by assumption) | exact bk_2 (by assumption) | exact bk_3 (by assumption) | exact bk_4 (by assumption) | exact bk_5 (by assumption) | exact bk_6 (by assumption) | exact bk_7 (by assumption) | exact bk_8 (by assumption) | exact sh_ring _ (by first | assumption | omega) | exact sh_imgs _ (by first | assumption | omega)) (ro_X11_8 (by assumption)) ?_
    refine u_callV_0 dX11_give_29 ml_X11_113 mv_X1_now (by first | assumption | rfl | exact led_1 (by assumption) | exact led_2 (by assumption) | exact bk_m (by assumption) (by first | assumption | omega) | exact bk_p (by assumption) (by first | assumption | omega) | exact bk_o (by assumption) (by first | assumption | omega) | exact bk_s (by assumption) (by first | assumption | omega) | exact bk_1 (by assumption) | exact bk_2 (by assumption) | exact bk_3 (by assumption) | exact bk_4 (by assumption) | exact bk_5 (by assumption) | exact bk_6 (by assumption) | exact bk_7 (by assumption) | exact bk_8 (by assumption) | exact sh_ring _ (by first | assumption | omega) | exact sh_imgs _ (by first | assumption | omega)) (by decide) rfl (by decide) (Nat.le_of_ble_eq_true rfl) (c_X1_now hR h1 ht ?_)
    refine v_iload_1 dX11_give_32 ?_
    refine v_iload_2 dX11_give_33 ?_
    refine u_callV_2 dX11_give_34 ml_X11_254 mv_X2_find (by first | assumption | rfl | exact led_1 (by assumption) | exact led_2 (by assumption) | exact bk_m (by assumption) (by first | assumption | omega) | exact bk_p (by assumption) (by first | assumption | omega) | exact bk_o (by assumption) (by first | assumption | omega) | exact bk_s (by assumption) (by first | assumption | omega) | exact bk_1 (by assumption) | exact bk_2 (by assumption) | exact bk_3 (by assumption) | exact bk_4 (by assumption) | exact bk_5 (by assumption) | exact bk_6 (by assumption) | exact bk_7 (by assumption) | exact bk_8 (by assumption) | exact sh_ring _ (by first | assumption | omega) | exact sh_imgs _ (by first | assumption | omega)) (by decide) rfl (by decide) (Nat.le_of_ble_eq_true rfl) (c_X2_find hR hS hL.1 (by omega) (by omega) ?_)
    refine v_istore_3 rfl dX11_give_37 ?_
    cases hfd : fup (hitm (S 0).2.1 m d d) 0 (S 0).1 with
    | none =>
      show VV _ _ _ _ _ _ _ _ _ [some (.ref (b + 0)), some (.int (nI m)), some (.int (nI d)), some (.int (-1))] _ _ _ _
      refine v_iload_3 dX11_give_38 ?_
      refine v_if_ge (tgt := 49) dX11_give_39 (by decide) (fun hc39 => ?_) (fun hc39 => ?_)
      · (first | rw [show (0 : Int32) = nI 0 from rfl, nI_ltI (by omega) (by omega)] at hc39 | rw [show (0 : Int32) = nI 0 from rfl, nI_leI (by omega) (by omega)] at hc39 | skip)
        exact absurd hc39 (by decide)
      · (first | rw [show (0 : Int32) = nI 0 from rfl, nI_ltI (by omega) (by omega)] at hc39 | rw [show (0 : Int32) = nI 0 from rfl, nI_leI (by omega) (by omega)] at hc39 | skip)
        refine v_aload_0 dX11_give_42 ?_
        refine v_bipush (v := nI 6) dX11_give_43 (by decide) ?_
        refine u_callV_1 dX11_give_45 ml_X11_78 mv_X11_refuse (by first | assumption | rfl | exact led_1 (by assumption) | exact led_2 (by assumption) | exact bk_m (by assumption) (by first | assumption | omega) | exact bk_p (by assumption) (by first | assumption | omega) | exact bk_o (by assumption) (by first | assumption | omega) | exact bk_s (by assumption) (by first | assumption | omega) | exact bk_1 (by assumption) | exact bk_2 (by assumption) | exact bk_3 (by assumption) | exact bk_4 (by assumption) | exact bk_5 (by assumption) | exact bk_6 (by assumption) | exact bk_7 (by assumption) | exact bk_8 (by assumption) | exact sh_ring _ (by first | assumption | omega) | exact sh_imgs _ (by first | assumption | omega)) (by decide) rfl (by decide) (Nat.le_of_ble_eq_true rfl) (c_X11_refuse ?_)
        refine v_zret dX11_give_48 (by first | rfl | exact bI_n _) rfl rfl rfl rfl ?_
        have hk : k_give F (S 0) (nI m) (nI d) = 6 := by rw [k_give, if_pos hc20, em, ed, hfd]
        exact (hQ0 (by rw [hk]; decide)).fin (cb_tr h (by decide) (by decide)) (hh.trans (hi_ui (by decide))) hk.symm rfl
    | some i =>
      have hi2 := fup_some hfd
      have hit := hi2.2.2
      simp only [hitm, ovl, Bool.and_eq_true, decide_eq_true_eq] at hit
      obtain ⟨ht1, ht2, ht3⟩ := hit
      have hin : i < (S 0).1 := by omega
      have hn20 := hK.1
      show VV _ _ _ _ _ _ _ _ _ [some (.ref (b + 0)), some (.int (nI m)), some (.int (nI d)), some (.int (nI i))] _ _ _ _
      refine v_iload_3 dX11_give_38 ?_
      refine v_if_ge (tgt := 49) dX11_give_39 (by decide) (fun hc39 => ?_) (fun hc39 => ?_)
      · (first | rw [show (0 : Int32) = nI 0 from rfl, nI_ltI (by omega) (by omega)] at hc39 | rw [show (0 : Int32) = nI 0 from rfl, nI_leI (by omega) (by omega)] at hc39 | skip)
        refine v_aload_0 dX11_give_49 ?_
        refine u_getR dX11_give_50 gf_X11_46 (by first | assumption | rfl | exact led_1 (by assumption) | exact led_2 (by assumption) | exact bk_m (by assumption) (by first | assumption | omega) | exact bk_p (by assumption) (by first | assumption | omega) | exact bk_o (by assumption) (by first | assumption | omega) | exact bk_s (by assumption) (by first | assumption | omega) | exact bk_1 (by assumption) | exact bk_2 (by assumption) | exact bk_3 (by assumption) | exact bk_4 (by assumption) | exact bk_5 (by assumption) | exact bk_6 (by assumption) | exact bk_7 (by assumption) | exact bk_8 (by assumption) | exact sh_ring _ (by first | assumption | omega) | exact sh_imgs _ (by first | assumption | omega)) (ro_X11_8 (by assumption)) ?_
        refine u_callV_0 dX11_give_53 ml_X11_247 mv_X1_step (by first | assumption | rfl | exact led_1 (by assumption) | exact led_2 (by assumption) | exact bk_m (by assumption) (by first | assumption | omega) | exact bk_p (by assumption) (by first | assumption | omega) | exact bk_o (by assumption) (by first | assumption | omega) | exact bk_s (by assumption) (by first | assumption | omega) | exact bk_1 (by assumption) | exact bk_2 (by assumption) | exact bk_3 (by assumption) | exact bk_4 (by assumption) | exact bk_5 (by assumption) | exact bk_6 (by assumption) | exact bk_7 (by assumption) | exact bk_8 (by assumption) | exact sh_ring _ (by first | assumption | omega) | exact sh_imgs _ (by first | assumption | omega)) (by decide) rfl (by decide) (Nat.le_of_ble_eq_true rfl) (c_X1_step hR h1 ht hu2 (by omega) hL (fun J q1 q2 q3 q4 q5 q6 => ?_))
        refine v_iload_3 dX11_give_56 ?_
        refine v_iload_2 dX11_give_57 ?_
        refine u_callV_2 dX11_give_58 ml_X11_257 mv_X2_endAhead (by first | assumption | rfl | exact led_1 (by assumption) | exact led_2 (by assumption) | exact bk_m (by assumption) (by first | assumption | omega) | exact bk_p (by assumption) (by first | assumption | omega) | exact bk_o (by assumption) (by first | assumption | omega) | exact bk_s (by assumption) (by first | assumption | omega) | exact bk_1 (by assumption) | exact bk_2 (by assumption) | exact bk_3 (by assumption) | exact bk_4 (by assumption) | exact bk_5 (by assumption) | exact bk_6 (by assumption) | exact bk_7 (by assumption) | exact bk_8 (by assumption) | exact sh_ring _ (by first | assumption | omega) | exact sh_imgs _ (by first | assumption | omega)) (by decide) rfl (by decide) (Nat.le_of_ble_eq_true rfl) (c_X2_endAhead hR hS2 q1.1 hin (by omega) (fun e J2 q7 q8 => ?_) (fun e J2 q7 q8 => ?_))
        · have hk : k_give F (S 0) (nI m) (nI d) = 0 := by rw [k_give, if_pos hc20, em, ed, hfd]
          have hfin := hQ1 hk
          have hn : n_give (S 0) m d = ((S 0).1, setg (S 0).2.1 i (((S 0).2.1 i).1, ((S 0).2.1 i).2.1, ((S 0).2.1 i).2.2.1, d - 1), (S 0).2.2) := by simp only [n_give, hfd, endS, if_pos e]
          rw [em, ed, hn] at hfin
          have hlk := lok_end hK hin ht2 ht3
          rw [show endS (S 0) i d = ((S 0).1, setg (S 0).2.1 i (((S 0).2.1 i).1, ((S 0).2.1 i).2.1, ((S 0).2.1 i).2.2.1, d - 1), (S 0).2.2) from by simp only [endS, if_pos e]] at hlk
          refine v_iconst (v := nI 1) dX11_give_61 (by decide) ?_
          refine v_zret dX11_give_62 rfl rfl rfl rfl rfl ?_
          refine hfin.fin (cb_step (s := ((S 0).1, setg (S 0).2.1 i (((S 0).2.1 i).1, ((S 0).2.1 i).2.1, ((S 0).2.1 i).2.2.1, d - 1), (S 0).2.2)) h (fun x e1 e2 e3 e4 => (q8 x e3).trans (q6 x e1 e2 e3 e4)) (by rw [q8 94 (by omega)]; exact q2) (by rw [q8 94 (by omega)]; exact q3) (by rw [q8 94 (by omega)]; exact q4) (by rw [q8 94 (by omega)]; exact q5) ⟨q7, fun p hp => by rw [q8 _ (by omega)]; exact q1.2 p hp⟩ hlk) (hh.trans (fun a ha => ⟨(q8 a (by omega)).trans (q6 a (by omega) (by omega) (by omega) (by omega)), rfl, rfl⟩)) (trc_0 hc20) rfl
        · have hk : k_give F (S 0) (nI m) (nI d) = 0 := by rw [k_give, if_pos hc20, em, ed, hfd]
          have hfin := hQ1 hk
          have hn : n_give (S 0) m d = ((S 0).1 - 1, cutg (S 0).2.1 i, (S 0).2.2) := by simp only [n_give, hfd, endS, if_neg e]
          rw [em, ed, hn] at hfin
          have hlk := lok_end hK hin ht2 ht3
          rw [show endS (S 0) i d = ((S 0).1 - 1, cutg (S 0).2.1 i, (S 0).2.2) from by simp only [endS, if_neg e]] at hlk
          refine v_iconst (v := nI 1) dX11_give_61 (by decide) ?_
          refine v_zret dX11_give_62 rfl rfl rfl rfl rfl ?_
          refine hfin.fin (cb_step (s := ((S 0).1 - 1, cutg (S 0).2.1 i, (S 0).2.2)) h (fun x e1 e2 e3 e4 => (q8 x e2 e3).trans (q6 x e1 e2 e3 e4)) (by rw [q8 94 (by omega) (by omega)]; exact q2) (by rw [q8 94 (by omega) (by omega)]; exact q3) (by rw [q8 94 (by omega) (by omega)]; exact q4) (by rw [q8 94 (by omega) (by omega)]; exact q5) ⟨q7, fun p hp => by rw [q8 _ (by omega) (by omega)]; exact q1.2 p hp⟩ hlk) (hh.trans (fun a ha => ⟨(q8 a (by omega) (by omega)).trans (q6 a (by omega) (by omega) (by omega) (by omega)), rfl, rfl⟩)) (trc_0 hc20) rfl
      · (first | rw [show (0 : Int32) = nI 0 from rfl, nI_ltI (by omega) (by omega)] at hc39 | rw [show (0 : Int32) = nI 0 from rfl, nI_leI (by omega) (by omega)] at hc39 | skip)
        exact absurd (Nat.zero_le i) hc39
  · (first | rw [bI_0, Bool.not_eq_false] at hc20 | rw [bI_0] at hc20 | rw [show (0 : Int32) = nI 0 from rfl, nI_eq (by omega) (by omega)] at hc20 | skip)
    refine v_iconst (v := nI 0) dX11_give_23 (by decide) ?_
    refine v_zret dX11_give_24 (by first | rfl | exact bI_n _) rfl rfl rfl rfl ?_
    have hk : k_give F (S 0) x y = trc (inb x (F 2)) (ind y (F 0)) := by rw [k_give, if_neg (by rw [hc20]; decide)]
    exact (hQ0 (by rw [hk]; exact trc_n0 hc20)).fin h hh hk.symm rfl
end
