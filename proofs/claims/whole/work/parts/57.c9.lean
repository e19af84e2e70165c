section
variable {b : Nat} {ad : Nat → Nat} {I : HI} {L : HL} {R : HR} {Q : QT} {B B2 t : Nat} {tp : Nat → Nat} {nt tr fa pl : Nat} {F : bkF} {S : Nat → LSt} {u r : Nat} {im : Nat → LSt} {ic : Nat}
def k_pass (F : bkF) (s : LSt) (x y z : Int32) : Nat := if ((inb x (F 2) && inb z (F 3)) && ind y (F 0)) = true then (match fup (hitm s.2.1 (tN x) (tN y) (tN y)) 0 s.1 with
  | none => 6
  | some i => if 20 ≤ s.1 ∧ (s.2.1 i).2.2.1 < tN y then 3 else if (fitF F (tN x) (tN z) && (fup (hitp s.2.1 (tN z) (tN y) (s.2.1 i).2.2.2) 0 s.1).isNone) = true then 0 else 5) else trc (inb x (F 2) && inb z (F 3)) (ind y (F 0))
def n_pass (s : LSt) (m d p : Nat) : LSt := match fup (hitm s.2.1 m d d) 0 s.1 with
  | none => s
  | some i => insS (endS s i d) (m, p, d, (s.2.1 i).2.2.2)
theorem c_X11_pass {x y z : Int32} (h : ClsB I L R B B2 t tp nt tr fa pl F S u r im ic) (hQ0 : k_pass F (S 0) x y z ≠ 0 → XQ I L R tp nt (k_pass F (S 0) x y z) fa pl F S u r im ic (0) Q) (hQ1 : k_pass F (S 0) x y z = 0 → XQ I L R tp nt 0 fa pl F (stepS S (n_pass (S 0) (tN x) (tN y) (tN z))) (upU u) 0 im ic (1) Q) : KK 12 mX11_pass b ad [.ref (b + 0), .int x, .int y, .int z] I L R Q := by
  have hR := cb_R h
  have hb := cb_b h
  have hB := cb_B h
  have hF := cb_F h
  have hO := cb_O h
  have o0 := hO.1
  have o1 := hO.2.1
  have o2 := hO.2.2.1
  have o3 := hO.2.2.2.1
  have o4 := hO.2.2.2.2.1
  have o5 := hO.2.2.2.2.2.1
  have o6 := hO.2.2.2.2.2.2.1
  have h1 := cb_1 h
  have ht := cb_t h
  have hS := sh_ring t ht
  have hL := cb_L h
  have hK := cb_K h
  have hps := hK.pers
  refine K.of (M := mX11_pass) (lv := [some (.ref (b + 0)), some (.int x), some (.int y), some (.int z), none, none, none, none]) (by decide) (Nat.le_of_ble_eq_true rfl) rfl ?_
  have cut : VV yX11_pass cX11_pass 8 (some .boolean) 12 Q b ad 28 [some (.ref (b + 0)), some (.int x), some (.int y), some (.int z), none, none, none, none] [.int (bI (inb x (F 2) && inb z (F 3))), .ref (b + 0)] I L R := by
    refine v_aload_0 dX11_pass_28 ?_
    refine u_getR dX11_pass_29 gf_X11_29 (by first | assumption | rfl | exact led_1 (by assumption) | exact led_2 (by assumption) | exact bk_m (by assumption) (by first | assumption | omega) | exact bk_p (by assumption) (by first | assumption | omega) | exact bk_o (by assumption) (by first | assumption | omega) | exact bk_s (by assumption) (by first | assumption | omega) | exact bk_1 (by assumption) | exact bk_2 (by assumption) | exact bk_3 (by assumption) | exact bk_4 (by assumption) | exact bk_5 (by assumption) | exact bk_6 (by assumption) | exact bk_7 (by assumption) | exact bk_8 (by assumption) | exact sh_ring _ (by first | assumption | omega) | exact sh_imgs _ (by first | assumption | omega)) (by assumption) ?_
    refine v_iload_2 dX11_pass_32 ?_
    refine u_callV_1 dX11_pass_33 ml_X11_110 mv_X0_hasDay (by first | assumption | rfl | exact led_1 (by assumption) | exact led_2 (by assumption) | exact bk_m (by assumption) (by first | assumption | omega) | exact bk_p (by assumption) (by first | assumption | omega) | exact bk_o (by assumption) (by first | assumption | omega) | exact bk_s (by assumption) (by first | assumption | omega) | exact bk_1 (by assumption) | exact bk_2 (by assumption) | exact bk_3 (by assumption) | exact bk_4 (by assumption) | exact bk_5 (by assumption) | exact bk_6 (by assumption) | exact bk_7 (by assumption) | exact bk_8 (by assumption) | exact sh_ring _ (by first | assumption | omega) | exact sh_imgs _ (by first | assumption | omega)) (by decide) rfl (by decide) (Nat.le_of_ble_eq_true rfl) (c_X0_hasDay hB hF ?_)
    refine u_callV_2 dX11_pass_36 ml_X11_68 mv_X11_admit (by first | assumption | rfl | exact led_1 (by assumption) | exact led_2 (by assumption) | exact bk_m (by assumption) (by first | assumption | omega) | exact bk_p (by assumption) (by first | assumption | omega) | exact bk_o (by assumption) (by first | assumption | omega) | exact bk_s (by assumption) (by first | assumption | omega) | exact bk_1 (by assumption) | exact bk_2 (by assumption) | exact bk_3 (by assumption) | exact bk_4 (by assumption) | exact bk_5 (by assumption) | exact bk_6 (by assumption) | exact bk_7 (by assumption) | exact bk_8 (by assumption) | exact sh_ring _ (by first | assumption | omega) | exact sh_imgs _ (by first | assumption | omega)) (by decide) rfl (by decide) (Nat.le_of_ble_eq_true rfl) (c_X11_admit (p := inb x (F 2) && inb z (F 3)) (q := ind y (F 0)) ?_)
    have hh : Hi I (ui I 0 2 (nI (trc (inb x (F 2) && inb z (F 3)) (ind y (F 0))))) L L R R := hi_ui (by decide)
    have h := cb_tr (v := trc (inb x (F 2) && inb z (F 3)) (ind y (F 0))) h (trc_lt _ _).1 (trc_lt _ _).2
    have hF := cb_F h
    have h1 := cb_1 h
    have hL := cb_L h
    refine v_if_ne (tgt := 44) dX11_pass_39 (by decide) (fun hc39 => ?_) (fun hc39 => ?_)
    · (first | rw [bI_0, Bool.not_eq_false] at hc39 | rw [bI_0] at hc39 | rw [show (0 : Int32) = nI 0 from rfl, nI_eq (by omega) (by omega)] at hc39 | skip)
      have hA := hc39
      rw [Bool.and_eq_true] at hA
      obtain ⟨hA0, hA2⟩ := hA
      rw [Bool.and_eq_true] at hA0
      obtain ⟨hA0, hP1⟩ := hA0
      obtain ⟨m, rfl, hm⟩ := inb_ex (by omega) hA0
      have em : tN (nI m) = m := tN_nI (by omega)
      obtain ⟨p, rfl, hp⟩ := inb_ex (by omega) hP1
      have ep : tN (nI p) = p := tN_nI (by omega)
      obtain ⟨d, rfl, hd1, hd⟩ := ind_ex (by omega) hA2
      have ed : tN (nI d) = d := tN_nI (by omega)
      have hu2 := h.2.2.2.2.2.1.2.2.1
      have h12 := h.2.2.2.2.2.1.2.2.2.2.1
      have hS2 := sh_ring ((t + 1) % 13) (by omega)
      refine v_aload_0 dX11_pass_44 ?_
      refine u_getR dX11_pass_45 gf_X11_46 (by first | assumption | rfl | exact led_1 (by assumption) | exact led_2 (by assumption) | exact bk_m (by assumption) (by first | assumption | omega) | exact bk_p (by assumption) (by first | assumption | omega) | exact bk_o (by assumption) (by first | assumption | omega) | exact bk_s (by assumption) (by first | assumption | omega) | exact bk_1 (by assumption) | exact bk_2 (by assumption) | exact bk_3 (by assumption) | exact bk_4 (by assumption) | exact bk_5 (by assumption) | exact bk_6 (by assumption) | exact bk_7 (by assumption) | exact bk_8 (by assumption) | exact sh_ring _ (by first | assumption | omega) | exact sh_imgs _ (by first | assumption | omega)) (ro_X11_8 (by assumption)) ?_
      refine u_callV_0 dX11_pass_48 ml_X11_113 mv_X1_now (by first | assumption | rfl | exact led_1 (by assumption) | exact led_2 (by assumption) | exact bk_m (by assumption) (by first | assumption | omega) | exact bk_p (by assumption) (by first | assumption | omega) | exact bk_o (by assumption) (by first | assumption | omega) | exact bk_s (by assumption) (by first | assumption | omega) | exact bk_1 (by assumption) | exact bk_2 (by assumption) | exact bk_3 (by assumption) | exact bk_4 (by assumption) | exact bk_5 (by assumption) | exact bk_6 (by assumption) | exact bk_7 (by assumption) | exact bk_8 (by assumption) | exact sh_ring _ (by first | assumption | omega) | exact sh_imgs _ (by first | assumption | omega)) (by decide) rfl (by decide) (Nat.le_of_ble_eq_true rfl) (c_X1_now hR h1 ht ?_)
      refine v_astore_4 rfl dX11_pass_51 ?_
      refine v_aload_4 dX11_pass_53 ?_
      refine v_iload_1 dX11_pass_55 ?_
      refine v_iload_2 dX11_pass_56 ?_
      refine u_callV_2 dX11_pass_57 ml_X11_254 mv_X2_find (by first | assumption | rfl | exact led_1 (by assumption) | exact led_2 (by assumption) | exact bk_m (by assumption) (by first | assumption | omega) | exact bk_p (by assumption) (by first | assumption | omega) | exact bk_o (by assumption) (by first | assumption | omega) | exact bk_s (by assumption) (by first | assumption | omega) | exact bk_1 (by assumption) | exact bk_2 (by assumption) | exact bk_3 (by assumption) | exact bk_4 (by assumption) | exact bk_5 (by assumption) | exact bk_6 (by assumption) | exact bk_7 (by assumption) | exact bk_8 (by assumption) | exact sh_ring _ (by first | assumption | omega) | exact sh_imgs _ (by first | assumption | omega)) (by decide) rfl (by decide) (Nat.le_of_ble_eq_true rfl) (c_X2_find hR hS hL.1 (by omega) (by omega) ?_)
      refine v_istore_5 rfl dX11_pass_60 ?_
      cases hfd : fup (hitm (S 0).2.1 m d d) 0 (S 0).1 with
      | none =>
        show VV _ _ _ _ _ _ _ _ _ [some (.ref (b + 0)), some (.int (nI m)), some (.int (nI d)), some (.int (nI p)), some (.ref (b + (97 + 3 * t))), some (.int (-1)), none, none] _ _ _ _
        refine v_iload_5 dX11_pass_62 ?_
        refine v_if_ge (tgt := 74) dX11_pass_64 (by decide) (fun hc64 => ?_) (fun hc64 => ?_)
        · (first | rw [show (0 : Int32) = nI 0 from rfl, nI_ltI (by omega) (by omega)] at hc64 | rw [show (0 : Int32) = nI 0 from rfl, nI_leI (by omega) (by omega)] at hc64 | skip)
          exact absurd hc64 (by decide)
        · (first | rw [show (0 : Int32) = nI 0 from rfl, nI_ltI (by omega) (by omega)] at hc64 | rw [show (0 : Int32) = nI 0 from rfl, nI_leI (by omega) (by omega)] at hc64 | skip)
          refine v_aload_0 dX11_pass_67 ?_
          refine v_bipush (v := nI 6) dX11_pass_68 (by decide) ?_
          refine u_callV_1 dX11_pass_70 ml_X11_78 mv_X11_refuse (by first | assumption | rfl | exact led_1 (by assumption) | exact led_2 (by assumption) | exact bk_m (by assumption) (by first | assumption | omega) | exact bk_p (by assumption) (by first | assumption | omega) | exact bk_o (by assumption) (by first | assumption | omega) | exact bk_s (by assumption) (by first | assumption | omega) | exact bk_1 (by assumption) | exact bk_2 (by assumption) | exact bk_3 (by assumption) | exact bk_4 (by assumption) | exact bk_5 (by assumption) | exact bk_6 (by assumption) | exact bk_7 (by assumption) | exact bk_8 (by assumption) | exact sh_ring _ (by first | assumption | omega) | exact sh_imgs _ (by first | assumption | omega)) (by decide) rfl (by decide) (Nat.le_of_ble_eq_true rfl) (c_X11_refuse ?_)
          refine v_zret dX11_pass_73 (by first | rfl | exact bI_n _) rfl rfl rfl rfl ?_
          have hk : k_pass F (S 0) (nI m) (nI d) (nI p) = 6 := by rw [k_pass, if_pos hc39, em, ed, hfd]
          exact (hQ0 (by rw [hk]; decide)).fin (cb_tr h (by decide) (by decide)) (hh.trans (hi_ui (by decide))) hk.symm rfl
      | some i =>
        have hi2 := fup_some hfd
        have hit := hi2.2.2
        simp only [hitm, ovl, Bool.and_eq_true, decide_eq_true_eq] at hit
        obtain ⟨ht1, ht2, ht3⟩ := hit
        have hin : i < (S 0).1 := by omega
        have hn20 := hK.1
        have hiK := hK.2.1 i hin
        have hi5 := hiK.1.2.2.2.2
        show VV _ _ _ _ _ _ _ _ _ [some (.ref (b + 0)), some (.int (nI m)), some (.int (nI d)), some (.int (nI p)), some (.ref (b + (97 + 3 * t))), some (.int (nI i)), none, none] _ _ _ _
        refine v_iload_5 dX11_pass_62 ?_
        refine v_if_ge (tgt := 74) dX11_pass_64 (by decide) (fun hc64 => ?_) (fun hc64 => ?_)
        · (first | rw [show (0 : Int32) = nI 0 from rfl, nI_ltI (by omega) (by omega)] at hc64 | rw [show (0 : Int32) = nI 0 from rfl, nI_leI (by omega) (by omega)] at hc64 | skip)
          refine v_aload_4 dX11_pass_74 ?_
          refine u_callV_0 dX11_pass_76 ml_X11_240 mv_X2_isFull (by first | assumption | rfl | exact led_1 (by assumption) | exact led_2 (by assumption) | exact bk_m (by assumption) (by first | assumption | omega) | exact bk_p (by assumption) (by first | assumption | omega) | exact bk_o (by assumption) (by first | assumption | omega) | exact bk_s (by assumption) (by first | assumption | omega) | exact bk_1 (by assumption) | exact bk_2 (by assumption) | exact bk_3 (by assumption) | exact bk_4 (by assumption) | exact bk_5 (by assumption) | exact bk_6 (by assumption) | exact bk_7 (by assumption) | exact bk_8 (by assumption) | exact sh_ring _ (by first | assumption | omega) | exact sh_imgs _ (by first | assumption | omega)) (by decide) rfl (by decide) (Nat.le_of_ble_eq_true rfl) (c_X2_isFull hS hL.1.1 hL.1.2.1 ?_)
          refine v_if_eq (tgt := 99) dX11_pass_79 (by decide) (fun hc79 => ?_) (fun hc79 => ?_)
          · (first | rw [bI_0, Bool.not_eq_false] at hc79 | rw [bI_0] at hc79 | rw [show (0 : Int32) = nI 0 from rfl, nI_eq (by omega) (by omega)] at hc79 | skip)
            have hnr : ¬ (20 ≤ (S 0).1 ∧ ((S 0).2.1 i).2.2.1 < d) := by
              first
                | (have e : decide (20 ≤ (S 0).1) = false := hc79; have := of_decide_eq_false e; omega)
                | (have e2 : d ≤ ((S 0).2.1 i).2.2.1 := hc90; omega)
            refine v_aload_4 dX11_pass_99 ?_
            refine v_iload_5 dX11_pass_101 ?_
            refine u_callV_1 dX11_pass_103 ml_X11_264 mv_X2_lastDay (by first | assumption | rfl | exact led_1 (by assumption) | exact led_2 (by assumption) | exact bk_m (by assumption) (by first | assumption | omega) | exact bk_p (by assumption) (by first | assumption | omega) | exact bk_o (by assumption) (by first | assumption | omega) | exact bk_s (by assumption) (by first | assumption | omega) | exact bk_1 (by assumption) | exact bk_2 (by assumption) | exact bk_3 (by assumption) | exact bk_4 (by assumption) | exact bk_5 (by assumption) | exact bk_6 (by assumption) | exact bk_7 (by assumption) | exact bk_8 (by assumption) | exact sh_ring _ (by first | assumption | omega) | exact sh_imgs _ (by first | assumption | omega)) (by decide) rfl (by decide) (Nat.le_of_ble_eq_true rfl) (c_X2_lastDay hR hS (by omega) (hL.1.2.2 i hin).1 (hL.1.2.2 i hin).2 ?_)
            refine v_istore_6 rfl dX11_pass_106 ?_
            refine v_aload_0 dX11_pass_108 ?_
            refine u_getR dX11_pass_109 gf_X11_29 (by first | assumption | rfl | exact led_1 (by assumption) | exact led_2 (by assumption) | exact bk_m (by assumption) (by first | assumption | omega) | exact bk_p (by assumption) (by first | assumption | omega) | exact bk_o (by assumption) (by first | assumption | omega) | exact bk_s (by assumption) (by first | assumption | omega) | exact bk_1 (by assumption) | exact bk_2 (by assumption) | exact bk_3 (by assumption) | exact bk_4 (by assumption) | exact bk_5 (by assumption) | exact bk_6 (by assumption) | exact bk_7 (by assumption) | exact bk_8 (by assumption) | exact sh_ring _ (by first | assumption | omega) | exact sh_imgs _ (by first | assumption | omega)) (by assumption) ?_
            refine v_iload_1 dX11_pass_112 ?_
            refine v_iload_3 dX11_pass_113 ?_
            refine u_callV_2 dX11_pass_114 ml_X11_102 mv_X0_suits (by first | assumption | rfl | exact led_1 (by assumption) | exact led_2 (by assumption) | exact bk_m (by assumption) (by first | assumption | omega) | exact bk_p (by assumption) (by first | assumption | omega) | exact bk_o (by assumption) (by first | assumption | omega) | exact bk_s (by assumption) (by first | assumption | omega) | exact bk_1 (by assumption) | exact bk_2 (by assumption) | exact bk_3 (by assumption) | exact bk_4 (by assumption) | exact bk_5 (by assumption) | exact bk_6 (by assumption) | exact bk_7 (by assumption) | exact bk_8 (by assumption) | exact sh_ring _ (by first | assumption | omega) | exact sh_imgs _ (by first | assumption | omega)) (by decide) rfl (by decide) (Nat.le_of_ble_eq_true rfl) (c_X0_suits hR hB hF hO hm hp ?_)
            refine v_if_eq (tgt := 132) dX11_pass_117 (by decide) (fun hc117 => ?_) (fun hc117 => ?_)
            · (first | rw [bI_0, Bool.not_eq_false] at hc117 | rw [bI_0] at hc117 | rw [show (0 : Int32) = nI 0 from rfl, nI_eq (by omega) (by omega)] at hc117 | skip)
              have hbad : (fitF F m p && (fup (hitp (S 0).2.1 p d ((S 0).2.1 i).2.2.2) 0 (S 0).1).isNone) = false := by
                first
                  | (have e : fitF F m p = false := hc117; rw [e]; rfl)
                  | (have e : (fup (hitp (S 0).2.1 p d ((S 0).2.1 i).2.2.2) 0 (S 0).1).isNone = false := hc129; rw [e, Bool.and_false])
              refine v_aload_0 dX11_pass_132 ?_
              refine v_iconst (v := nI 5) dX11_pass_133 (by decide) ?_
              refine u_callV_1 dX11_pass_134 ml_X11_78 mv_X11_refuse (by first | assumption | rfl | exact led_1 (by assumption) | exact led_2 (by assumption) | exact bk_m (by assumption) (by first | assumption | omega) | exact bk_p (by assumption) (by first | assumption | omega) | exact bk_o (by assumption) (by first | assumption | omega) | exact bk_s (by assumption) (by first | assumption | omega) | exact bk_1 (by assumption) | exact bk_2 (by assumption) | exact bk_3 (by assumption) | exact bk_4 (by assumption) | exact bk_5 (by assumption) | exact bk_6 (by assumption) | exact bk_7 (by assumption) | exact bk_8 (by assumption) | exact sh_ring _ (by first | assumption | omega) | exact sh_imgs _ (by first | assumption | omega)) (by decide) rfl (by decide) (Nat.le_of_ble_eq_true rfl) (c_X11_refuse ?_)
              refine v_zret dX11_pass_137 (by first | rfl | exact bI_n _) rfl rfl rfl rfl ?_
              have hk : k_pass F (S 0) (nI m) (nI d) (nI p) = 5 := by rw [k_pass, if_pos hc39, em, ed, ep, hfd]; simp only; rw [if_neg hnr, if_neg (by rw [hbad]; decide)]
              exact (hQ0 (by rw [hk]; decide)).fin (cb_tr h (by decide) (by decide)) (hh.trans (hi_ui (by decide))) hk.symm rfl
            · (first | rw [bI_0, Bool.not_eq_false] at hc117 | rw [bI_0] at hc117 | rw [show (0 : Int32) = nI 0 from rfl, nI_eq (by omega) (by omega)] at hc117 | skip)
              refine v_aload_4 dX11_pass_120 ?_
              refine v_iload_3 dX11_pass_122 ?_
              refine v_iload_2 dX11_pass_123 ?_
              refine v_iload_6 dX11_pass_124 ?_
              refine u_callV_3 dX11_pass_126 ml_X11_267 mv_X2_isBare (by first | assumption | rfl | exact led_1 (by assumption) | exact led_2 (by assumption) | exact bk_m (by assumption) (by first | assumption | omega) | exact bk_p (by assumption) (by first | assumption | omega) | exact bk_o (by assumption) (by first | assumption | omega) | exact bk_s (by assumption) (by first | assumption | omega) | exact bk_1 (by assumption) | exact bk_2 (by assumption) | exact bk_3 (by assumption) | exact bk_4 (by assumption) | exact bk_5 (by assumption) | exact bk_6 (by assumption) | exact bk_7 (by assumption) | exact bk_8 (by assumption) | exact sh_ring _ (by first | assumption | omega) | exact sh_imgs _ (by first | assumption | omega)) (by decide) rfl (by decide) (Nat.le_of_ble_eq_true rfl) (c_X2_isBare hR hS hL.1 (by omega) (by omega) (by omega) ?_)
              refine v_if_ne (tgt := 138) dX11_pass_129 (by decide) (fun hc129 => ?_) (fun hc129 => ?_)
              · (first | rw [bI_0, Bool.not_eq_false] at hc129 | rw [bI_0] at hc129 | rw [show (0 : Int32) = nI 0 from rfl, nI_eq (by omega) (by omega)] at hc129 | skip)
                have hgood : (fitF F m p && (fup (hitp (S 0).2.1 p d ((S 0).2.1 i).2.2.2) 0 (S 0).1).isNone) = true := by
                  rw [show fitF F m p = true from hc117, show (fup (hitp (S 0).2.1 p d ((S 0).2.1 i).2.2.2) 0 (S 0).1).isNone = true from hc129]; rfl
                have hq4 : ok4 (m, p, d, ((S 0).2.1 i).2.2.2) := ⟨Nat.lt_of_lt_of_le hm o2, Nat.lt_of_lt_of_le hp o3, hd1, ht3, hi5⟩
                have hq5 : okq F (m, p, d, ((S 0).2.1 i).2.2.2) := ⟨hq4, hm, hp, hiK.2.2.2.1, hc117⟩
                have hfr := free_pass hK hin ht1 ht2 ht3 (fup_isNone hc129)
                have hlk := lok_end hK hin ht2 ht3
                refine v_aload_0 dX11_pass_138 ?_
                refine u_getR dX11_pass_139 gf_X11_46 (by first | assumption | rfl | exact led_1 (by assumption) | exact led_2 (by assumption) | exact bk_m (by assumption) (by first | assumption | omega) | exact bk_p (by assumption) (by first | assumption | omega) | exact bk_o (by assumption) (by first | assumption | omega) | exact bk_s (by assumption) (by first | assumption | omega) | exact bk_1 (by assumption) | exact bk_2 (by assumption) | exact bk_3 (by assumption) | exact bk_4 (by assumption) | exact bk_5 (by assumption) | exact bk_6 (by assumption) | exact bk_7 (by assumption) | exact bk_8 (by assumption) | exact sh_ring _ (by first | assumption | omega) | exact sh_imgs _ (by first | assumption | omega)) (ro_X11_8 (by assumption)) ?_
                refine u_callV_0 dX11_pass_142 ml_X11_247 mv_X1_step (by first | assumption | rfl | exact led_1 (by assumption) | exact led_2 (by assumption) | exact bk_m (by assumption) (by first | assumption | omega) | exact bk_p (by assumption) (by first | assumption | omega) | exact bk_o (by assumption) (by first | assumption | omega) | exact bk_s (by assumption) (by first | assumption | omega) | exact bk_1 (by assumption) | exact bk_2 (by assumption) | exact bk_3 (by assumption) | exact bk_4 (by assumption) | exact bk_5 (by assumption) | exact bk_6 (by assumption) | exact bk_7 (by assumption) | exact bk_8 (by assumption) | exact sh_ring _ (by first | assumption | omega) | exact sh_imgs _ (by first | assumption | omega)) (by decide) rfl (by decide) (Nat.le_of_ble_eq_true rfl) (c_X1_step hR h1 ht hu2 (by omega) hL (fun J q1 q2 q3 q4 q5 q6 => ?_))
                refine v_astore_7 rfl dX11_pass_145 ?_
                refine v_aload_7 dX11_pass_147 ?_
                refine v_iload_5 dX11_pass_149 ?_
                refine v_iload_2 dX11_pass_151 ?_
                refine u_callV_2 dX11_pass_152 ml_X11_257 mv_X2_endAhead (by first | assumption | rfl | exact led_1 (by assumption) | exact led_2 (by assumption) | exact bk_m (by assumption) (by first | assumption | omega) | exact bk_p (by assumption) (by first | assumption | omega) | exact bk_o (by assumption) (by first | assumption | omega) | exact bk_s (by assumption) (by first | assumption | omega) | exact bk_1 (by assumption) | exact bk_2 (by assumption) | exact bk_3 (by assumption) | exact bk_4 (by assumption) | exact bk_5 (by assumption) | exact bk_6 (by assumption) | exact bk_7 (by assumption) | exact bk_8 (by assumption) | exact sh_ring _ (by first | assumption | omega) | exact sh_imgs _ (by first | assumption | omega)) (by decide) rfl (by decide) (Nat.le_of_ble_eq_true rfl) (c_X2_endAhead hR hS2 q1.1 hin (by omega) (fun e J2 q7 q8 => ?_) (fun e J2 q7 q8 => ?_))
                · have hls : endS (S 0) i d = ((S 0).1, setg (S 0).2.1 i (((S 0).2.1 i).1, ((S 0).2.1 i).2.1, ((S 0).2.1 i).2.2.1, d - 1), (S 0).2.2) := by simp only [endS, if_pos e]
                  rw [hls] at hfr hlk
                  refine v_aload_7 dX11_pass_155 ?_
                  refine v_iload_1 dX11_pass_157 ?_
                  refine v_iload_3 dX11_pass_158 ?_
                  refine v_iload_2 dX11_pass_159 ?_
                  refine v_iload_6 dX11_pass_160 ?_
                  refine u_callV_4 dX11_pass_162 ml_X11_250 mv_X2_add (by first | assumption | rfl | exact led_1 (by assumption) | exact led_2 (by assumption) | exact bk_m (by assumption) (by first | assumption | omega) | exact bk_p (by assumption) (by first | assumption | omega) | exact bk_o (by assumption) (by first | assumption | omega) | exact bk_s (by assumption) (by first | assumption | omega) | exact bk_1 (by assumption) | exact bk_2 (by assumption) | exact bk_3 (by assumption) | exact bk_4 (by assumption) | exact bk_5 (by assumption) | exact bk_6 (by assumption) | exact bk_7 (by assumption) | exact bk_8 (by assumption) | exact sh_ring _ (by first | assumption | omega) | exact sh_imgs _ (by first | assumption | omega)) (by decide) rfl (by decide) (Nat.le_of_ble_eq_true rfl) (c_X2_add hR hS2 q7 (by omega) hq4 (fun J3 q9 q10 => ?_))
                  skip
                  have hk : k_pass F (S 0) (nI m) (nI d) (nI p) = 0 := by rw [k_pass, if_pos hc39, em, ed, ep, hfd]; simp only; rw [if_neg hnr, if_pos hgood]
                  have hfin := hQ1 hk
                  have hn : n_pass (S 0) m d p = insS ((S 0).1, setg (S 0).2.1 i (((S 0).2.1 i).1, ((S 0).2.1 i).2.1, ((S 0).2.1 i).2.2.1, d - 1), (S 0).2.2) (m, p, d, ((S 0).2.1 i).2.2.2) := by simp only [n_pass, hfd]; rw [hls]
                  rw [em, ed, ep, hn] at hfin
                  refine v_iconst (v := nI 1) dX11_pass_165 (by decide) ?_
                  refine v_zret dX11_pass_166 rfl rfl rfl rfl rfl ?_
                  refine hfin.fin (cb_step (s := insS ((S 0).1, setg (S 0).2.1 i (((S 0).2.1 i).1, ((S 0).2.1 i).2.1, ((S 0).2.1 i).2.2.1, d - 1), (S 0).2.2) (m, p, d, ((S 0).2.1 i).2.2.2)) h (fun x e1 e2 e3 e4 => (q10 x e2 e3).trans ((q8 x e3).trans (q6 x e1 e2 e3 e4))) (by rw [q10 94 (by omega) (by omega), q8 94 (by omega)]; exact q2) (by rw [q10 94 (by omega) (by omega), q8 94 (by omega)]; exact q3) (by rw [q10 94 (by omega) (by omega), q8 94 (by omega)]; exact q4) (by rw [q10 94 (by omega) (by omega), q8 94 (by omega)]; exact q5) ⟨q9, fun p hp => by rw [q10 _ (by omega) (by omega), q8 _ (by omega)]; exact q1.2 p hp⟩ (lok_ins hlk (by show (S 0).1 < 20; omega) hq5 hfr)) (hh.trans (fun a ha => ⟨(q10 a (by omega) (by omega)).trans ((q8 a (by omega)).trans (q6 a (by omega) (by omega) (by omega) (by omega))), rfl, rfl⟩)) (trc_0 hc39) rfl
                · have hls : endS (S 0) i d = ((S 0).1 - 1, cutg (S 0).2.1 i, (S 0).2.2) := by simp only [endS, if_neg e]
                  rw [hls] at hfr hlk
                  refine v_aload_7 dX11_pass_155 ?_
                  refine v_iload_1 dX11_pass_157 ?_
                  refine v_iload_3 dX11_pass_158 ?_
                  refine v_iload_2 dX11_pass_159 ?_
                  refine v_iload_6 dX11_pass_160 ?_
                  refine u_callV_4 dX11_pass_162 ml_X11_250 mv_X2_add (by first | assumption | rfl | exact led_1 (by assumption) | exact led_2 (by assumption) | exact bk_m (by assumption) (by first | assumption | omega) | exact bk_p (by assumption) (by first | assumption | omega) | exact bk_o (by assumption) (by first | assumption | omega) | exact bk_s (by assumption) (by first | assumption | omega) | exact bk_1 (by assumption) | exact bk_2 (by assumption) | exact bk_3 (by assumption) | exact bk_4 (by assumption) | exact bk_5 (by assumption) | exact bk_6 (by assumption) | exact bk_7 (by assumption) | exact bk_8 (by assumption) | exact sh_ring _ (by first | assumption | omega) | exact sh_imgs _ (by first | assumption | omega)) (by decide) rfl (by decide) (Nat.le_of_ble_eq_true rfl) (c_X2_add hR hS2 q7 (by omega) hq4 (fun J3 q9 q10 => ?_))
                  skip
                  have hk : k_pass F (S 0) (nI m) (nI d) (nI p) = 0 := by rw [k_pass, if_pos hc39, em, ed, ep, hfd]; simp only; rw [if_neg hnr, if_pos hgood]
                  have hfin := hQ1 hk
                  have hn : n_pass (S 0) m d p = insS ((S 0).1 - 1, cutg (S 0).2.1 i, (S 0).2.2) (m, p, d, ((S 0).2.1 i).2.2.2) := by simp only [n_pass, hfd]; rw [hls]
                  rw [em, ed, ep, hn] at hfin
                  refine v_iconst (v := nI 1) dX11_pass_165 (by decide) ?_
                  refine v_zret dX11_pass_166 rfl rfl rfl rfl rfl ?_
                  refine hfin.fin (cb_step (s := insS ((S 0).1 - 1, cutg (S 0).2.1 i, (S 0).2.2) (m, p, d, ((S 0).2.1 i).2.2.2)) h (fun x e1 e2 e3 e4 => (q10 x e2 e3).trans ((q8 x e2 e3).trans (q6 x e1 e2 e3 e4))) (by rw [q10 94 (by omega) (by omega), q8 94 (by omega) (by omega)]; exact q2) (by rw [q10 94 (by omega) (by omega), q8 94 (by omega) (by omega)]; exact q3) (by rw [q10 94 (by omega) (by omega), q8 94 (by omega) (by omega)]; exact q4) (by rw [q10 94 (by omega) (by omega), q8 94 (by omega) (by omega)]; exact q5) ⟨q9, fun p hp => by rw [q10 _ (by omega) (by omega), q8 _ (by omega) (by omega)]; exact q1.2 p hp⟩ (lok_ins hlk (by show (S 0).1 - 1 < 20; omega) hq5 hfr)) (hh.trans (fun a ha => ⟨(q10 a (by omega) (by omega)).trans ((q8 a (by omega) (by omega)).trans (q6 a (by omega) (by omega) (by omega) (by omega))), rfl, rfl⟩)) (trc_0 hc39) rfl
              · (first | rw [bI_0, Bool.not_eq_false] at hc129 | rw [bI_0] at hc129 | rw [show (0 : Int32) = nI 0 from rfl, nI_eq (by omega) (by omega)] at hc129 | skip)
                have hbad : (fitF F m p && (fup (hitp (S 0).2.1 p d ((S 0).2.1 i).2.2.2) 0 (S 0).1).isNone) = false := by
                  first
                    | (have e : fitF F m p = false := hc117; rw [e]; rfl)
                    | (have e : (fup (hitp (S 0).2.1 p d ((S 0).2.1 i).2.2.2) 0 (S 0).1).isNone = false := hc129; rw [e, Bool.and_false])
                refine v_aload_0 dX11_pass_132 ?_
                refine v_iconst (v := nI 5) dX11_pass_133 (by decide) ?_
                refine u_callV_1 dX11_pass_134 ml_X11_78 mv_X11_refuse (by first | assumption | rfl | exact led_1 (by assumption) | exact led_2 (by assumption) | exact bk_m (by assumption) (by first | assumption | omega) | exact bk_p (by assumption) (by first | assumption | omega) | exact bk_o (by assumption) (by first | assumption | omega) | exact bk_s (by assumption) (by first | assumption | omega) | exact bk_1 (by assumption) | exact bk_2 (by assumption) | exact bk_3 (by assumption) | exact bk_4 (by assumption) | exact bk_5 (by assumption) | exact bk_6 (by assumption) | exact bk_7 (by assumption) | exact bk_8 (by assumption) | exact sh_ring _ (by first | assumption | omega) | exact sh_imgs _ (by first | assumption | omega)) (by decide) rfl (by decide) (Nat.le_of_ble_eq_true rfl) (c_X11_refuse ?_)
                refine v_zret dX11_pass_137 (by first | rfl | exact bI_n _) rfl rfl rfl rfl ?_
                have hk : k_pass F (S 0) (nI m) (nI d) (nI p) = 5 := by rw [k_pass, if_pos hc39, em, ed, ep, hfd]; simp only; rw [if_neg hnr, if_neg (by rw [hbad]; decide)]
                exact (hQ0 (by rw [hk]; decide)).fin (cb_tr h (by decide) (by decide)) (hh.trans (hi_ui (by decide))) hk.symm rfl
          · (first | rw [bI_0, Bool.not_eq_false] at hc79 | rw [bI_0] at hc79 | rw [show (0 : Int32) = nI 0 from rfl, nI_eq (by omega) (by omega)] at hc79 | skip)
            refine v_aload_4 dX11_pass_82 ?_
            refine v_iload_5 dX11_pass_84 ?_
            refine u_callV_1 dX11_pass_86 ml_X11_261 mv_X2_firstDay (by first | assumption | rfl | exact led_1 (by assumption) | exact led_2 (by assumption) | exact bk_m (by assumption) (by first | assumption | omega) | exact bk_p (by assumption) (by first | assumption | omega) | exact bk_o (by assumption) (by first | assumption | omega) | exact bk_s (by assumption) (by first | assumption | omega) | exact bk_1 (by assumption) | exact bk_2 (by assumption) | exact bk_3 (by assumption) | exact bk_4 (by assumption) | exact bk_5 (by assumption) | exact bk_6 (by assumption) | exact bk_7 (by assumption) | exact bk_8 (by assumption) | exact sh_ring _ (by first | assumption | omega) | exact sh_imgs _ (by first | assumption | omega)) (by decide) rfl (by decide) (Nat.le_of_ble_eq_true rfl) (c_X2_firstDay hR hS (by omega) (hL.1.2.2 i hin).1 (hL.1.2.2 i hin).2 ?_)
            refine v_iload_2 dX11_pass_89 ?_
            refine v_icmp_ge (tgt := 99) dX11_pass_90 (by decide) (fun hc90 => ?_) (fun hc90 => ?_)
            · (try rw [nI_leI (by omega) (by omega)] at hc90)
              have hnr : ¬ (20 ≤ (S 0).1 ∧ ((S 0).2.1 i).2.2.1 < d) := by
                first
                  | (have e : decide (20 ≤ (S 0).1) = false := hc79; have := of_decide_eq_false e; omega)
                  | (have e2 : d ≤ ((S 0).2.1 i).2.2.1 := hc90; omega)
              refine v_aload_4 dX11_pass_99 ?_
              refine v_iload_5 dX11_pass_101 ?_
              refine u_callV_1 dX11_pass_103 ml_X11_264 mv_X2_lastDay (by first | assumption | rfl | exact led_1 (by assumption) | exact led_2 (by assumption) | exact bk_m (by assumption) (by first | assumption | omega) | exact bk_p (by assumption) (by first | assumption | omega) | exact bk_o (by assumption) (by first | assumption | omega) | exact bk_s (by assumption) (by first | assumption | omega) | exact bk_1 (by assumption) | exact bk_2 (by assumption) | exact bk_3 (by assumption) | exact bk_4 (by assumption) | exact bk_5 (by assumption) | exact bk_6 (by assumption) | exact bk_7 (by assumption) | exact bk_8 (by assumption) | exact sh_ring _ (by first | assumption | omega) | exact sh_imgs _ (by first | assumption | omega)) (by decide) rfl (by decide) (Nat.le_of_ble_eq_true rfl) (c_X2_lastDay hR hS (by omega) (hL.1.2.2 i hin).1 (hL.1.2.2 i hin).2 ?_)
              refine v_istore_6 rfl dX11_pass_106 ?_
              refine v_aload_0 dX11_pass_108 ?_
              refine u_getR dX11_pass_109 gf_X11_29 (by first | assumption | rfl | exact led_1 (by assumption) | exact led_2 (by assumption) | exact bk_m (by assumption) (by first | assumption | omega) | exact bk_p (by assumption) (by first | assumption | omega) | exact bk_o (by assumption) (by first | assumption | omega) | exact bk_s (by assumption) (by first | assumption | omega) | exact bk_1 (by assumption) | exact bk_2 (by assumption) | exact bk_3 (by assumption) | exact bk_4 (by assumption) | exact bk_5 (by assumption) | exact bk_6 (by assumption) | exact bk_7 (by assumption) | exact bk_8 (by assumption) | exact sh_ring _ (by first | assumption | omega) | exact sh_imgs _ (by first | assumption | omega)) (by assumption) ?_
              refine v_iload_1 dX11_pass_112 ?_
              refine v_iload_3 dX11_pass_113 ?_
              refine u_callV_2 dX11_pass_114 ml_X11_102 mv_X0_suits (by first | assumption | rfl | exact led_1 (by assumption) | exact led_2 (by assumption) | exact bk_m (by assumption) (by first | assumption | omega) | exact bk_p (by assumption) (by first | assumption | omega) | exact bk_o (by assumption) (by first | assumption | omega) | exact bk_s (by assumption) (by first | assumption | omega) | exact bk_1 (by assumption) | exact bk_2 (by assumption) | exact bk_3 (by assumption) | exact bk_4 (by assumption) | exact bk_5 (by assumption) | exact bk_6 (by assumption) | exact bk_7 (by assumption) | exact bk_8 (by assumption) | exact sh_ring _ (by first | assumption | omega) | exact sh_imgs _ (by first | assumption | omega)) (by decide) rfl (by decide) (Nat.le_of_ble_eq_true rfl) (c_X0_suits hR hB hF hO hm hp ?_)
              refine v_if_eq (tgt := 132) dX11_pass_117 (by decide) (fun hc117 => ?_) (fun hc117 => ?_)
              · (first | rw [bI_0, Bool.not_eq_false] at hc117 | rw [bI_0] at hc117 | rw [show (0 : Int32) = nI 0 from rfl, nI_eq (by omega) (by omega)] at hc117 | skip)
                have hbad : (fitF F m p && (fup (hitp (S 0).2.1 p d ((S 0).2.1 i).2.2.2) 0 (S 0).1).isNone) = false := by
                  first
                    | (have e : fitF F m p = false := hc117; rw [e]; rfl)
                    | (have e : (fup (hitp (S 0).2.1 p d ((S 0).2.1 i).2.2.2) 0 (S 0).1).isNone = false := hc129; rw [e, Bool.and_false])
                refine v_aload_0 dX11_pass_132 ?_
                refine v_iconst (v := nI 5) dX11_pass_133 (by decide) ?_
                refine u_callV_1 dX11_pass_134 ml_X11_78 mv_X11_refuse (by first | assumption | rfl | exact led_1 (by assumption) | exact led_2 (by assumption) | exact bk_m (by assumption) (by first | assumption | omega) | exact bk_p (by assumption) (by first | assumption | omega) | exact bk_o (by assumption) (by first | assumption | omega) | exact bk_s (by assumption) (by first | assumption | omega) | exact bk_1 (by assumption) | exact bk_2 (by assumption) | exact bk_3 (by assumption) | exact bk_4 (by assumption) | exact bk_5 (by assumption) | exact bk_6 (by assumption) | exact bk_7 (by assumption) | exact bk_8 (by assumption) | exact sh_ring _ (by first | assumption | omega) | exact sh_imgs _ (by first | assumption | omega)) (by decide) rfl (by decide) (Nat.le_of_ble_eq_true rfl) (c_X11_refuse ?_)
                refine v_zret dX11_pass_137 (by first | rfl | exact bI_n _) rfl rfl rfl rfl ?_
                have hk : k_pass F (S 0) (nI m) (nI d) (nI p) = 5 := by rw [k_pass, if_pos hc39, em, ed, ep, hfd]; simp only; rw [if_neg hnr, if_neg (by rw [hbad]; decide)]
                exact (hQ0 (by rw [hk]; decide)).fin (cb_tr h (by decide) (by decide)) (hh.trans (hi_ui (by decide))) hk.symm rfl
              · (first | rw [bI_0, Bool.not_eq_false] at hc117 | rw [bI_0] at hc117 | rw [show (0 : Int32) = nI 0 from rfl, nI_eq (by omega) (by omega)] at hc117 | skip)
                refine v_aload_4 dX11_pass_120 ?_
                refine v_iload_3 dX11_pass_122 ?_
                refine v_iload_2 dX11_pass_123 ?_
                refine v_iload_6 dX11_pass_124 ?_
                refine u_callV_3 dX11_pass_126 ml_X11_267 mv_X2_isBare (by first | assumption | rfl | exact led_1 (by assumption) | exact led_2 (by assumption) | exact bk_m (by assumption) (by first | assumption | omega) | exact bk_p (by assumption) (by first | assumption | omega) | exact bk_o (by assumption) (by first | assumption | omega) | exact bk_s (by assumption) (by first | assumption | omega) | exact bk_1 (by assumption) | exact bk_2 (by assumption) | exact bk_3 (by assumption) | exact bk_4 (by assumption) | exact bk_5 (by assumption) | exact bk_6 (by assumption) | exact bk_7 (by assumption) | exact bk_8 (by assumption) | exact sh_ring _ (by first | assumption | omega) | exact sh_imgs _ (by first | assumption | omega)) (by decide) rfl (by decide) (Nat.le_of_ble_eq_true rfl) (c_X2_isBare hR hS hL.1 (by omega) (by omega) (by omega) ?_)
                refine v_if_ne (tgt := 138) dX11_pass_129 (by decide) (fun hc129 => ?_) (fun hc129 => ?_)
                · (first | rw [bI_0, Bool.not_eq_false] at hc129 | rw [bI_0] at hc129 | rw [show (0 : Int32) = nI 0 from rfl, nI_eq (by omega) (by omega)] at hc129 | skip)
                  have hgood : (fitF F m p && (fup (hitp (S 0).2.1 p d ((S 0).2.1 i).2.2.2) 0 (S 0).1).isNone) = true := by
                    rw [show fitF F m p = true from hc117, show (fup (hitp (S 0).2.1 p d ((S 0).2.1 i).2.2.2) 0 (S 0).1).isNone = true from hc129]; rfl
                  have hq4 : ok4 (m, p, d, ((S 0).2.1 i).2.2.2) := ⟨Nat.lt_of_lt_of_le hm o2, Nat.lt_of_lt_of_le hp o3, hd1, ht3, hi5⟩
                  have hq5 : okq F (m, p, d, ((S 0).2.1 i).2.2.2) := ⟨hq4, hm, hp, hiK.2.2.2.1, hc117⟩
                  have hfr := free_pass hK hin ht1 ht2 ht3 (fup_isNone hc129)
                  have hlk := lok_end hK hin ht2 ht3
                  refine v_aload_0 dX11_pass_138 ?_
                  refine u_getR dX11_pass_139 gf_X11_46 (by first | assumption | rfl | exact led_1 (by assumption) | exact led_2 (by assumption) | exact bk_m (by assumption) (by first | assumption | omega) | exact bk_p (by assumption) (by first | assumption | omega) | exact bk_o (by assumption) (by first | assumption | omega) | exact bk_s (by assumption) (by first | assumption | omega) | exact bk_1 (by assumption) | exact bk_2 (by assumption) | exact bk_3 (by assumption) | exact bk_4 (by assumption) | exact bk_5 (by assumption) | exact bk_6 (by assumption) | exact bk_7 (by assumption) | exact bk_8 (by assumption) | exact sh_ring _ (by first | assumption | omega) | exact sh_imgs _ (by first | assumption | omega)) (ro_X11_8 (by assumption)) ?_
                  refine u_callV_0 dX11_pass_142 ml_X11_247 mv_X1_step (by first | assumption | rfl | exact led_1 (by assumption) | exact led_2 (by assumption) | exact bk_m (by assumption) (by first | assumption | omega) | exact bk_p (by assumption) (by first | assumption | omega) | exact bk_o (by assumption) (by first | assumption | omega) | exact bk_s (by assumption) (by first | assumption | omega) | exact bk_1 (by assumption) | exact bk_2 (by assumption) | exact bk_3 (by assumption) | exact bk_4 (by assumption) | exact bk_5 (by assumption) | exact bk_6 (by assumption) | exact bk_7 (by assumption) | exact bk_8 (by assumption) | exact sh_ring _ (by first | assumption | omega) | exact sh_imgs _ (by first | assumption | omega)) (by decide) rfl (by decide) (Nat.le_of_ble_eq_true rfl) (c_X1_step hR h1 ht hu2 (by omega) hL (fun J q1 q2 q3 q4 q5 q6 => ?_))
                  refine v_astore_7 rfl dX11_pass_145 ?_
                  refine v_aload_7 dX11_pass_147 ?_
                  refine v_iload_5 dX11_pass_149 ?_
                  refine v_iload_2 dX11_pass_151 ?_
                  refine u_callV_2 dX11_pass_152 ml_X11_257 mv_X2_endAhead (by first | assumption | rfl | exact led_1 (by assumption) | exact led_2 (by assumption) | exact bk_m (by assumption) (by first | assumption | omega) | exact bk_p (by assumption) (by first | assumption | omega) | exact bk_o (by assumption) (by first | assumption | omega) | exact bk_s (by assumption) (by first | assumption | omega) | exact bk_1 (by assumption) | exact bk_2 (by assumption) | exact bk_3 (by assumption) | exact bk_4 (by assumption) | exact bk_5 (by assumption) | exact bk_6 (by assumption) | exact bk_7 (by assumption) | exact bk_8 (by assumption) | exact sh_ring _ (by first | assumption | omega) | exact sh_imgs _ (by first | assumption | omega)) (by decide) rfl (by decide) (Nat.le_of_ble_eq_true rfl) (c_X2_endAhead hR hS2 q1.1 hin (by omega) (fun e J2 q7 q8 => ?_) (fun e J2 q7 q8 => ?_))
                  · have hls : endS (S 0) i d = ((S 0).1, setg (S 0).2.1 i (((S 0).2.1 i).1, ((S 0).2.1 i).2.1, ((S 0).2.1 i).2.2.1, d - 1), (S 0).2.2) := by simp only [endS, if_pos e]
                    rw [hls] at hfr hlk
                    refine v_aload_7 dX11_pass_155 ?_
                    refine v_iload_1 dX11_pass_157 ?_
                    refine v_iload_3 dX11_pass_158 ?_
                    refine v_iload_2 dX11_pass_159 ?_
                    refine v_iload_6 dX11_pass_160 ?_
                    refine u_callV_4 dX11_pass_162 ml_X11_250 mv_X2_add (by first | assumption | rfl | exact led_1 (by assumption) | exact led_2 (by assumption) | exact bk_m (by assumption) (by first | assumption | omega) | exact bk_p (by assumption) (by first | assumption | omega) | exact bk_o (by assumption) (by first | assumption | omega) | exact bk_s (by assumption) (by first | assumption | omega) | exact bk_1 (by assumption) | exact bk_2 (by assumption) | exact bk_3 (by assumption) | exact bk_4 (by assumption) | exact bk_5 (by assumption) | exact bk_6 (by assumption) | exact bk_7 (by assumption) | exact bk_8 (by assumption) | exact sh_ring _ (by first | assumption | omega) | exact sh_imgs _ (by first | assumption | omega)) (by decide) rfl (by decide) (Nat.le_of_ble_eq_true rfl) (c_X2_add hR hS2 q7 (by omega) hq4 (fun J3 q9 q10 => ?_))
                    skip
                    have hk : k_pass F (S 0) (nI m) (nI d) (nI p) = 0 := by rw [k_pass, if_pos hc39, em, ed, ep, hfd]; simp only; rw [if_neg hnr, if_pos hgood]
                    have hfin := hQ1 hk
                    have hn : n_pass (S 0) m d p = insS ((S 0).1, setg (S 0).2.1 i (((S 0).2.1 i).1, ((S 0).2.1 i).2.1, ((S 0).2.1 i).2.2.1, d - 1), (S 0).2.2) (m, p, d, ((S 0).2.1 i).2.2.2) := by simp only [n_pass, hfd]; rw [hls]
                    rw [em, ed, ep, hn] at hfin
                    refine v_iconst (v := nI 1) dX11_pass_165 (by decide) ?_
                    refine v_zret dX11_pass_166 rfl rfl rfl rfl rfl ?_
                    refine hfin.fin (cb_step (s := insS ((S 0).1, setg (S 0).2.1 i (((S 0).2.1 i).1, ((S 0).2.1 i).2.1, ((S 0).2.1 i).2.2.1, d - 1), (S 0).2.2) (m, p, d, ((S 0).2.1 i).2.2.2)) h (fun x e1 e2 e3 e4 => (q10 x e2 e3).trans ((q8 x e3).trans (q6 x e1 e2 e3 e4))) (by rw [q10 94 (by omega) (by omega), q8 94 (by omega)]; exact q2) (by rw [q10 94 (by omega) (by omega), q8 94 (by omega)]; exact q3) (by rw [q10 94 (by omega) (by omega), q8 94 (by omega)]; exact q4) (by rw [q10 94 (by omega) (by omega), q8 94 (by omega)]; exact q5) ⟨q9, fun p hp => by rw [q10 _ (by omega) (by omega), q8 _ (by omega)]; exact q1.2 p hp⟩ (lok_ins hlk (by show (S 0).1 < 20; omega) hq5 hfr)) (hh.trans (fun a ha => ⟨(q10 a (by omega) (by omega)).trans ((q8 a (by omega)).trans (q6 a (by omega) (by omega) (by omega) (by omega))), rfl, rfl⟩)) (trc_0 hc39) rfl
                  · have hls : endS (S 0) i d = ((S 0).1 - 1, cutg (S 0).2.1 i, (S 0).2.2) := by simp only [endS, if_neg e]
                    rw [hls] at hfr hlk
                    refine v_aload_7 dX11_pass_155 ?_
                    refine v_iload_1 dX11_pass_157 ?_
                    refine v_iload_3 dX11_pass_158 ?_
                    refine v_iload_2 dX11_pass_159 ?_
                    refine v_iload_6 dX11_pass_160 ?_
                    refine u_callV_4 dX11_pass_162 ml_X11_250 mv_X2_add (by first | assumption | rfl | exact led_1 (by assumption) | exact led_2 (by assumption) | exact bk_m (by assumption) (by first | assumption | omega) | exact bk_p (by assumption) (by first | assumption | omega) | exact bk_o (by assumption) (by first | assumption | omega) | exact bk_s (by assumption) (by first | assumption | omega) | exact bk_1 (by assumption) | exact bk_2 (by assumption) | exact bk_3 (by assumption) | exact bk_4 (by assumption) | exact bk_5 (by assumption) | exact bk_6 (by assumption) | exact bk_7 (by assumption) | exact bk_8 (by assumption) | exact sh_ring _ (by first | assumption | omega) | exact sh_imgs _ (by first | assumption | omega)) (by decide) rfl (by decide) (Nat.le_of_ble_eq_true rfl) (c_X2_add hR hS2 q7 (by omega) hq4 (fun J3 q9 q10 => ?_))
                    skip
                    have hk : k_pass F (S 0) (nI m) (nI d) (nI p) = 0 := by rw [k_pass, if_pos hc39, em, ed, ep, hfd]; simp only; rw [if_neg hnr, if_pos hgood]
                    have hfin := hQ1 hk
                    have hn : n_pass (S 0) m d p = insS ((S 0).1 - 1, cutg (S 0).2.1 i, (S 0).2.2) (m, p, d, ((S 0).2.1 i).2.2.2) := by simp only [n_pass, hfd]; rw [hls]
                    rw [em, ed, ep, hn] at hfin
                    refine v_iconst (v := nI 1) dX11_pass_165 (by decide) ?_
                    refine v_zret dX11_pass_166 rfl rfl rfl rfl rfl ?_
                    refine hfin.fin (cb_step (s := insS ((S 0).1 - 1, cutg (S 0).2.1 i, (S 0).2.2) (m, p, d, ((S 0).2.1 i).2.2.2)) h (fun x e1 e2 e3 e4 => (q10 x e2 e3).trans ((q8 x e2 e3).trans (q6 x e1 e2 e3 e4))) (by rw [q10 94 (by omega) (by omega), q8 94 (by omega) (by omega)]; exact q2) (by rw [q10 94 (by omega) (by omega), q8 94 (by omega) (by omega)]; exact q3) (by rw [q10 94 (by omega) (by omega), q8 94 (by omega) (by omega)]; exact q4) (by rw [q10 94 (by omega) (by omega), q8 94 (by omega) (by omega)]; exact q5) ⟨q9, fun p hp => by rw [q10 _ (by omega) (by omega), q8 _ (by omega) (by omega)]; exact q1.2 p hp⟩ (lok_ins hlk (by show (S 0).1 - 1 < 20; omega) hq5 hfr)) (hh.trans (fun a ha => ⟨(q10 a (by omega) (by omega)).trans ((q8 a (by omega) (by omega)).trans (q6 a (by omega) (by omega) (by omega) (by omega))), rfl, rfl⟩)) (trc_0 hc39) rfl
                · (first | rw [bI_0, Bool.not_eq_false] at hc129 | rw [bI_0] at hc129 | rw [show (0 : Int32) = nI 0 from rfl, nI_eq (by omega) (by omega)] at hc129 | skip)
                  have hbad : (fitF F m p && (fup (hitp (S 0).2.1 p d ((S 0).2.1 i).2.2.2) 0 (S 0).1).isNone) = false := by
                    first
                      | (have e : fitF F m p = false := hc117; rw [e]; rfl)
                      | (have e : (fup (hitp (S 0).2.1 p d ((S 0).2.1 i).2.2.2) 0 (S 0).1).isNone = false := hc129; rw [e, Bool.and_false])
                  refine v_aload_0 dX11_pass_132 ?_
                  refine v_iconst (v := nI 5) dX11_pass_133 (by decide) ?_
                  refine u_callV_1 dX11_pass_134 ml_X11_78 mv_X11_refuse (by first | assumption | rfl | exact led_1 (by assumption) | exact led_2 (by assumption) | exact bk_m (by assumption) (by first | assumption | omega) | exact bk_p (by assumption) (by first | assumption | omega) | exact bk_o (by assumption) (by first | assumption | omega) | exact bk_s (by assumption) (by first | assumption | omega) | exact bk_1 (by assumption) | exact bk_2 (by assumption) | exact bk_3 (by assumption) | exact bk_4 (by assumption) | exact bk_5 (by assumption) | exact bk_6 (by assumption) | exact bk_7 (by assumption) | exact bk_8 (by assumption) | exact sh_ring _ (by first | assumption | omega) | exact sh_imgs _ (by first | assumption | omega)) (by decide) rfl (by decide) (Nat.le_of_ble_eq_true rfl) (c_X11_refuse ?_)
                  refine v_zret dX11_pass_137 (by first | rfl | exact bI_n _) rfl rfl rfl rfl ?_
                  have hk : k_pass F (S 0) (nI m) (nI d) (nI p) = 5 := by rw [k_pass, if_pos hc39, em, ed, ep, hfd]; simp only; rw [if_neg hnr, if_neg (by rw [hbad]; decide)]
                  exact (hQ0 (by rw [hk]; decide)).fin (cb_tr h (by decide) (by decide)) (hh.trans (hi_ui (by decide))) hk.symm rfl
            · (try rw [nI_leI (by omega) (by omega)] at hc90)
              refine v_aload_0 dX11_pass_93 ?_
              refine v_iconst (v := nI 3) dX11_pass_94 (by decide) ?_
              refine u_callV_1 dX11_pass_95 ml_X11_78 mv_X11_refuse (by first | assumption | rfl | exact led_1 (by assumption) | exact led_2 (by assumption) | exact bk_m (by assumption) (by first | assumption | omega) | exact bk_p (by assumption) (by first | assumption | omega) | exact bk_o (by assumption) (by first | assumption | omega) | exact bk_s (by assumption) (by first | assumption | omega) | exact bk_1 (by assumption) | exact bk_2 (by assumption) | exact bk_3 (by assumption) | exact bk_4 (by assumption) | exact bk_5 (by assumption) | exact bk_6 (by assumption) | exact bk_7 (by assumption) | exact bk_8 (by assumption) | exact sh_ring _ (by first | assumption | omega) | exact sh_imgs _ (by first | assumption | omega)) (by decide) rfl (by decide) (Nat.le_of_ble_eq_true rfl) (c_X11_refuse ?_)
              refine v_zret dX11_pass_98 (by first | rfl | exact bI_n _) rfl rfl rfl rfl ?_
              have hk : k_pass F (S 0) (nI m) (nI d) (nI p) = 3 := by rw [k_pass, if_pos hc39, em, ed, ep, hfd]; simp only; rw [if_pos ⟨of_decide_eq_true hc79, by omega⟩]
              exact (hQ0 (by rw [hk]; decide)).fin (cb_tr h (by decide) (by decide)) (hh.trans (hi_ui (by decide))) hk.symm rfl
        · (first | rw [show (0 : Int32) = nI 0 from rfl, nI_ltI (by omega) (by omega)] at hc64 | rw [show (0 : Int32) = nI 0 from rfl, nI_leI (by omega) (by omega)] at hc64 | skip)
          exact absurd (Nat.zero_le i) hc64
    · (first | rw [bI_0, Bool.not_eq_false] at hc39 | rw [bI_0] at hc39 | rw [show (0 : Int32) = nI 0 from rfl, nI_eq (by omega) (by omega)] at hc39 | skip)
      refine v_iconst (v := nI 0) dX11_pass_42 (by decide) ?_
      refine v_zret dX11_pass_43 (by first | rfl | exact bI_n _) rfl rfl rfl rfl ?_
      have hk : k_pass F (S 0) x y z = trc (inb x (F 2) && inb z (F 3)) (ind y (F 0)) := by rw [k_pass, if_neg (by rw [hc39]; decide)]
      exact (hQ0 (by rw [hk]; exact trc_n0 hc39)).fin h hh hk.symm rfl
  refine v_aload_0 dX11_pass_0 ?_
  refine v_aload_0 dX11_pass_1 ?_
  refine u_getR dX11_pass_2 gf_X11_29 (by first | assumption | rfl | exact led_1 (by assumption) | exact led_2 (by assumption) | exact bk_m (by assumption) (by first | assumption | omega) | exact bk_p (by assumption) (by first | assumption | omega) | exact bk_o (by assumption) (by first | assumption | omega) | exact bk_s (by assumption) (by first | assumption | omega) | exact bk_1 (by assumption) | exact bk_2 (by assumption) | exact bk_3 (by assumption) | exact bk_4 (by assumption) | exact bk_5 (by assumption) | exact bk_6 (by assumption) | exact bk_7 (by assumption) | exact bk_8 (by assumption) | exact sh_ring _ (by first | assumption | omega) | exact sh_imgs _ (by first | assumption | omega)) (by assumption) ?_
  refine v_iload_1 dX11_pass_5 ?_
  refine u_callV_1 dX11_pass_6 ml_X11_96 mv_X0_hasMask (by first | assumption | rfl | exact led_1 (by assumption) | exact led_2 (by assumption) | exact bk_m (by assumption) (by first | assumption | omega) | exact bk_p (by assumption) (by first | assumption | omega) | exact bk_o (by assumption) (by first | assumption | omega) | exact bk_s (by assumption) (by first | assumption | omega) | exact bk_1 (by assumption) | exact bk_2 (by assumption) | exact bk_3 (by assumption) | exact bk_4 (by assumption) | exact bk_5 (by assumption) | exact bk_6 (by assumption) | exact bk_7 (by assumption) | exact bk_8 (by assumption) | exact sh_ring _ (by first | assumption | omega) | exact sh_imgs _ (by first | assumption | omega)) (by decide) rfl (by decide) (Nat.le_of_ble_eq_true rfl) (c_X0_hasMask hB hF ?_)
  refine v_if_eq (tgt := 27) dX11_pass_9 (by decide) (fun hc9 => ?_) (fun hc9 => ?_)
  · (first | rw [bI_0, Bool.not_eq_false] at hc9 | rw [bI_0] at hc9 | rw [show (0 : Int32) = nI 0 from rfl, nI_eq (by omega) (by omega)] at hc9 | skip)
    refine v_iconst (v := nI 0) dX11_pass_27 (by decide) ?_
    have e : (inb x (F 2) && inb z (F 3)) = false := by
      simp only [hc9, dle_f, dle_t, dlt_f, dlt_t, not_false_eq_true, Bool.and_true, Bool.and_false, Bool.true_and, Bool.false_and]
    rw [e] at cut
    exact cut
  · (first | rw [bI_0, Bool.not_eq_false] at hc9 | rw [bI_0] at hc9 | rw [show (0 : Int32) = nI 0 from rfl, nI_eq (by omega) (by omega)] at hc9 | skip)
    refine v_aload_0 dX11_pass_12 ?_
    refine u_getR dX11_pass_13 gf_X11_29 (by first | assumption | rfl | exact led_1 (by assumption) | exact led_2 (by assumption) | exact bk_m (by assumption) (by first | assumption | omega) | exact bk_p (by assumption) (by first | assumption | omega) | exact bk_o (by assumption) (by first | assumption | omega) | exact bk_s (by assumption) (by first | assumption | omega) | exact bk_1 (by assumption) | exact bk_2 (by assumption) | exact bk_3 (by assumption) | exact bk_4 (by assumption) | exact bk_5 (by assumption) | exact bk_6 (by assumption) | exact bk_7 (by assumption) | exact bk_8 (by assumption) | exact sh_ring _ (by first | assumption | omega) | exact sh_imgs _ (by first | assumption | omega)) (by assumption) ?_
    refine v_iload_3 dX11_pass_16 ?_
    refine u_callV_1 dX11_pass_17 ml_X11_99 mv_X0_hasPerson (by first | assumption | rfl | exact led_1 (by assumption) | exact led_2 (by assumption) | exact bk_m (by assumption) (by first | assumption | omega) | exact bk_p (by assumption) (by first | assumption | omega) | exact bk_o (by assumption) (by first | assumption | omega) | exact bk_s (by assumption) (by first | assumption | omega) | exact bk_1 (by assumption) | exact bk_2 (by assumption) | exact bk_3 (by assumption) | exact bk_4 (by assumption) | exact bk_5 (by assumption) | exact bk_6 (by assumption) | exact bk_7 (by assumption) | exact bk_8 (by assumption) | exact sh_ring _ (by first | assumption | omega) | exact sh_imgs _ (by first | assumption | omega)) (by decide) rfl (by decide) (Nat.le_of_ble_eq_true rfl) (c_X0_hasPerson hB hF ?_)
    refine v_if_eq (tgt := 27) dX11_pass_20 (by decide) (fun hc20 => ?_) (fun hc20 => ?_)
    · (first | rw [bI_0, Bool.not_eq_false] at hc20 | rw [bI_0] at hc20 | rw [show (0 : Int32) = nI 0 from rfl, nI_eq (by omega) (by omega)] at hc20 | skip)
      refine v_iconst (v := nI 0) dX11_pass_27 (by decide) ?_
      have e : (inb x (F 2) && inb z (F 3)) = false := by
        simp only [hc9, hc20, dle_f, dle_t, dlt_f, dlt_t, not_false_eq_true, Bool.and_true, Bool.and_false, Bool.true_and, Bool.false_and]
      rw [e] at cut
      exact cut
    · (first | rw [bI_0, Bool.not_eq_false] at hc20 | rw [bI_0] at hc20 | rw [show (0 : Int32) = nI 0 from rfl, nI_eq (by omega) (by omega)] at hc20 | skip)
      refine v_iconst (v := nI 1) dX11_pass_23 (by decide) ?_
      refine v_goto (tgt := 28) dX11_pass_24 (by decide) ?_
      have e : (inb x (F 2) && inb z (F 3)) = true := by
        simp only [hc9, hc20, dle_f, dle_t, dlt_f, dlt_t, not_false_eq_true, Bool.and_true, Bool.and_false, Bool.true_and, Bool.false_and]
      rw [e] at cut
      exact cut
end
