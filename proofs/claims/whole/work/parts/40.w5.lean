section
variable {b : Nat} {ad : Nat → Nat} {I : HI} {L : HL} {R : HR} {Q : QT} {a B n d : Nat} {F : bkF} {g : lends} {br : Nat → Nat} {pg : Nat → Bool} {c : Nat → Nat}
theorem c_X10_look (hR : RO R) (hB : SH B = .inl 0) (hF : BkI I B F) (hO : FOK F) (ha : SH a = .inl 2) (ha2 : ∀ x, x = a ∨ x = a + 1 → x ≠ 150 ∧ x ≠ 151 ∧ x ≠ 152 ∧ x ≠ 153) (hL : LedI I a n g) (hps : pers F n g) (hd : d < 2 ^ 31) (hQ : ∀ J, NtI J F n g d → J 150 1 = eP (fls F n g d) → (∀ z, fls F n g d = some z → WcI J (F 2) (pgk F n g d (andn (ofd F d) z) (F 5)) (cdk F n g d (andn (ofd F d) z) (F 5))) → (∀ x, x ≠ 150 → x ≠ 151 → x ≠ 152 → x ≠ 153 → x ≠ 154 → x ≠ 155 → J x = I x) → (∀ j, j ≠ 1 → j ≠ 2 → J 150 j = I 150 j) → Q none SH J L (ur R 150 0 (some B))) : KK 8 mX10_look b ad [.ref (b + 150), .ref (b + B), .ref (b + a), .int (nI d)] I L R Q := by
  obtain ⟨k0, k1, k2, k3, k4, k5, k6, -⟩ := id hO
  have h256 : 2 ^ F 5 ≤ 2 ^ 8 := Nat.pow_le_pow_right (by decide) k5
  refine K.of (M := mX10_look) (lv := [some (.ref (b + 150)), some (.ref (b + B)), some (.ref (b + a)), some (.int (nI d)), none, none]) (by decide) (Nat.le_of_ble_eq_true rfl) rfl ?_
  refine v_aload_0 dX10_look_0 ?_
  refine v_aload_1 dX10_look_1 ?_
  refine u_putR dX10_look_2 gf_X10_31 (by first | assumption | rfl | exact led_1 (by assumption) | exact led_2 (by assumption) | exact bk_m (by assumption) (by first | assumption | omega) | exact bk_p (by assumption) (by first | assumption | omega) | exact bk_o (by assumption) (by first | assumption | omega) | exact bk_s (by assumption) (by first | assumption | omega) | exact bk_1 (by assumption) | exact bk_2 (by assumption) | exact bk_3 (by assumption) | exact bk_4 (by assumption) | exact bk_5 (by assumption) | exact bk_6 (by assumption) | exact bk_7 (by assumption) | exact bk_8 (by assumption) | exact sh_ring _ (by first | assumption | omega) | exact sh_imgs _ (by first | assumption | omega)) (fun _ => rfl) (fun _ => rfl) rfl ?_
  have hb : (ur R 150 0 (some B)) 150 0 = some B := by simp [ur, va_up]
  have hR := RO.up hR (a := 150) (k := 0) (v := some B) (by omega)
  have hF0 := hF
  have fin : ∀ (f : Option Nat) (J : HI) {z4 z5 : Option Value}, NtI J F n g d → J 150 1 = eP f → (∀ z, f = some z → z < 256) → (∀ x, x ≠ 150 → x ≠ 151 → x ≠ 152 → x ≠ 153 → x ≠ 154 → x ≠ 155 → J x = I x) → (∀ j, j ≠ 1 → j ≠ 2 → J 150 j = I 150 j) → f = fls F n g d → VV yX10_look cX10_look 6 none 8 Q b ad 88 [some (.ref (b + 150)), some (.ref (b + B)), some (.ref (b + a)), some (.int (nI d)), z4, z5] [] J L (ur R 150 0 (some B)) := by
    intro f J z4 z5 hN hf hz0 hfr hfr2 hEq
    have hF := BkI.fr hB hF0 hO (J := J) (fun x hx => hfr x (by omega) (by omega) (by omega) (by omega) (by omega) (by omega))
    refine v_aload_0 dX10_look_88 ?_
    refine u_getI dX10_look_89 gf_X10_39 (by first | assumption | rfl | exact led_1 (by assumption) | exact led_2 (by assumption) | exact bk_m (by assumption) (by first | assumption | omega) | exact bk_p (by assumption) (by first | assumption | omega) | exact bk_o (by assumption) (by first | assumption | omega) | exact bk_s (by assumption) (by first | assumption | omega) | exact bk_1 (by assumption) | exact bk_2 (by assumption) | exact bk_3 (by assumption) | exact bk_4 (by assumption) | exact bk_5 (by assumption) | exact bk_6 (by assumption) | exact bk_7 (by assumption) | exact bk_8 (by assumption) | exact sh_ring _ (by first | assumption | omega) | exact sh_imgs _ (by first | assumption | omega)) ?_
    rw [hf]
    refine v_if_lt (tgt := 110) dX10_look_92 (by decide) (fun hc92 => ?_) (fun hc92 => ?_)
    · (first | rw [show (0 : Int32) = nI 0 from rfl, nI_ltI (by omega) (by omega)] at hc92 | rw [show (0 : Int32) = nI 0 from rfl, nI_leI (by omega) (by omega)] at hc92 | skip)
      refine v_vret dX10_look_110 rfl rfl rfl rfl ?_
      cases f with
      | none =>
        exact hQ J hN (by rw [← hEq]; exact hf) (fun z h => by rw [← hEq] at h; cases h) hfr hfr2
      | some z => exact absurd hc92 (nI_pos (by have := hz0 z rfl; omega))
    · (first | rw [show (0 : Int32) = nI 0 from rfl, nI_ltI (by omega) (by omega)] at hc92 | rw [show (0 : Int32) = nI 0 from rfl, nI_leI (by omega) (by omega)] at hc92 | skip)
      cases f with
      | none => exact absurd (by decide) hc92
      | some z =>
        have hz := hz0 z rfl
        have hr256 : andn (ofd F d) z < 256 := Nat.lt_of_le_of_lt (andn_le _ _) (ofd_lt hO d)
        have hrd : ∀ s, s < F 5 → (andn (ofd F d) z).testBit s = true → F (129 + 5 * s) = d := fun s hs h => by
          rw [andn_bit (by omega), ofd_bit hs] at h
          simp only [Bool.and_eq_true, decide_eq_true_eq] at h
          exact h.1
        refine v_aload_0 dX10_look_95 ?_
        refine v_aload_0 dX10_look_96 ?_
        refine u_getI dX10_look_97 gf_X10_48 (by first | assumption | rfl | exact led_1 (by assumption) | exact led_2 (by assumption) | exact bk_m (by assumption) (by first | assumption | omega) | exact bk_p (by assumption) (by first | assumption | omega) | exact bk_o (by assumption) (by first | assumption | omega) | exact bk_s (by assumption) (by first | assumption | omega) | exact bk_1 (by assumption) | exact bk_2 (by assumption) | exact bk_3 (by assumption) | exact bk_4 (by assumption) | exact bk_5 (by assumption) | exact bk_6 (by assumption) | exact bk_7 (by assumption) | exact bk_8 (by assumption) | exact sh_ring _ (by first | assumption | omega) | exact sh_imgs _ (by first | assumption | omega)) ?_
        rw [hN.2.1]
        refine v_aload_0 dX10_look_100 ?_
        refine u_getI dX10_look_101 gf_X10_39 (by first | assumption | rfl | exact led_1 (by assumption) | exact led_2 (by assumption) | exact bk_m (by assumption) (by first | assumption | omega) | exact bk_p (by assumption) (by first | assumption | omega) | exact bk_o (by assumption) (by first | assumption | omega) | exact bk_s (by assumption) (by first | assumption | omega) | exact bk_1 (by assumption) | exact bk_2 (by assumption) | exact bk_3 (by assumption) | exact bk_4 (by assumption) | exact bk_5 (by assumption) | exact bk_6 (by assumption) | exact bk_7 (by assumption) | exact bk_8 (by assumption) | exact sh_ring _ (by first | assumption | omega) | exact sh_imgs _ (by first | assumption | omega)) ?_
        rw [hf]
        simp only [eP]
        refine v_iconst (v := -1) dX10_look_104 (by decide) ?_
        refine v_ixor dX10_look_105 ?_
        refine v_iand dX10_look_106 ?_
        rw [andn_I]
        refine u_callV_1 dX10_look_107 ml_X10_61 mv_X10_arrange (by first | assumption | rfl | exact led_1 (by assumption) | exact led_2 (by assumption) | exact bk_m (by assumption) (by first | assumption | omega) | exact bk_p (by assumption) (by first | assumption | omega) | exact bk_o (by assumption) (by first | assumption | omega) | exact bk_s (by assumption) (by first | assumption | omega) | exact bk_1 (by assumption) | exact bk_2 (by assumption) | exact bk_3 (by assumption) | exact bk_4 (by assumption) | exact bk_5 (by assumption) | exact bk_6 (by assumption) | exact bk_7 (by assumption) | exact bk_8 (by assumption) | exact sh_ring _ (by first | assumption | omega) | exact sh_imgs _ (by first | assumption | omega)) (by decide) rfl (by decide) (Nat.le_of_ble_eq_true rfl) (c_X10_arrange hR hB hb hF hO hN hps hr256 hrd (fun J2 hJ1 hJ2 => ?_))
        refine v_vret dX10_look_110 rfl rfl rfl rfl ?_
        have e150 := hJ2 150 (by decide) (by decide)
        refine hQ J2 ⟨fun m hm => ⟨by rw [hJ2 151 (by decide) (by decide)]; exact (hN.1 m hm).1, by rw [hJ2 152 (by decide) (by decide)]; exact (hN.1 m hm).2⟩, by rw [e150]; exact hN.2.1, fun s h1 h2 => by rw [hJ2 153 (by decide) (by decide)]; exact hN.2.2 s h1 h2⟩ (by rw [e150, ← hEq]; exact hf) (fun z2 h => by rw [← hEq] at h; cases h; exact hJ1) (fun x x0 x1 x2 x3 x4 x5 => by rw [hJ2 x x4 x5]; exact hfr x x0 x1 x2 x3 x4 x5) (fun j j1 j2 => by rw [e150]; exact hfr2 j j1 j2)
  have loop : ∀ (jj w : Nat) (f : Option Nat) (few : Nat) (J : HI), w + jj = 2 ^ F 5 → few ≤ 9 → NtI J F n g d → J 150 1 = eP f → (∀ z, f = some z → z < 256) → (∀ x, x ≠ 150 → x ≠ 151 → x ≠ 152 → x ≠ 153 → x ≠ 154 → x ≠ 155 → J x = I x) → (∀ j, j ≠ 1 → j ≠ 2 → J 150 j = I 150 j) → lkz F n g d w jj f few = fls F n g d → VV yX10_look cX10_look 6 none 8 Q b ad 24 [some (.ref (b + 150)), some (.ref (b + B)), some (.ref (b + a)), some (.int (nI d)), some (.int (nI few)), some (.int (nI w))] [] J L (ur R 150 0 (some B)) := by
    intro jj
    induction jj with
    | zero =>
      intro w f few J hij hfew hN hf hz0 hfr hfr2 hEq
      have hF := BkI.fr hB hF0 hO (J := J) (fun x hx => hfr x (by omega) (by omega) (by omega) (by omega) (by omega) (by omega))
      refine v_iload_5 dX10_look_24 ?_
      refine v_iconst (v := nI 1) dX10_look_26 (by decide) ?_
      refine v_aload_0 dX10_look_27 ?_
      refine u_getR dX10_look_28 gf_X10_31 (by first | assumption | rfl | exact led_1 (by assumption) | exact led_2 (by assumption) | exact bk_m (by assumption) (by first | assumption | omega) | exact bk_p (by assumption) (by first | assumption | omega) | exact bk_o (by assumption) (by first | assumption | omega) | exact bk_s (by assumption) (by first | assumption | omega) | exact bk_1 (by assumption) | exact bk_2 (by assumption) | exact bk_3 (by assumption) | exact bk_4 (by assumption) | exact bk_5 (by assumption) | exact bk_6 (by assumption) | exact bk_7 (by assumption) | exact bk_8 (by assumption) | exact sh_ring _ (by first | assumption | omega) | exact sh_imgs _ (by first | assumption | omega)) (by assumption) ?_
      refine u_getI dX10_look_31 gf_X10_43 (by first | assumption | rfl | exact led_1 (by assumption) | exact led_2 (by assumption) | exact bk_m (by assumption) (by first | assumption | omega) | exact bk_p (by assumption) (by first | assumption | omega) | exact bk_o (by assumption) (by first | assumption | omega) | exact bk_s (by assumption) (by first | assumption | omega) | exact bk_1 (by assumption) | exact bk_2 (by assumption) | exact bk_3 (by assumption) | exact bk_4 (by assumption) | exact bk_5 (by assumption) | exact bk_6 (by assumption) | exact bk_7 (by assumption) | exact bk_8 (by assumption) | exact sh_ring _ (by first | assumption | omega) | exact sh_imgs _ (by first | assumption | omega)) ?_
      (try rw [bx5 hF])
      refine v_ishl dX10_look_34 ?_
      rw [sh_n (by omega) (by omega), Nat.one_mul]
      refine v_icmp_ge (tgt := 88) dX10_look_35 (by decide) (fun hc35 => ?_) (fun hc35 => ?_)
      · (try rw [nI_leI (by omega) (by omega)] at hc35)
        simp only [lkz] at hEq
        exact fin f J hN hf hz0 hfr hfr2 hEq
      · (try rw [nI_leI (by omega) (by omega)] at hc35)
        exfalso; omega
    | succ jj ih =>
      intro w f few J hij hfew hN hf hz0 hfr hfr2 hEq
      have hF := BkI.fr hB hF0 hO (J := J) (fun x hx => hfr x (by omega) (by omega) (by omega) (by omega) (by omega) (by omega))
      have hw256 : w < 256 := by omega
      have hal := andn_le w (ofd F d)
      have hbc : bitc w ≤ 8 := cup_le _ 8 0
      refine v_iload_5 dX10_look_24 ?_
      refine v_iconst (v := nI 1) dX10_look_26 (by decide) ?_
      refine v_aload_0 dX10_look_27 ?_
      refine u_getR dX10_look_28 gf_X10_31 (by first | assumption | rfl | exact led_1 (by assumption) | exact led_2 (by assumption) | exact bk_m (by assumption) (by first | assumption | omega) | exact bk_p (by assumption) (by first | assumption | omega) | exact bk_o (by assumption) (by first | assumption | omega) | exact bk_s (by assumption) (by first | assumption | omega) | exact bk_1 (by assumption) | exact bk_2 (by assumption) | exact bk_3 (by assumption) | exact bk_4 (by assumption) | exact bk_5 (by assumption) | exact bk_6 (by assumption) | exact bk_7 (by assumption) | exact bk_8 (by assumption) | exact sh_ring _ (by first | assumption | omega) | exact sh_imgs _ (by first | assumption | omega)) (by assumption) ?_
      refine u_getI dX10_look_31 gf_X10_43 (by first | assumption | rfl | exact led_1 (by assumption) | exact led_2 (by assumption) | exact bk_m (by assumption) (by first | assumption | omega) | exact bk_p (by assumption) (by first | assumption | omega) | exact bk_o (by assumption) (by first | assumption | omega) | exact bk_s (by assumption) (by first | assumption | omega) | exact bk_1 (by assumption) | exact bk_2 (by assumption) | exact bk_3 (by assumption) | exact bk_4 (by assumption) | exact bk_5 (by assumption) | exact bk_6 (by assumption) | exact bk_7 (by assumption) | exact bk_8 (by assumption) | exact sh_ring _ (by first | assumption | omega) | exact sh_imgs _ (by first | assumption | omega)) ?_
      (try rw [bx5 hF])
      refine v_ishl dX10_look_34 ?_
      rw [sh_n (by omega) (by omega), Nat.one_mul]
      refine v_icmp_ge (tgt := 88) dX10_look_35 (by decide) (fun hc35 => ?_) (fun hc35 => ?_)
      · (try rw [nI_leI (by omega) (by omega)] at hc35)
        exfalso; omega
      · (try rw [nI_leI (by omega) (by omega)] at hc35)
        refine v_iload_5 dX10_look_38 ?_
        refine v_aload_0 dX10_look_40 ?_
        refine u_getI dX10_look_41 gf_X10_48 (by first | assumption | rfl | exact led_1 (by assumption) | exact led_2 (by assumption) | exact bk_m (by assumption) (by first | assumption | omega) | exact bk_p (by assumption) (by first | assumption | omega) | exact bk_o (by assumption) (by first | assumption | omega) | exact bk_s (by assumption) (by first | assumption | omega) | exact bk_1 (by assumption) | exact bk_2 (by assumption) | exact bk_3 (by assumption) | exact bk_4 (by assumption) | exact bk_5 (by assumption) | exact bk_6 (by assumption) | exact bk_7 (by assumption) | exact bk_8 (by assumption) | exact sh_ring _ (by first | assumption | omega) | exact sh_imgs _ (by first | assumption | omega)) ?_
        rw [hN.2.1]
        refine v_iconst (v := -1) dX10_look_44 (by decide) ?_
        refine v_ixor dX10_look_45 ?_
        refine v_iand dX10_look_46 ?_
        rw [andn_I]
        refine v_if_ne (tgt := 82) dX10_look_47 (by decide) (fun hc47 => ?_) (fun hc47 => ?_)
        · (first | rw [bI_0, Bool.not_eq_false] at hc47 | rw [bI_0] at hc47 | rw [show (0 : Int32) = nI 0 from rfl, nI_eq (by omega) (by omega)] at hc47 | skip)
          refine v_iinc_5 (v := 1) rfl dX10_look_82 (by decide) ?_
          refine v_goto (tgt := 24) dX10_look_85 (by decide) ?_
          rw [← nI_succ]
          first
            | (have e : ¬ andn w (ofd F d) = 0 := hc47; exact ih (w + 1) f few J (by omega) hfew hN hf hz0 hfr hfr2 (by simp only [lkz, if_neg e] at hEq; exact hEq))
            | (have e : few ≤ bitc w := hc57; exact ih (w + 1) f few J (by omega) hfew hN hf hz0 hfr hfr2 (by simp only [lkz, if_pos hc47, if_neg (Nat.not_lt.mpr e)] at hEq; exact hEq))
        · (first | rw [bI_0, Bool.not_eq_false] at hc47 | rw [bI_0] at hc47 | rw [show (0 : Int32) = nI 0 from rfl, nI_eq (by omega) (by omega)] at hc47 | skip)
          refine v_iload_5 dX10_look_50 ?_
          refine u_callS_1 dX10_look_52 ml_X10_51 ms_J6_bitCount_0f7a4 (by decide) (Nat.le_of_ble_eq_true rfl) (c_bitCount (by omega) ?_)
          refine v_iload_4 dX10_look_55 ?_
          refine v_icmp_ge (tgt := 82) dX10_look_57 (by decide) (fun hc57 => ?_) (fun hc57 => ?_)
          · (try rw [nI_leI (by omega) (by omega)] at hc57)
            refine v_iinc_5 (v := 1) rfl dX10_look_82 (by decide) ?_
            refine v_goto (tgt := 24) dX10_look_85 (by decide) ?_
            rw [← nI_succ]
            first
              | (have e : ¬ andn w (ofd F d) = 0 := hc47; exact ih (w + 1) f few J (by omega) hfew hN hf hz0 hfr hfr2 (by simp only [lkz, if_neg e] at hEq; exact hEq))
              | (have e : few ≤ bitc w := hc57; exact ih (w + 1) f few J (by omega) hfew hN hf hz0 hfr hfr2 (by simp only [lkz, if_pos hc47, if_neg (Nat.not_lt.mpr e)] at hEq; exact hEq))
          · (try rw [nI_leI (by omega) (by omega)] at hc57)
            refine v_aload_0 dX10_look_60 ?_
            refine v_iload_5 dX10_look_61 ?_
            refine u_callV_1 dX10_look_63 ml_X10_57 mv_X10_holdsWithout rfl (by decide) rfl (by decide) (Nat.le_of_ble_eq_true rfl) (c_X10_holdsWithout hR hB hb hF hO hN hps (fun htw => ?_) (fun htw J2 hW2 hf2 => ?_))
            · refine v_if_eq (tgt := 82) dX10_look_66 (by decide) (fun hc66 => ?_) (fun hc66 => absurd rfl hc66)
              refine v_iinc_5 (v := 1) rfl dX10_look_82 (by decide) ?_
              refine v_goto (tgt := 24) dX10_look_85 (by decide) ?_
              rw [← nI_succ]
              exact ih (w + 1) f few J (by omega) hfew hN hf hz0 hfr hfr2 (by simp only [lkz, if_pos hc47, if_pos (Nat.not_le.mp hc57), if_neg (show ¬ hold F n g d w = true from by simp only [hold, htw, Bool.not_true, Bool.false_and]; decide)] at hEq; exact hEq)
            · have e150 := hf2 150 (by decide) (by decide)
              have hN2 : NtI J2 F n g d := ⟨fun m hm => ⟨by rw [hf2 151 (by decide) (by decide)]; exact (hN.1 m hm).1, by rw [hf2 152 (by decide) (by decide)]; exact (hN.1 m hm).2⟩, by rw [e150]; exact hN.2.1, fun s h1 h2 => by rw [hf2 153 (by decide) (by decide)]; exact hN.2.2 s h1 h2⟩
              have hfrJ : ∀ x, x ≠ 150 → x ≠ 151 → x ≠ 152 → x ≠ 153 → x ≠ 154 → x ≠ 155 → J2 x = I x := fun x x0 x1 x2 x3 x4 x5 => by rw [hf2 x x4 x5]; exact hfr x x0 x1 x2 x3 x4 x5
              have hfrJ2 : ∀ j, j ≠ 1 → j ≠ 2 → J2 150 j = I 150 j := fun j j1 j2 => by rw [e150]; exact hfr2 j j1 j2
              refine v_if_eq (tgt := 82) dX10_look_66 (by decide) (fun hc66 => ?_) (fun hc66 => ?_)
              · (first | rw [bI_0, Bool.not_eq_false] at hc66 | rw [bI_0] at hc66 | rw [show (0 : Int32) = nI 0 from rfl, nI_eq (by omega) (by omega)] at hc66 | skip)
                refine v_iinc_5 (v := 1) rfl dX10_look_82 (by decide) ?_
                refine v_goto (tgt := 24) dX10_look_85 (by decide) ?_
                first
                  | (have e : decide (0 < wys (F 3) (pgk F n g d (andn (ofd F d) w) (F 5)) (cdk F n g d (andn (ofd F d) w) (F 5)) (F 2) 0 0) = false := hc66
                     rw [← nI_succ]
                     exact ih (w + 1) f few J2 (by omega) hfew hN2 (by rw [e150]; exact hf) hz0 hfrJ hfrJ2 (by simp only [lkz, if_pos hc47, if_pos (Nat.not_le.mp hc57), if_neg (show ¬ hold F n g d w = true from by simp only [hold, e, Bool.and_false]; decide)] at hEq; exact hEq))
                  | (have e : decide (0 < wys (F 3) (pgk F n g d (andn (ofd F d) w) (F 5)) (cdk F n g d (andn (ofd F d) w) (F 5)) (F 2) 0 0) = true := hc66
                     rw [← nI_succ]
                     exact ih (w + 1) (some w) (bitc w) _ (by omega) (by omega) ⟨fun m hm => ⟨by rw [ui_ne (by decide)]; exact (hN2.1 m hm).1, by rw [ui_ne (by decide)]; exact (hN2.1 m hm).2⟩, by rw [ui_o (by decide)]; exact hN2.2.1, fun s h1 h2 => by rw [ui_ne (by decide)]; exact hN2.2.2 s h1 h2⟩ (by rw [ui_s]; rfl) (fun z h => by cases h; omega) (fun x x0 x1 x2 x3 x4 x5 => by rw [ui_ne x0]; exact hfrJ x x0 x1 x2 x3 x4 x5) (fun j j1 j2 => by rw [ui_o j1]; exact hfrJ2 j j1 j2) (by simp only [lkz, if_pos hc47, if_pos (Nat.not_le.mp hc57), if_pos (show hold F n g d w = true from by simp only [hold, htw, e, Bool.not_false, Bool.true_and])] at hEq; exact hEq))
              · (first | rw [bI_0, Bool.not_eq_false] at hc66 | rw [bI_0] at hc66 | rw [show (0 : Int32) = nI 0 from rfl, nI_eq (by omega) (by omega)] at hc66 | skip)
                refine v_aload_0 dX10_look_69 ?_
                refine v_iload_5 dX10_look_70 ?_
                refine u_putI dX10_look_72 gf_X10_39 (by first | assumption | rfl | exact led_1 (by assumption) | exact led_2 (by assumption) | exact bk_m (by assumption) (by first | assumption | omega) | exact bk_p (by assumption) (by first | assumption | omega) | exact bk_o (by assumption) (by first | assumption | omega) | exact bk_s (by assumption) (by first | assumption | omega) | exact bk_1 (by assumption) | exact bk_2 (by assumption) | exact bk_3 (by assumption) | exact bk_4 (by assumption) | exact bk_5 (by assumption) | exact bk_6 (by assumption) | exact bk_7 (by assumption) | exact bk_8 (by assumption) | exact sh_ring _ (by first | assumption | omega) | exact sh_imgs _ (by first | assumption | omega)) rfl rfl rfl ?_
                refine v_iload_5 dX10_look_75 ?_
                refine u_callS_1 dX10_look_77 ml_X10_51 ms_J6_bitCount_0f7a4 (by decide) (Nat.le_of_ble_eq_true rfl) (c_bitCount (by omega) ?_)
                refine v_istore_4 rfl dX10_look_80 ?_
                refine v_iinc_5 (v := 1) rfl dX10_look_82 (by decide) ?_
                refine v_goto (tgt := 24) dX10_look_85 (by decide) ?_
                first
                  | (have e : decide (0 < wys (F 3) (pgk F n g d (andn (ofd F d) w) (F 5)) (cdk F n g d (andn (ofd F d) w) (F 5)) (F 2) 0 0) = false := hc66
                     rw [← nI_succ]
                     exact ih (w + 1) f few J2 (by omega) hfew hN2 (by rw [e150]; exact hf) hz0 hfrJ hfrJ2 (by simp only [lkz, if_pos hc47, if_pos (Nat.not_le.mp hc57), if_neg (show ¬ hold F n g d w = true from by simp only [hold, e, Bool.and_false]; decide)] at hEq; exact hEq))
                  | (have e : decide (0 < wys (F 3) (pgk F n g d (andn (ofd F d) w) (F 5)) (cdk F n g d (andn (ofd F d) w) (F 5)) (F 2) 0 0) = true := hc66
                     rw [← nI_succ]
                     exact ih (w + 1) (some w) (bitc w) _ (by omega) (by omega) ⟨fun m hm => ⟨by rw [ui_ne (by decide)]; exact (hN2.1 m hm).1, by rw [ui_ne (by decide)]; exact (hN2.1 m hm).2⟩, by rw [ui_o (by decide)]; exact hN2.2.1, fun s h1 h2 => by rw [ui_ne (by decide)]; exact hN2.2.2 s h1 h2⟩ (by rw [ui_s]; rfl) (fun z h => by cases h; omega) (fun x x0 x1 x2 x3 x4 x5 => by rw [ui_ne x0]; exact hfrJ x x0 x1 x2 x3 x4 x5) (fun j j1 j2 => by rw [ui_o j1]; exact hfrJ2 j j1 j2) (by simp only [lkz, if_pos hc47, if_pos (Nat.not_le.mp hc57), if_pos (show hold F n g d w = true from by simp only [hold, htw, e, Bool.not_false, Bool.true_and])] at hEq; exact hEq))
  refine v_aload_0 dX10_look_5 ?_
  refine v_aload_2 dX10_look_6 ?_
  refine v_iload_3 dX10_look_7 ?_
  refine u_callV_2 dX10_look_8 ml_X10_35 mv_X10_note (by first | assumption | rfl | exact led_1 (by assumption) | exact led_2 (by assumption) | exact bk_m (by assumption) (by first | assumption | omega) | exact bk_p (by assumption) (by first | assumption | omega) | exact bk_o (by assumption) (by first | assumption | omega) | exact bk_s (by assumption) (by first | assumption | omega) | exact bk_1 (by assumption) | exact bk_2 (by assumption) | exact bk_3 (by assumption) | exact bk_4 (by assumption) | exact bk_5 (by assumption) | exact bk_6 (by assumption) | exact bk_7 (by assumption) | exact bk_8 (by assumption) | exact sh_ring _ (by first | assumption | omega) | exact sh_imgs _ (by first | assumption | omega)) (by decide) rfl (by decide) (Nat.le_of_ble_eq_true rfl) (c_X10_note hR hB hb hF hO ha ha2 hL hps hd (fun J hN hj1 hj2 => ?_))
  refine v_aload_0 dX10_look_11 ?_
  refine v_bipush (v := -2) dX10_look_12 (by decide) ?_
  refine u_putI dX10_look_14 gf_X10_39 (by first | assumption | rfl | exact led_1 (by assumption) | exact led_2 (by assumption) | exact bk_m (by assumption) (by first | assumption | omega) | exact bk_p (by assumption) (by first | assumption | omega) | exact bk_o (by assumption) (by first | assumption | omega) | exact bk_s (by assumption) (by first | assumption | omega) | exact bk_1 (by assumption) | exact bk_2 (by assumption) | exact bk_3 (by assumption) | exact bk_4 (by assumption) | exact bk_5 (by assumption) | exact bk_6 (by assumption) | exact bk_7 (by assumption) | exact bk_8 (by assumption) | exact sh_ring _ (by first | assumption | omega) | exact sh_imgs _ (by first | assumption | omega)) rfl rfl rfl ?_
  refine v_bipush (v := nI 9) dX10_look_17 (by decide) ?_
  refine v_istore_4 rfl dX10_look_19 ?_
  refine v_iconst (v := nI 0) dX10_look_21 (by decide) ?_
  refine v_istore_5 rfl dX10_look_22 ?_
  exact loop (2 ^ F 5) 0 none 9 _ (by omega) (by omega) ⟨fun m hm => ⟨by rw [ui_ne (by decide)]; exact (hN.1 m hm).1, by rw [ui_ne (by decide)]; exact (hN.1 m hm).2⟩, by rw [ui_o (by decide)]; exact hN.2.1, fun s h1 h2 => by rw [ui_ne (by decide)]; exact hN.2.2 s h1 h2⟩ (by rw [ui_s]; rfl) (fun z h => by cases h) (fun x x0 x1 x2 x3 x4 x5 => by rw [ui_ne x0]; exact hj1 x x0 x1 x2 x3) (fun j j1 j2 => by rw [ui_o j1]; exact hj2 j j2) rfl
end
