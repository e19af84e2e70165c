section
variable {b : Nat} {ad : Nat → Nat} {I : HI} {L : HL} {R : HR} {Q : QT} {a B n : Nat} {F : bkF} {g : lends} {br : Nat → Nat}
theorem c_X0_earningsOf {od : Option Nat} {d : Nat} (hR : RO R) (hB : SH B = .inl 0) (hF : BkI I B F) (hO : FOK F) (ha : SH a = .inl 2) (hL : LedI I a n g) (hbr : BrI I a br) (hps : pers F n g) (hod : ∀ p, od = some p → p < F 3) (hd : d < 2 ^ 31) (hQ : Q (some (.int (sui (earnf F n g br od d) 0 (F 4) 0))) SH I L R) : KK 6 mX0_earningsOf b ad [.ref (b + B), .int (eP od), .int (nI d), .ref (b + a)] I L R Q := by
  obtain ⟨k0, k1, k2, k3, k4, k5, k6, -⟩ := id hO
  have hb1 : ∀ {o p : Nat}, owe F n g o = some p → p < 2 ^ 31 := fun h => by have := owe_lt hps h; omega
  have hb2 : ∀ p, od = some p → p < 2 ^ 31 := fun p h => by have := hod p h; omega
  refine K.of (M := mX0_earningsOf) (lv := [some (.ref (b + B)), some (.int (eP od)), some (.int (nI d)), some (.ref (b + a)), none, none]) (by decide) (Nat.le_of_ble_eq_true rfl) rfl ?_
  have loop : ∀ (j i : Nat) (acc : Int32), i + j = F 4 → Q (some (.int (sui (earnf F n g br od d) i j acc))) SH I L R → VV yX0_earningsOf cX0_earningsOf 6 (some .int) 6 Q b ad 6 [some (.ref (b + B)), some (.int (eP od)), some (.int (nI d)), some (.ref (b + a)), some (.int acc), some (.int (nI i))] [] I L R := by
    intro j
    induction j with
    | zero =>
      intro i acc hij hQ
      refine v_iload_5 dX0_earningsOf_6 ?_
      refine v_aload_0 dX0_earningsOf_8 ?_
      refine u_getI dX0_earningsOf_9 gf_X0_69 (by first | assumption | exact led_1 (by assumption) | exact led_2 (by assumption) | exact bk_m (by assumption) (by first | assumption | omega) | exact bk_p (by assumption) (by first | assumption | omega) | exact bk_o (by assumption) (by first | assumption | omega) | exact bk_s (by assumption) (by first | assumption | omega) | exact bk_1 (by assumption) | exact bk_2 (by assumption) | exact bk_3 (by assumption) | exact bk_4 (by assumption) | exact bk_5 (by assumption) | exact bk_6 (by assumption) | exact bk_7 (by assumption) | exact bk_8 (by assumption) | rfl) ?_
      (try rw [bx4 hF])
      refine v_icmp_ge (tgt := 82) dX0_earningsOf_12 (by decide) (fun hc12 => ?_) (fun hc12 => ?_)
      · (try rw [nI_leI (by omega) (by omega)] at hc12)
        refine v_iload_4 dX0_earningsOf_82 ?_
        refine v_iret dX0_earningsOf_84 rfl rfl rfl rfl ?_
        exact hQ
      · (try rw [nI_leI (by omega) (by omega)] at hc12)
        exfalso; omega
    | succ j ih =>
      intro i acc hij hQ
      obtain ⟨r1, r2, r3, r4, r5, r6, r7⟩ := fk_o hO (show i < F 4 by omega)
      refine v_iload_5 dX0_earningsOf_6 ?_
      refine v_aload_0 dX0_earningsOf_8 ?_
      refine u_getI dX0_earningsOf_9 gf_X0_69 (by first | assumption | exact led_1 (by assumption) | exact led_2 (by assumption) | exact bk_m (by assumption) (by first | assumption | omega) | exact bk_p (by assumption) (by first | assumption | omega) | exact bk_o (by assumption) (by first | assumption | omega) | exact bk_s (by assumption) (by first | assumption | omega) | exact bk_1 (by assumption) | exact bk_2 (by assumption) | exact bk_3 (by assumption) | exact bk_4 (by assumption) | exact bk_5 (by assumption) | exact bk_6 (by assumption) | exact bk_7 (by assumption) | exact bk_8 (by assumption) | rfl) ?_
      (try rw [bx4 hF])
      refine v_icmp_ge (tgt := 82) dX0_earningsOf_12 (by decide) (fun hc12 => ?_) (fun hc12 => ?_)
      · (try rw [nI_leI (by omega) (by omega)] at hc12)
        exfalso; omega
      · (try rw [nI_leI (by omega) (by omega)] at hc12)
        refine v_aload_0 dX0_earningsOf_15 ?_
        refine u_getR dX0_earningsOf_16 gf_X0_25 (by first | assumption | exact led_1 (by assumption) | exact led_2 (by assumption) | exact bk_m (by assumption) (by first | assumption | omega) | exact bk_p (by assumption) (by first | assumption | omega) | exact bk_o (by assumption) (by first | assumption | omega) | exact bk_s (by assumption) (by first | assumption | omega) | exact bk_1 (by assumption) | exact bk_2 (by assumption) | exact bk_3 (by assumption) | exact bk_4 (by assumption) | exact bk_5 (by assumption) | exact bk_6 (by assumption) | exact bk_7 (by assumption) | exact bk_8 (by assumption) | rfl) (ro_X0_9 (by assumption) (by assumption)) ?_
        refine v_iload_5 dX0_earningsOf_19 ?_
        refine u_aald dX0_earningsOf_21 (by first | assumption | exact led_1 (by assumption) | exact led_2 (by assumption) | exact bk_m (by assumption) (by first | assumption | omega) | exact bk_p (by assumption) (by first | assumption | omega) | exact bk_o (by assumption) (by first | assumption | omega) | exact bk_s (by assumption) (by first | assumption | omega) | exact bk_1 (by assumption) | exact bk_2 (by assumption) | exact bk_3 (by assumption) | exact bk_4 (by assumption) | exact bk_5 (by assumption) | exact bk_6 (by assumption) | exact bk_7 (by assumption) | exact bk_8 (by assumption) | rfl) (by decide) (by decide) rfl (by first | rfl | (simp only [nlit, nI_add, pk_mul]; rfl)) (by first | assumption | omega) (by decide) (by first | exact ro_m (by assumption) (by assumption) (by first | assumption | omega) | exact ro_p (by assumption) (by assumption) (by first | assumption | omega) | exact ro_o (by assumption) (by assumption) (by first | assumption | omega) | exact ro_s (by assumption) (by assumption) (by first | assumption | omega) | exact ro_ring (by assumption) (by first | assumption | omega) | exact ro_imgs (by assumption) (by first | assumption | omega)) ?_
        refine u_getI dX0_earningsOf_22 gf_X0_114 (by first | assumption | exact led_1 (by assumption) | exact led_2 (by assumption) | exact bk_m (by assumption) (by first | assumption | omega) | exact bk_p (by assumption) (by first | assumption | omega) | exact bk_o (by assumption) (by first | assumption | omega) | exact bk_s (by assumption) (by first | assumption | omega) | exact bk_1 (by assumption) | exact bk_2 (by assumption) | exact bk_3 (by assumption) | exact bk_4 (by assumption) | exact bk_5 (by assumption) | exact bk_6 (by assumption) | exact bk_7 (by assumption) | exact bk_8 (by assumption) | rfl) ?_
        (first | (rw [bo2 hF]; rotate_left; (first | assumption | omega)) | skip)
        refine v_iload_2 dX0_earningsOf_25 ?_
        refine v_icmp_gt (tgt := 76) dX0_earningsOf_26 (by decide) (fun hc26 => ?_) (fun hc26 => ?_)
        · (try rw [nI_ltI (by omega) (by omega)] at hc26)
          refine v_iinc_5 (v := 1) rfl dX0_earningsOf_76 (by decide) ?_
          refine v_goto (tgt := 6) dX0_earningsOf_79 (by decide) ?_
          rw [← nI_succ]
          refine ih (i + 1) _ (by omega) ?_
          simp only [sui] at hQ
          first
            | (simp only [earnf, if_neg (Nat.not_le.mpr hc26), Int32.add_zero] at hQ; exact hQ)
            | (simp only [earnf, if_pos (Nat.not_lt.mp hc26), if_neg (fun h => hc37 ((eP_inj (fun p => hb1) hb2).mpr h)), Int32.add_zero] at hQ; exact hQ)
            | (simp only [earnf, if_pos (Nat.not_lt.mp hc26), if_pos ((eP_inj (fun p => hb1) hb2).mp hc37), if_neg (show ¬ doneV F n g br i = true from by rw [hc47]; decide), Int32.add_zero] at hQ; exact hQ)
            | (simp only [earnf, if_pos (Nat.not_lt.mp hc26), if_pos ((eP_inj (fun p => hb1) hb2).mp hc37), if_pos (show doneV F n g br i = true from hc47), Int32.add_zero] at hQ; exact hQ)
        · (try rw [nI_ltI (by omega) (by omega)] at hc26)
          refine v_aload_0 dX0_earningsOf_29 ?_
          refine v_iload_5 dX0_earningsOf_30 ?_
          refine v_aload_3 dX0_earningsOf_32 ?_
          refine u_callV_2 dX0_earningsOf_33 ml_X0_128 mv_X0_debtorOf (by first | assumption | exact led_1 (by assumption) | exact led_2 (by assumption) | exact bk_m (by assumption) (by first | assumption | omega) | exact bk_p (by assumption) (by first | assumption | omega) | exact bk_o (by assumption) (by first | assumption | omega) | exact bk_s (by assumption) (by first | assumption | omega) | exact bk_1 (by assumption) | exact bk_2 (by assumption) | exact bk_3 (by assumption) | exact bk_4 (by assumption) | exact bk_5 (by assumption) | exact bk_6 (by assumption) | exact bk_7 (by assumption) | exact bk_8 (by assumption) | rfl) (by decide) rfl (by decide) (Nat.le_of_ble_eq_true rfl) (c_X0_debtorOf hR hB hF hO ha hL hps (by omega) ?_)
          refine v_iload_1 dX0_earningsOf_36 ?_
          refine v_icmp_ne (tgt := 76) dX0_earningsOf_37 (by decide) (fun hc37 => ?_) (fun hc37 => ?_)
          · (try rw [nI_eq (by omega) (by omega)] at hc37)
            refine v_iinc_5 (v := 1) rfl dX0_earningsOf_76 (by decide) ?_
            refine v_goto (tgt := 6) dX0_earningsOf_79 (by decide) ?_
            rw [← nI_succ]
            refine ih (i + 1) _ (by omega) ?_
            simp only [sui] at hQ
            first
              | (simp only [earnf, if_neg (Nat.not_le.mpr hc26), Int32.add_zero] at hQ; exact hQ)
              | (simp only [earnf, if_pos (Nat.not_lt.mp hc26), if_neg (fun h => hc37 ((eP_inj (fun p => hb1) hb2).mpr h)), Int32.add_zero] at hQ; exact hQ)
              | (simp only [earnf, if_pos (Nat.not_lt.mp hc26), if_pos ((eP_inj (fun p => hb1) hb2).mp hc37), if_neg (show ¬ doneV F n g br i = true from by rw [hc47]; decide), Int32.add_zero] at hQ; exact hQ)
              | (simp only [earnf, if_pos (Nat.not_lt.mp hc26), if_pos ((eP_inj (fun p => hb1) hb2).mp hc37), if_pos (show doneV F n g br i = true from hc47), Int32.add_zero] at hQ; exact hQ)
          · (try rw [nI_eq (by omega) (by omega)] at hc37)
            refine v_aload_0 dX0_earningsOf_40 ?_
            refine v_iload_5 dX0_earningsOf_41 ?_
            refine v_aload_3 dX0_earningsOf_43 ?_
            refine u_callV_2 dX0_earningsOf_44 ml_X0_141 mv_X0_isDone (by first | assumption | exact led_1 (by assumption) | exact led_2 (by assumption) | exact bk_m (by assumption) (by first | assumption | omega) | exact bk_p (by assumption) (by first | assumption | omega) | exact bk_o (by assumption) (by first | assumption | omega) | exact bk_s (by assumption) (by first | assumption | omega) | exact bk_1 (by assumption) | exact bk_2 (by assumption) | exact bk_3 (by assumption) | exact bk_4 (by assumption) | exact bk_5 (by assumption) | exact bk_6 (by assumption) | exact bk_7 (by assumption) | exact bk_8 (by assumption) | rfl) (by decide) rfl (by decide) (Nat.le_of_ble_eq_true rfl) (c_X0_isDone hR hB hF hO ha hL hbr hps (by omega) ?_)
            refine v_if_eq (tgt := 76) dX0_earningsOf_47 (by decide) (fun hc47 => ?_) (fun hc47 => ?_)
            · (first | rw [bI_0, Bool.not_eq_false] at hc47 | rw [bI_0] at hc47 | rw [show (0 : Int32) = nI 0 from rfl, nI_eq (by omega) (by omega)] at hc47 | skip)
              refine v_iinc_5 (v := 1) rfl dX0_earningsOf_76 (by decide) ?_
              refine v_goto (tgt := 6) dX0_earningsOf_79 (by decide) ?_
              rw [← nI_succ]
              refine ih (i + 1) _ (by omega) ?_
              simp only [sui] at hQ
              first
                | (simp only [earnf, if_neg (Nat.not_le.mpr hc26), Int32.add_zero] at hQ; exact hQ)
                | (simp only [earnf, if_pos (Nat.not_lt.mp hc26), if_neg (fun h => hc37 ((eP_inj (fun p => hb1) hb2).mpr h)), Int32.add_zero] at hQ; exact hQ)
                | (simp only [earnf, if_pos (Nat.not_lt.mp hc26), if_pos ((eP_inj (fun p => hb1) hb2).mp hc37), if_neg (show ¬ doneV F n g br i = true from by rw [hc47]; decide), Int32.add_zero] at hQ; exact hQ)
                | (simp only [earnf, if_pos (Nat.not_lt.mp hc26), if_pos ((eP_inj (fun p => hb1) hb2).mp hc37), if_pos (show doneV F n g br i = true from hc47), Int32.add_zero] at hQ; exact hQ)
            · (first | rw [bI_0, Bool.not_eq_false] at hc47 | rw [bI_0] at hc47 | rw [show (0 : Int32) = nI 0 from rfl, nI_eq (by omega) (by omega)] at hc47 | skip)
              refine v_iload_4 dX0_earningsOf_50 ?_
              refine v_aload_0 dX0_earningsOf_52 ?_
              refine u_getR dX0_earningsOf_53 gf_X0_25 (by first | assumption | exact led_1 (by assumption) | exact led_2 (by assumption) | exact bk_m (by assumption) (by first | assumption | omega) | exact bk_p (by assumption) (by first | assumption | omega) | exact bk_o (by assumption) (by first | assumption | omega) | exact bk_s (by assumption) (by first | assumption | omega) | exact bk_1 (by assumption) | exact bk_2 (by assumption) | exact bk_3 (by assumption) | exact bk_4 (by assumption) | exact bk_5 (by assumption) | exact bk_6 (by assumption) | exact bk_7 (by assumption) | exact bk_8 (by assumption) | rfl) (ro_X0_9 (by assumption) (by assumption)) ?_
              refine v_iload_5 dX0_earningsOf_56 ?_
              refine u_aald dX0_earningsOf_58 (by first | assumption | exact led_1 (by assumption) | exact led_2 (by assumption) | exact bk_m (by assumption) (by first | assumption | omega) | exact bk_p (by assumption) (by first | assumption | omega) | exact bk_o (by assumption) (by first | assumption | omega) | exact bk_s (by assumption) (by first | assumption | omega) | exact bk_1 (by assumption) | exact bk_2 (by assumption) | exact bk_3 (by assumption) | exact bk_4 (by assumption) | exact bk_5 (by assumption) | exact bk_6 (by assumption) | exact bk_7 (by assumption) | exact bk_8 (by assumption) | rfl) (by decide) (by decide) rfl (by first | rfl | (simp only [nlit, nI_add, pk_mul]; rfl)) (by first | assumption | omega) (by decide) (by first | exact ro_m (by assumption) (by assumption) (by first | assumption | omega) | exact ro_p (by assumption) (by assumption) (by first | assumption | omega) | exact ro_o (by assumption) (by assumption) (by first | assumption | omega) | exact ro_s (by assumption) (by assumption) (by first | assumption | omega) | exact ro_ring (by assumption) (by first | assumption | omega) | exact ro_imgs (by assumption) (by first | assumption | omega)) ?_
              refine u_getI dX0_earningsOf_59 gf_X0_160 (by first | assumption | exact led_1 (by assumption) | exact led_2 (by assumption) | exact bk_m (by assumption) (by first | assumption | omega) | exact bk_p (by assumption) (by first | assumption | omega) | exact bk_o (by assumption) (by first | assumption | omega) | exact bk_s (by assumption) (by first | assumption | omega) | exact bk_1 (by assumption) | exact bk_2 (by assumption) | exact bk_3 (by assumption) | exact bk_4 (by assumption) | exact bk_5 (by assumption) | exact bk_6 (by assumption) | exact bk_7 (by assumption) | exact bk_8 (by assumption) | rfl) ?_
              (first | (rw [bo3 hF]; rotate_left; (first | assumption | omega)) | skip)
              refine v_aload_0 dX0_earningsOf_62 ?_
              refine u_getR dX0_earningsOf_63 gf_X0_25 (by first | assumption | exact led_1 (by assumption) | exact led_2 (by assumption) | exact bk_m (by assumption) (by first | assumption | omega) | exact bk_p (by assumption) (by first | assumption | omega) | exact bk_o (by assumption) (by first | assumption | omega) | exact bk_s (by assumption) (by first | assumption | omega) | exact bk_1 (by assumption) | exact bk_2 (by assumption) | exact bk_3 (by assumption) | exact bk_4 (by assumption) | exact bk_5 (by assumption) | exact bk_6 (by assumption) | exact bk_7 (by assumption) | exact bk_8 (by assumption) | rfl) (ro_X0_9 (by assumption) (by assumption)) ?_
              refine v_iload_5 dX0_earningsOf_66 ?_
              refine u_aald dX0_earningsOf_68 (by first | assumption | exact led_1 (by assumption) | exact led_2 (by assumption) | exact bk_m (by assumption) (by first | assumption | omega) | exact bk_p (by assumption) (by first | assumption | omega) | exact bk_o (by assumption) (by first | assumption | omega) | exact bk_s (by assumption) (by first | assumption | omega) | exact bk_1 (by assumption) | exact bk_2 (by assumption) | exact bk_3 (by assumption) | exact bk_4 (by assumption) | exact bk_5 (by assumption) | exact bk_6 (by assumption) | exact bk_7 (by assumption) | exact bk_8 (by assumption) | rfl) (by decide) (by decide) rfl (by first | rfl | (simp only [nlit, nI_add, pk_mul]; rfl)) (by first | assumption | omega) (by decide) (by first | exact ro_m (by assumption) (by assumption) (by first | assumption | omega) | exact ro_p (by assumption) (by assumption) (by first | assumption | omega) | exact ro_o (by assumption) (by assumption) (by first | assumption | omega) | exact ro_s (by assumption) (by assumption) (by first | assumption | omega) | exact ro_ring (by assumption) (by first | assumption | omega) | exact ro_imgs (by assumption) (by first | assumption | omega)) ?_
              refine u_getI dX0_earningsOf_69 gf_X0_163 (by first | assumption | exact led_1 (by assumption) | exact led_2 (by assumption) | exact bk_m (by assumption) (by first | assumption | omega) | exact bk_p (by assumption) (by first | assumption | omega) | exact bk_o (by assumption) (by first | assumption | omega) | exact bk_s (by assumption) (by first | assumption | omega) | exact bk_1 (by assumption) | exact bk_2 (by assumption) | exact bk_3 (by assumption) | exact bk_4 (by assumption) | exact bk_5 (by assumption) | exact bk_6 (by assumption) | exact bk_7 (by assumption) | exact bk_8 (by assumption) | rfl) ?_
              (first | (rw [bo5 hF]; rotate_left; (first | assumption | omega)) | skip)
              refine v_isub dX0_earningsOf_72 ?_
              refine v_iadd dX0_earningsOf_73 ?_
              refine v_istore_4 rfl dX0_earningsOf_74 ?_
              refine v_iinc_5 (v := 1) rfl dX0_earningsOf_76 (by decide) ?_
              refine v_goto (tgt := 6) dX0_earningsOf_79 (by decide) ?_
              rw [← nI_succ]
              refine ih (i + 1) _ (by omega) ?_
              simp only [sui] at hQ
              first
                | (simp only [earnf, if_neg (Nat.not_le.mpr hc26), Int32.add_zero] at hQ; exact hQ)
                | (simp only [earnf, if_pos (Nat.not_lt.mp hc26), if_neg (fun h => hc37 ((eP_inj (fun p => hb1) hb2).mpr h)), Int32.add_zero] at hQ; exact hQ)
                | (simp only [earnf, if_pos (Nat.not_lt.mp hc26), if_pos ((eP_inj (fun p => hb1) hb2).mp hc37), if_neg (show ¬ doneV F n g br i = true from by rw [hc47]; decide), Int32.add_zero] at hQ; exact hQ)
                | (simp only [earnf, if_pos (Nat.not_lt.mp hc26), if_pos ((eP_inj (fun p => hb1) hb2).mp hc37), if_pos (show doneV F n g br i = true from hc47), Int32.add_zero] at hQ; exact hQ)
  refine v_iconst (v := nI 0) dX0_earningsOf_0 (by decide) ?_
  refine v_istore_4 rfl dX0_earningsOf_1 ?_
  refine v_iconst (v := nI 0) dX0_earningsOf_3 (by decide) ?_
  refine v_istore_5 rfl dX0_earningsOf_4 ?_
  exact loop (F 4) 0 0 (by omega) hQ
theorem c_X0_balanceOn {d : Nat} (hR : RO R) (hB : SH B = .inl 0) (hF : BkI I B F) (hO : FOK F) (ha : SH a = .inl 2) (hL : LedI I a n g) (hbr : BrI I a br) (hps : pers F n g) (hd : d < 2 ^ 31) (hQ : Q (some (.int (sui (balonf F n g br d) 0 (F 4) 0))) SH I L R) : KK 6 mX0_balanceOn b ad [.ref (b + B), .int (nI d), .ref (b + a)] I L R Q := by
  obtain ⟨k0, k1, k2, k3, k4, k5, k6, -⟩ := id hO
  refine K.of (M := mX0_balanceOn) (lv := [some (.ref (b + B)), some (.int (nI d)), some (.ref (b + a)), none, none]) (by decide) (Nat.le_of_ble_eq_true rfl) rfl ?_
  have loop : ∀ (j i : Nat) (acc : Int32), i + j = F 4 → Q (some (.int (sui (balonf F n g br d) i j acc))) SH I L R → VV yX0_balanceOn cX0_balanceOn 5 (some .int) 6 Q b ad 5 [some (.ref (b + B)), some (.int (nI d)), some (.ref (b + a)), some (.int acc), some (.int (nI i))] [] I L R := by
    intro j
    induction j with
    | zero =>
      intro i acc hij hQ
      refine v_iload_4 dX0_balanceOn_5 ?_
      refine v_aload_0 dX0_balanceOn_7 ?_
      refine u_getI dX0_balanceOn_8 gf_X0_69 (by first | assumption | exact led_1 (by assumption) | exact led_2 (by assumption) | exact bk_m (by assumption) (by first | assumption | omega) | exact bk_p (by assumption) (by first | assumption | omega) | exact bk_o (by assumption) (by first | assumption | omega) | exact bk_s (by assumption) (by first | assumption | omega) | exact bk_1 (by assumption) | exact bk_2 (by assumption) | exact bk_3 (by assumption) | exact bk_4 (by assumption) | exact bk_5 (by assumption) | exact bk_6 (by assumption) | exact bk_7 (by assumption) | exact bk_8 (by assumption) | rfl) ?_
      (try rw [bx4 hF])
      refine v_icmp_ge (tgt := 54) dX0_balanceOn_11 (by decide) (fun hc11 => ?_) (fun hc11 => ?_)
      · (try rw [nI_leI (by omega) (by omega)] at hc11)
        refine v_iload_3 dX0_balanceOn_54 ?_
        refine v_iret dX0_balanceOn_55 rfl rfl rfl rfl ?_
        exact hQ
      · (try rw [nI_leI (by omega) (by omega)] at hc11)
        exfalso; omega
    | succ j ih =>
      intro i acc hij hQ
      obtain ⟨r1, r2, r3, r4, r5, r6, r7⟩ := fk_o hO (show i < F 4 by omega)
      refine v_iload_4 dX0_balanceOn_5 ?_
      refine v_aload_0 dX0_balanceOn_7 ?_
      refine u_getI dX0_balanceOn_8 gf_X0_69 (by first | assumption | exact led_1 (by assumption) | exact led_2 (by assumption) | exact bk_m (by assumption) (by first | assumption | omega) | exact bk_p (by assumption) (by first | assumption | omega) | exact bk_o (by assumption) (by first | assumption | omega) | exact bk_s (by assumption) (by first | assumption | omega) | exact bk_1 (by assumption) | exact bk_2 (by assumption) | exact bk_3 (by assumption) | exact bk_4 (by assumption) | exact bk_5 (by assumption) | exact bk_6 (by assumption) | exact bk_7 (by assumption) | exact bk_8 (by assumption) | rfl) ?_
      (try rw [bx4 hF])
      refine v_icmp_ge (tgt := 54) dX0_balanceOn_11 (by decide) (fun hc11 => ?_) (fun hc11 => ?_)
      · (try rw [nI_leI (by omega) (by omega)] at hc11)
        exfalso; omega
      · (try rw [nI_leI (by omega) (by omega)] at hc11)
        refine v_aload_0 dX0_balanceOn_14 ?_
        refine u_getR dX0_balanceOn_15 gf_X0_25 (by first | assumption | exact led_1 (by assumption) | exact led_2 (by assumption) | exact bk_m (by assumption) (by first | assumption | omega) | exact bk_p (by assumption) (by first | assumption | omega) | exact bk_o (by assumption) (by first | assumption | omega) | exact bk_s (by assumption) (by first | assumption | omega) | exact bk_1 (by assumption) | exact bk_2 (by assumption) | exact bk_3 (by assumption) | exact bk_4 (by assumption) | exact bk_5 (by assumption) | exact bk_6 (by assumption) | exact bk_7 (by assumption) | exact bk_8 (by assumption) | rfl) (ro_X0_9 (by assumption) (by assumption)) ?_
        refine v_iload_4 dX0_balanceOn_18 ?_
        refine u_aald dX0_balanceOn_20 (by first | assumption | exact led_1 (by assumption) | exact led_2 (by assumption) | exact bk_m (by assumption) (by first | assumption | omega) | exact bk_p (by assumption) (by first | assumption | omega) | exact bk_o (by assumption) (by first | assumption | omega) | exact bk_s (by assumption) (by first | assumption | omega) | exact bk_1 (by assumption) | exact bk_2 (by assumption) | exact bk_3 (by assumption) | exact bk_4 (by assumption) | exact bk_5 (by assumption) | exact bk_6 (by assumption) | exact bk_7 (by assumption) | exact bk_8 (by assumption) | rfl) (by decide) (by decide) rfl (by first | rfl | (simp only [nlit, nI_add, pk_mul]; rfl)) (by first | assumption | omega) (by decide) (by first | exact ro_m (by assumption) (by assumption) (by first | assumption | omega) | exact ro_p (by assumption) (by assumption) (by first | assumption | omega) | exact ro_o (by assumption) (by assumption) (by first | assumption | omega) | exact ro_s (by assumption) (by assumption) (by first | assumption | omega) | exact ro_ring (by assumption) (by first | assumption | omega) | exact ro_imgs (by assumption) (by first | assumption | omega)) ?_
        refine u_getI dX0_balanceOn_21 gf_X0_114 (by first | assumption | exact led_1 (by assumption) | exact led_2 (by assumption) | exact bk_m (by assumption) (by first | assumption | omega) | exact bk_p (by assumption) (by first | assumption | omega) | exact bk_o (by assumption) (by first | assumption | omega) | exact bk_s (by assumption) (by first | assumption | omega) | exact bk_1 (by assumption) | exact bk_2 (by assumption) | exact bk_3 (by assumption) | exact bk_4 (by assumption) | exact bk_5 (by assumption) | exact bk_6 (by assumption) | exact bk_7 (by assumption) | exact bk_8 (by assumption) | rfl) ?_
        (first | (rw [bo2 hF]; rotate_left; (first | assumption | omega)) | skip)
        refine v_iload_1 dX0_balanceOn_24 ?_
        refine v_icmp_ne (tgt := 48) dX0_balanceOn_25 (by decide) (fun hc25 => ?_) (fun hc25 => ?_)
        · (try rw [nI_eq (by omega) (by omega)] at hc25)
          refine v_iinc_4 (v := 1) rfl dX0_balanceOn_48 (by decide) ?_
          refine v_goto (tgt := 5) dX0_balanceOn_51 (by decide) ?_
          rw [← nI_succ]
          refine ih (i + 1) _ (by omega) ?_
          simp only [sui] at hQ
          first
            | (simp only [balonf, if_neg hc25, Int32.add_zero] at hQ; exact hQ)
            | (simp only [balonf, if_pos hc25, yl, Int32.add_zero] at hQ; exact hQ)
        · (try rw [nI_eq (by omega) (by omega)] at hc25)
          refine v_iload_3 dX0_balanceOn_28 ?_
          refine v_aload_0 dX0_balanceOn_29 ?_
          refine u_getR dX0_balanceOn_30 gf_X0_25 (by first | assumption | exact led_1 (by assumption) | exact led_2 (by assumption) | exact bk_m (by assumption) (by first | assumption | omega) | exact bk_p (by assumption) (by first | assumption | omega) | exact bk_o (by assumption) (by first | assumption | omega) | exact bk_s (by assumption) (by first | assumption | omega) | exact bk_1 (by assumption) | exact bk_2 (by assumption) | exact bk_3 (by assumption) | exact bk_4 (by assumption) | exact bk_5 (by assumption) | exact bk_6 (by assumption) | exact bk_7 (by assumption) | exact bk_8 (by assumption) | rfl) (ro_X0_9 (by assumption) (by assumption)) ?_
          refine v_iload_4 dX0_balanceOn_33 ?_
          refine u_aald dX0_balanceOn_35 (by first | assumption | exact led_1 (by assumption) | exact led_2 (by assumption) | exact bk_m (by assumption) (by first | assumption | omega) | exact bk_p (by assumption) (by first | assumption | omega) | exact bk_o (by assumption) (by first | assumption | omega) | exact bk_s (by assumption) (by first | assumption | omega) | exact bk_1 (by assumption) | exact bk_2 (by assumption) | exact bk_3 (by assumption) | exact bk_4 (by assumption) | exact bk_5 (by assumption) | exact bk_6 (by assumption) | exact bk_7 (by assumption) | exact bk_8 (by assumption) | rfl) (by decide) (by decide) rfl (by first | rfl | (simp only [nlit, nI_add, pk_mul]; rfl)) (by first | assumption | omega) (by decide) (by first | exact ro_m (by assumption) (by assumption) (by first | assumption | omega) | exact ro_p (by assumption) (by assumption) (by first | assumption | omega) | exact ro_o (by assumption) (by assumption) (by first | assumption | omega) | exact ro_s (by assumption) (by assumption) (by first | assumption | omega) | exact ro_ring (by assumption) (by first | assumption | omega) | exact ro_imgs (by assumption) (by first | assumption | omega)) ?_
          refine v_aload_0 dX0_balanceOn_36 ?_
          refine v_iload_4 dX0_balanceOn_37 ?_
          refine v_aload_2 dX0_balanceOn_39 ?_
          refine u_callV_2 dX0_balanceOn_40 ml_X0_141 mv_X0_isDone (by first | assumption | exact led_1 (by assumption) | exact led_2 (by assumption) | exact bk_m (by assumption) (by first | assumption | omega) | exact bk_p (by assumption) (by first | assumption | omega) | exact bk_o (by assumption) (by first | assumption | omega) | exact bk_s (by assumption) (by first | assumption | omega) | exact bk_1 (by assumption) | exact bk_2 (by assumption) | exact bk_3 (by assumption) | exact bk_4 (by assumption) | exact bk_5 (by assumption) | exact bk_6 (by assumption) | exact bk_7 (by assumption) | exact bk_8 (by assumption) | rfl) (by decide) rfl (by decide) (Nat.le_of_ble_eq_true rfl) (c_X0_isDone hR hB hF hO ha hL hbr hps (by omega) ?_)
          refine u_callV_1 dX0_balanceOn_43 ml_X0_145 mv_X6_yields (by first | assumption | exact led_1 (by assumption) | exact led_2 (by assumption) | exact bk_m (by assumption) (by first | assumption | omega) | exact bk_p (by assumption) (by first | assumption | omega) | exact bk_o (by assumption) (by first | assumption | omega) | exact bk_s (by assumption) (by first | assumption | omega) | exact bk_1 (by assumption) | exact bk_2 (by assumption) | exact bk_3 (by assumption) | exact bk_4 (by assumption) | exact bk_5 (by assumption) | exact bk_6 (by assumption) | exact bk_7 (by assumption) | exact bk_8 (by assumption) | rfl) (by decide) rfl (by decide) (Nat.le_of_ble_eq_true rfl) (c_X6_yields (bk_o hB (by omega)) (bo3 hF (by omega)) (bo4 hF (by omega)) ?_)
          refine v_iadd dX0_balanceOn_46 ?_
          refine v_istore_3 rfl dX0_balanceOn_47 ?_
          refine v_iinc_4 (v := 1) rfl dX0_balanceOn_48 (by decide) ?_
          refine v_goto (tgt := 5) dX0_balanceOn_51 (by decide) ?_
          rw [← nI_succ]
          refine ih (i + 1) _ (by omega) ?_
          simp only [sui] at hQ
          first
            | (simp only [balonf, if_neg hc25, Int32.add_zero] at hQ; exact hQ)
            | (simp only [balonf, if_pos hc25, yl, Int32.add_zero] at hQ; exact hQ)
  refine v_iconst (v := nI 0) dX0_balanceOn_0 (by decide) ?_
  refine v_istore_3 rfl dX0_balanceOn_1 ?_
  refine v_iconst (v := nI 0) dX0_balanceOn_2 (by decide) ?_
  refine v_istore_4 rfl dX0_balanceOn_3 ?_
  exact loop (F 4) 0 0 (by omega) hQ
theorem c_X0_balanceIf {m d : Nat} {op : Option Nat} (hR : RO R) (hB : SH B = .inl 0) (hF : BkI I B F) (hO : FOK F) (hop : ∀ p, op = some p → p < F 3) (hm : m < 2 ^ 31) (hd : d < 2 ^ 31) (hQ : Q (some (.int (sui (baliff F m op d) 0 (F 4) 0))) SH I L R) : KK 3 mX0_balanceIf b ad [.ref (b + B), .int (nI m), .int (eP op), .int (nI d)] I L R Q := by
  obtain ⟨k0, k1, k2, k3, k4, k5, k6, -⟩ := id hO
  refine K.of (M := mX0_balanceIf) (lv := [some (.ref (b + B)), some (.int (nI m)), some (.int (eP op)), some (.int (nI d)), none, none]) (by decide) (Nat.le_of_ble_eq_true rfl) rfl ?_
  have loop : ∀ (j i : Nat) (acc : Int32), i + j = F 4 → Q (some (.int (sui (baliff F m op d) i j acc))) SH I L R → VV yX0_balanceIf cX0_balanceIf 6 (some .int) 3 Q b ad 6 [some (.ref (b + B)), some (.int (nI m)), some (.int (eP op)), some (.int (nI d)), some (.int acc), some (.int (nI i))] [] I L R := by
    intro j
    induction j with
    | zero =>
      intro i acc hij hQ
      refine v_iload_5 dX0_balanceIf_6 ?_
      refine v_aload_0 dX0_balanceIf_8 ?_
      refine u_getI dX0_balanceIf_9 gf_X0_69 (by first | assumption | exact led_1 (by assumption) | exact led_2 (by assumption) | exact bk_m (by assumption) (by first | assumption | omega) | exact bk_p (by assumption) (by first | assumption | omega) | exact bk_o (by assumption) (by first | assumption | omega) | exact bk_s (by assumption) (by first | assumption | omega) | exact bk_1 (by assumption) | exact bk_2 (by assumption) | exact bk_3 (by assumption) | exact bk_4 (by assumption) | exact bk_5 (by assumption) | exact bk_6 (by assumption) | exact bk_7 (by assumption) | exact bk_8 (by assumption) | rfl) ?_
      (try rw [bx4 hF])
      refine v_icmp_ge (tgt := 58) dX0_balanceIf_12 (by decide) (fun hc12 => ?_) (fun hc12 => ?_)
      · (try rw [nI_leI (by omega) (by omega)] at hc12)
        refine v_iload_4 dX0_balanceIf_58 ?_
        refine v_iret dX0_balanceIf_60 rfl rfl rfl rfl ?_
        exact hQ
      · (try rw [nI_leI (by omega) (by omega)] at hc12)
        exfalso; omega
    | succ j ih =>
      intro i acc hij hQ
      obtain ⟨r1, r2, r3, r4, r5, r6, r7⟩ := fk_o hO (show i < F 4 by omega)
      refine v_iload_5 dX0_balanceIf_6 ?_
      refine v_aload_0 dX0_balanceIf_8 ?_
      refine u_getI dX0_balanceIf_9 gf_X0_69 (by first | assumption | exact led_1 (by assumption) | exact led_2 (by assumption) | exact bk_m (by assumption) (by first | assumption | omega) | exact bk_p (by assumption) (by first | assumption | omega) | exact bk_o (by assumption) (by first | assumption | omega) | exact bk_s (by assumption) (by first | assumption | omega) | exact bk_1 (by assumption) | exact bk_2 (by assumption) | exact bk_3 (by assumption) | exact bk_4 (by assumption) | exact bk_5 (by assumption) | exact bk_6 (by assumption) | exact bk_7 (by assumption) | exact bk_8 (by assumption) | rfl) ?_
      (try rw [bx4 hF])
      refine v_icmp_ge (tgt := 58) dX0_balanceIf_12 (by decide) (fun hc12 => ?_) (fun hc12 => ?_)
      · (try rw [nI_leI (by omega) (by omega)] at hc12)
        exfalso; omega
      · (try rw [nI_leI (by omega) (by omega)] at hc12)
        refine v_aload_0 dX0_balanceIf_15 ?_
        refine u_getR dX0_balanceIf_16 gf_X0_25 (by first | assumption | exact led_1 (by assumption) | exact led_2 (by assumption) | exact bk_m (by assumption) (by first | assumption | omega) | exact bk_p (by assumption) (by first | assumption | omega) | exact bk_o (by assumption) (by first | assumption | omega) | exact bk_s (by assumption) (by first | assumption | omega) | exact bk_1 (by assumption) | exact bk_2 (by assumption) | exact bk_3 (by assumption) | exact bk_4 (by assumption) | exact bk_5 (by assumption) | exact bk_6 (by assumption) | exact bk_7 (by assumption) | exact bk_8 (by assumption) | rfl) (ro_X0_9 (by assumption) (by assumption)) ?_
        refine v_iload_5 dX0_balanceIf_19 ?_
        refine u_aald dX0_balanceIf_21 (by first | assumption | exact led_1 (by assumption) | exact led_2 (by assumption) | exact bk_m (by assumption) (by first | assumption | omega) | exact bk_p (by assumption) (by first | assumption | omega) | exact bk_o (by assumption) (by first | assumption | omega) | exact bk_s (by assumption) (by first | assumption | omega) | exact bk_1 (by assumption) | exact bk_2 (by assumption) | exact bk_3 (by assumption) | exact bk_4 (by assumption) | exact bk_5 (by assumption) | exact bk_6 (by assumption) | exact bk_7 (by assumption) | exact bk_8 (by assumption) | rfl) (by decide) (by decide) rfl (by first | rfl | (simp only [nlit, nI_add, pk_mul]; rfl)) (by first | assumption | omega) (by decide) (by first | exact ro_m (by assumption) (by assumption) (by first | assumption | omega) | exact ro_p (by assumption) (by assumption) (by first | assumption | omega) | exact ro_o (by assumption) (by assumption) (by first | assumption | omega) | exact ro_s (by assumption) (by assumption) (by first | assumption | omega) | exact ro_ring (by assumption) (by first | assumption | omega) | exact ro_imgs (by assumption) (by first | assumption | omega)) ?_
        refine v_iload_1 dX0_balanceIf_22 ?_
        refine v_iload_3 dX0_balanceIf_23 ?_
        refine u_callV_2 dX0_balanceIf_24 ml_X0_117 mv_X6_isOf (by first | assumption | exact led_1 (by assumption) | exact led_2 (by assumption) | exact bk_m (by assumption) (by first | assumption | omega) | exact bk_p (by assumption) (by first | assumption | omega) | exact bk_o (by assumption) (by first | assumption | omega) | exact bk_s (by assumption) (by first | assumption | omega) | exact bk_1 (by assumption) | exact bk_2 (by assumption) | exact bk_3 (by assumption) | exact bk_4 (by assumption) | exact bk_5 (by assumption) | exact bk_6 (by assumption) | exact bk_7 (by assumption) | exact bk_8 (by assumption) | rfl) (by decide) rfl (by decide) (Nat.le_of_ble_eq_true rfl) (c_X6_isOf (bk_o hB (by omega)) (bo0 hF (by omega)) (bo2 hF (by omega)) (by omega) (by omega) (by omega) (by omega) ?_)
        refine v_if_eq (tgt := 52) dX0_balanceIf_27 (by decide) (fun hc27 => ?_) (fun hc27 => ?_)
        · (first | rw [bI_0, Bool.not_eq_false] at hc27 | rw [bI_0] at hc27 | rw [show (0 : Int32) = nI 0 from rfl, nI_eq (by omega) (by omega)] at hc27 | skip)
          refine v_iinc_5 (v := 1) rfl dX0_balanceIf_52 (by decide) ?_
          refine v_goto (tgt := 6) dX0_balanceIf_55 (by decide) ?_
          rw [← nI_succ]
          refine ih (i + 1) _ (by omega) ?_
          simp only [sui] at hQ
          first
            | (simp only [baliff, if_neg (show ¬ isOfV F m d i = true from by unfold isOfV; rw [hc27]; decide), Int32.add_zero] at hQ; exact hQ)
            | (simp only [baliff, if_pos (show isOfV F m d i = true from hc27), yl, Int32.add_zero] at hQ; exact hQ)
        · (first | rw [bI_0, Bool.not_eq_false] at hc27 | rw [bI_0] at hc27 | rw [show (0 : Int32) = nI 0 from rfl, nI_eq (by omega) (by omega)] at hc27 | skip)
          refine v_iload_4 dX0_balanceIf_30 ?_
          refine v_aload_0 dX0_balanceIf_32 ?_
          refine u_getR dX0_balanceIf_33 gf_X0_25 (by first | assumption | exact led_1 (by assumption) | exact led_2 (by assumption) | exact bk_m (by assumption) (by first | assumption | omega) | exact bk_p (by assumption) (by first | assumption | omega) | exact bk_o (by assumption) (by first | assumption | omega) | exact bk_s (by assumption) (by first | assumption | omega) | exact bk_1 (by assumption) | exact bk_2 (by assumption) | exact bk_3 (by assumption) | exact bk_4 (by assumption) | exact bk_5 (by assumption) | exact bk_6 (by assumption) | exact bk_7 (by assumption) | exact bk_8 (by assumption) | rfl) (ro_X0_9 (by assumption) (by assumption)) ?_
          refine v_iload_5 dX0_balanceIf_36 ?_
          refine u_aald dX0_balanceIf_38 (by first | assumption | exact led_1 (by assumption) | exact led_2 (by assumption) | exact bk_m (by assumption) (by first | assumption | omega) | exact bk_p (by assumption) (by first | assumption | omega) | exact bk_o (by assumption) (by first | assumption | omega) | exact bk_s (by assumption) (by first | assumption | omega) | exact bk_1 (by assumption) | exact bk_2 (by assumption) | exact bk_3 (by assumption) | exact bk_4 (by assumption) | exact bk_5 (by assumption) | exact bk_6 (by assumption) | exact bk_7 (by assumption) | exact bk_8 (by assumption) | rfl) (by decide) (by decide) rfl (by first | rfl | (simp only [nlit, nI_add, pk_mul]; rfl)) (by first | assumption | omega) (by decide) (by first | exact ro_m (by assumption) (by assumption) (by first | assumption | omega) | exact ro_p (by assumption) (by assumption) (by first | assumption | omega) | exact ro_o (by assumption) (by assumption) (by first | assumption | omega) | exact ro_s (by assumption) (by assumption) (by first | assumption | omega) | exact ro_ring (by assumption) (by first | assumption | omega) | exact ro_imgs (by assumption) (by first | assumption | omega)) ?_
          refine v_aload_0 dX0_balanceIf_39 ?_
          refine v_iload_2 dX0_balanceIf_40 ?_
          refine v_iload_5 dX0_balanceIf_41 ?_
          refine u_callV_2 dX0_balanceIf_43 ml_X0_132 mv_X0_wouldDo (by first | assumption | exact led_1 (by assumption) | exact led_2 (by assumption) | exact bk_m (by assumption) (by first | assumption | omega) | exact bk_p (by assumption) (by first | assumption | omega) | exact bk_o (by assumption) (by first | assumption | omega) | exact bk_s (by assumption) (by first | assumption | omega) | exact bk_1 (by assumption) | exact bk_2 (by assumption) | exact bk_3 (by assumption) | exact bk_4 (by assumption) | exact bk_5 (by assumption) | exact bk_6 (by assumption) | exact bk_7 (by assumption) | exact bk_8 (by assumption) | rfl) (by decide) rfl (by decide) (Nat.le_of_ble_eq_true rfl) (c_X0_wouldDo hR hB hF hO hop (by omega) ?_)
          refine u_callV_1 dX0_balanceIf_46 ml_X0_145 mv_X6_yields (by first | assumption | exact led_1 (by assumption) | exact led_2 (by assumption) | exact bk_m (by assumption) (by first | assumption | omega) | exact bk_p (by assumption) (by first | assumption | omega) | exact bk_o (by assumption) (by first | assumption | omega) | exact bk_s (by assumption) (by first | assumption | omega) | exact bk_1 (by assumption) | exact bk_2 (by assumption) | exact bk_3 (by assumption) | exact bk_4 (by assumption) | exact bk_5 (by assumption) | exact bk_6 (by assumption) | exact bk_7 (by assumption) | exact bk_8 (by assumption) | rfl) (by decide) rfl (by decide) (Nat.le_of_ble_eq_true rfl) (c_X6_yields (bk_o hB (by omega)) (bo3 hF (by omega)) (bo4 hF (by omega)) ?_)
          refine v_iadd dX0_balanceIf_49 ?_
          refine v_istore_4 rfl dX0_balanceIf_50 ?_
          refine v_iinc_5 (v := 1) rfl dX0_balanceIf_52 (by decide) ?_
          refine v_goto (tgt := 6) dX0_balanceIf_55 (by decide) ?_
          rw [← nI_succ]
          refine ih (i + 1) _ (by omega) ?_
          simp only [sui] at hQ
          first
            | (simp only [baliff, if_neg (show ¬ isOfV F m d i = true from by unfold isOfV; rw [hc27]; decide), Int32.add_zero] at hQ; exact hQ)
            | (simp only [baliff, if_pos (show isOfV F m d i = true from hc27), yl, Int32.add_zero] at hQ; exact hQ)
  refine v_iconst (v := nI 0) dX0_balanceIf_0 (by decide) ?_
  refine v_istore_4 rfl dX0_balanceIf_1 ?_
  refine v_iconst (v := nI 0) dX0_balanceIf_3 (by decide) ?_
  refine v_istore_5 rfl dX0_balanceIf_4 ?_
  exact loop (F 4) 0 0 (by omega) hQ
theorem c_X0_priceOf {m p f u : Nat} (hR : RO R) (hB : SH B = .inl 0) (hF : BkI I B F) (hO : FOK F) (hm : m < 2 ^ 31) (hp : p < F 3) (hf : f < 2 ^ 31) (hu : u < 2 ^ 31) (hQ : Q (some (.int ((sui (pricef F m f u) 0 (F 4) 0 * (nI 100 - nI (F (32 + p))) + nI 99) / nI 100))) SH I L R) : KK 1 mX0_priceOf b ad [.ref (b + B), .int (nI m), .int (nI p), .int (nI f), .int (nI u)] I L R Q := by
  obtain ⟨k0, k1, k2, k3, k4, k5, k6, -⟩ := id hO
  refine K.of (M := mX0_priceOf) (lv := [some (.ref (b + B)), some (.int (nI m)), some (.int (nI p)), some (.int (nI f)), some (.int (nI u)), none, none, none]) (by decide) (Nat.le_of_ble_eq_true rfl) rfl ?_
  have loop : ∀ (j i : Nat) (acc : Int32) (z : Option Value), i + j = F 4 → Q (some (.int ((sui (pricef F m f u) i j acc * (nI 100 - nI (F (32 + p))) + nI 99) / nI 100))) SH I L R → VV yX0_priceOf cX0_priceOf 8 (some .int) 1 Q b ad 6 [some (.ref (b + B)), some (.int (nI m)), some (.int (nI p)), some (.int (nI f)), some (.int (nI u)), some (.int acc), some (.int (nI i)), z] [] I L R := by
    intro j
    induction j with
    | zero =>
      intro i acc z hij hQ
      refine v_iload_6 dX0_priceOf_6 ?_
      refine v_aload_0 dX0_priceOf_8 ?_
      refine u_getI dX0_priceOf_9 gf_X0_69 (by first | assumption | exact led_1 (by assumption) | exact led_2 (by assumption) | exact bk_m (by assumption) (by first | assumption | omega) | exact bk_p (by assumption) (by first | assumption | omega) | exact bk_o (by assumption) (by first | assumption | omega) | exact bk_s (by assumption) (by first | assumption | omega) | exact bk_1 (by assumption) | exact bk_2 (by assumption) | exact bk_3 (by assumption) | exact bk_4 (by assumption) | exact bk_5 (by assumption) | exact bk_6 (by assumption) | exact bk_7 (by assumption) | exact bk_8 (by assumption) | rfl) ?_
      (try rw [bx4 hF])
      refine v_icmp_ge (tgt := 68) dX0_priceOf_12 (by decide) (fun hc12 => ?_) (fun hc12 => ?_)
      · (try rw [nI_leI (by omega) (by omega)] at hc12)
        refine v_iload_5 dX0_priceOf_68 ?_
        refine v_bipush (v := nI 100) dX0_priceOf_70 (by decide) ?_
        refine v_aload_0 dX0_priceOf_72 ?_
        refine u_getR dX0_priceOf_73 gf_X0_19 (by first | assumption | exact led_1 (by assumption) | exact led_2 (by assumption) | exact bk_m (by assumption) (by first | assumption | omega) | exact bk_p (by assumption) (by first | assumption | omega) | exact bk_o (by assumption) (by first | assumption | omega) | exact bk_s (by assumption) (by first | assumption | omega) | exact bk_1 (by assumption) | exact bk_2 (by assumption) | exact bk_3 (by assumption) | exact bk_4 (by assumption) | exact bk_5 (by assumption) | exact bk_6 (by assumption) | exact bk_7 (by assumption) | exact bk_8 (by assumption) | rfl) (ro_X0_8 (by assumption) (by assumption)) ?_
        refine v_iload_2 dX0_priceOf_76 ?_
        refine u_aald dX0_priceOf_77 (by first | assumption | exact led_1 (by assumption) | exact led_2 (by assumption) | exact bk_m (by assumption) (by first | assumption | omega) | exact bk_p (by assumption) (by first | assumption | omega) | exact bk_o (by assumption) (by first | assumption | omega) | exact bk_s (by assumption) (by first | assumption | omega) | exact bk_1 (by assumption) | exact bk_2 (by assumption) | exact bk_3 (by assumption) | exact bk_4 (by assumption) | exact bk_5 (by assumption) | exact bk_6 (by assumption) | exact bk_7 (by assumption) | exact bk_8 (by assumption) | rfl) (by decide) (by decide) rfl (by first | rfl | (simp only [nlit, nI_add, pk_mul]; rfl)) (by first | assumption | omega) (by decide) (by first | exact ro_m (by assumption) (by assumption) (by first | assumption | omega) | exact ro_p (by assumption) (by assumption) (by first | assumption | omega) | exact ro_o (by assumption) (by assumption) (by first | assumption | omega) | exact ro_s (by assumption) (by assumption) (by first | assumption | omega) | exact ro_ring (by assumption) (by first | assumption | omega) | exact ro_imgs (by assumption) (by first | assumption | omega)) ?_
        refine u_getI dX0_priceOf_78 gf_X0_179 (by first | assumption | exact led_1 (by assumption) | exact led_2 (by assumption) | exact bk_m (by assumption) (by first | assumption | omega) | exact bk_p (by assumption) (by first | assumption | omega) | exact bk_o (by assumption) (by first | assumption | omega) | exact bk_s (by assumption) (by first | assumption | omega) | exact bk_1 (by assumption) | exact bk_2 (by assumption) | exact bk_3 (by assumption) | exact bk_4 (by assumption) | exact bk_5 (by assumption) | exact bk_6 (by assumption) | exact bk_7 (by assumption) | exact bk_8 (by assumption) | rfl) ?_
        (first | (rw [bp1 hF]; rotate_left; (first | assumption | omega)) | skip)
        refine v_isub dX0_priceOf_81 ?_
        refine v_imul dX0_priceOf_82 ?_
        refine v_bipush (v := nI 99) dX0_priceOf_83 (by decide) ?_
        refine v_iadd dX0_priceOf_85 ?_
        refine v_bipush (v := nI 100) dX0_priceOf_86 (by decide) ?_
        refine v_idiv dX0_priceOf_88 (by first | assumption | decide) ?_
        refine v_iret dX0_priceOf_89 rfl rfl rfl rfl ?_
        exact hQ
      · (try rw [nI_leI (by omega) (by omega)] at hc12)
        exfalso; omega
    | succ j ih =>
      intro i acc z hij hQ
      obtain ⟨r1, r2, r3, r4, r5, r6, r7⟩ := fk_o hO (show i < F 4 by omega)
      refine v_iload_6 dX0_priceOf_6 ?_
      refine v_aload_0 dX0_priceOf_8 ?_
      refine u_getI dX0_priceOf_9 gf_X0_69 (by first | assumption | exact led_1 (by assumption) | exact led_2 (by assumption) | exact bk_m (by assumption) (by first | assumption | omega) | exact bk_p (by assumption) (by first | assumption | omega) | exact bk_o (by assumption) (by first | assumption | omega) | exact bk_s (by assumption) (by first | assumption | omega) | exact bk_1 (by assumption) | exact bk_2 (by assumption) | exact bk_3 (by assumption) | exact bk_4 (by assumption) | exact bk_5 (by assumption) | exact bk_6 (by assumption) | exact bk_7 (by assumption) | exact bk_8 (by assumption) | rfl) ?_
      (try rw [bx4 hF])
      refine v_icmp_ge (tgt := 68) dX0_priceOf_12 (by decide) (fun hc12 => ?_) (fun hc12 => ?_)
      · (try rw [nI_leI (by omega) (by omega)] at hc12)
        exfalso; omega
      · (try rw [nI_leI (by omega) (by omega)] at hc12)
        refine v_aload_0 dX0_priceOf_15 ?_
        refine u_getR dX0_priceOf_16 gf_X0_25 (by first | assumption | exact led_1 (by assumption) | exact led_2 (by assumption) | exact bk_m (by assumption) (by first | assumption | omega) | exact bk_p (by assumption) (by first | assumption | omega) | exact bk_o (by assumption) (by first | assumption | omega) | exact bk_s (by assumption) (by first | assumption | omega) | exact bk_1 (by assumption) | exact bk_2 (by assumption) | exact bk_3 (by assumption) | exact bk_4 (by assumption) | exact bk_5 (by assumption) | exact bk_6 (by assumption) | exact bk_7 (by assumption) | exact bk_8 (by assumption) | rfl) (ro_X0_9 (by assumption) (by assumption)) ?_
        refine v_iload_6 dX0_priceOf_19 ?_
        refine u_aald dX0_priceOf_21 (by first | assumption | exact led_1 (by assumption) | exact led_2 (by assumption) | exact bk_m (by assumption) (by first | assumption | omega) | exact bk_p (by assumption) (by first | assumption | omega) | exact bk_o (by assumption) (by first | assumption | omega) | exact bk_s (by assumption) (by first | assumption | omega) | exact bk_1 (by assumption) | exact bk_2 (by assumption) | exact bk_3 (by assumption) | exact bk_4 (by assumption) | exact bk_5 (by assumption) | exact bk_6 (by assumption) | exact bk_7 (by assumption) | exact bk_8 (by assumption) | rfl) (by decide) (by decide) rfl (by first | rfl | (simp only [nlit, nI_add, pk_mul]; rfl)) (by first | assumption | omega) (by decide) (by first | exact ro_m (by assumption) (by assumption) (by first | assumption | omega) | exact ro_p (by assumption) (by assumption) (by first | assumption | omega) | exact ro_o (by assumption) (by assumption) (by first | assumption | omega) | exact ro_s (by assumption) (by assumption) (by first | assumption | omega) | exact ro_ring (by assumption) (by first | assumption | omega) | exact ro_imgs (by assumption) (by first | assumption | omega)) ?_
        refine v_astore_7 rfl dX0_priceOf_22 ?_
        refine v_aload_7 dX0_priceOf_24 ?_
        refine u_getI dX0_priceOf_26 gf_X0_111 (by first | assumption | exact led_1 (by assumption) | exact led_2 (by assumption) | exact bk_m (by assumption) (by first | assumption | omega) | exact bk_p (by assumption) (by first | assumption | omega) | exact bk_o (by assumption) (by first | assumption | omega) | exact bk_s (by assumption) (by first | assumption | omega) | exact bk_1 (by assumption) | exact bk_2 (by assumption) | exact bk_3 (by assumption) | exact bk_4 (by assumption) | exact bk_5 (by assumption) | exact bk_6 (by assumption) | exact bk_7 (by assumption) | exact bk_8 (by assumption) | rfl) ?_
        (first | (rw [bo0 hF]; rotate_left; (first | assumption | omega)) | skip)
        refine v_iload_1 dX0_priceOf_29 ?_
        refine v_icmp_ne (tgt := 62) dX0_priceOf_30 (by decide) (fun hc30 => ?_) (fun hc30 => ?_)
        · (try rw [nI_eq (by omega) (by omega)] at hc30)
          refine v_iinc_6 (v := 1) rfl dX0_priceOf_62 (by decide) ?_
          refine v_goto (tgt := 6) dX0_priceOf_65 (by decide) ?_
          rw [← nI_succ]
          refine ih (i + 1) _ _ (by omega) ?_
          simp only [sui] at hQ
          first
            | (simp only [pricef, if_neg hc30, Int32.add_zero] at hQ; exact hQ)
            | (simp only [pricef, if_pos hc30, if_neg (Nat.not_le.mpr hc39), Int32.add_zero] at hQ; exact hQ)
            | (simp only [pricef, if_pos hc30, if_pos (Nat.not_lt.mp hc39), if_neg (Nat.not_le.mpr hc49), Int32.add_zero] at hQ; exact hQ)
            | (simp only [pricef, if_pos hc30, if_pos (Nat.not_lt.mp hc39), if_pos (Nat.not_lt.mp hc49), Int32.add_zero] at hQ; exact hQ)
        · (try rw [nI_eq (by omega) (by omega)] at hc30)
          refine v_aload_7 dX0_priceOf_33 ?_
          refine u_getI dX0_priceOf_35 gf_X0_114 (by first | assumption | exact led_1 (by assumption) | exact led_2 (by assumption) | exact bk_m (by assumption) (by first | assumption | omega) | exact bk_p (by assumption) (by first | assumption | omega) | exact bk_o (by assumption) (by first | assumption | omega) | exact bk_s (by assumption) (by first | assumption | omega) | exact bk_1 (by assumption) | exact bk_2 (by assumption) | exact bk_3 (by assumption) | exact bk_4 (by assumption) | exact bk_5 (by assumption) | exact bk_6 (by assumption) | exact bk_7 (by assumption) | exact bk_8 (by assumption) | rfl) ?_
          (first | (rw [bo2 hF]; rotate_left; (first | assumption | omega)) | skip)
          refine v_iload_3 dX0_priceOf_38 ?_
          refine v_icmp_lt (tgt := 62) dX0_priceOf_39 (by decide) (fun hc39 => ?_) (fun hc39 => ?_)
          · (try rw [nI_ltI (by omega) (by omega)] at hc39)
            refine v_iinc_6 (v := 1) rfl dX0_priceOf_62 (by decide) ?_
            refine v_goto (tgt := 6) dX0_priceOf_65 (by decide) ?_
            rw [← nI_succ]
            refine ih (i + 1) _ _ (by omega) ?_
            simp only [sui] at hQ
            first
              | (simp only [pricef, if_neg hc30, Int32.add_zero] at hQ; exact hQ)
              | (simp only [pricef, if_pos hc30, if_neg (Nat.not_le.mpr hc39), Int32.add_zero] at hQ; exact hQ)
              | (simp only [pricef, if_pos hc30, if_pos (Nat.not_lt.mp hc39), if_neg (Nat.not_le.mpr hc49), Int32.add_zero] at hQ; exact hQ)
              | (simp only [pricef, if_pos hc30, if_pos (Nat.not_lt.mp hc39), if_pos (Nat.not_lt.mp hc49), Int32.add_zero] at hQ; exact hQ)
          · (try rw [nI_ltI (by omega) (by omega)] at hc39)
            refine v_aload_7 dX0_priceOf_42 ?_
            refine u_getI dX0_priceOf_44 gf_X0_114 (by first | assumption | exact led_1 (by assumption) | exact led_2 (by assumption) | exact bk_m (by assumption) (by first | assumption | omega) | exact bk_p (by assumption) (by first | assumption | omega) | exact bk_o (by assumption) (by first | assumption | omega) | exact bk_s (by assumption) (by first | assumption | omega) | exact bk_1 (by assumption) | exact bk_2 (by assumption) | exact bk_3 (by assumption) | exact bk_4 (by assumption) | exact bk_5 (by assumption) | exact bk_6 (by assumption) | exact bk_7 (by assumption) | exact bk_8 (by assumption) | rfl) ?_
            (first | (rw [bo2 hF]; rotate_left; (first | assumption | omega)) | skip)
            refine v_iload_4 dX0_priceOf_47 ?_
            refine v_icmp_gt (tgt := 62) dX0_priceOf_49 (by decide) (fun hc49 => ?_) (fun hc49 => ?_)
            · (try rw [nI_ltI (by omega) (by omega)] at hc49)
              refine v_iinc_6 (v := 1) rfl dX0_priceOf_62 (by decide) ?_
              refine v_goto (tgt := 6) dX0_priceOf_65 (by decide) ?_
              rw [← nI_succ]
              refine ih (i + 1) _ _ (by omega) ?_
              simp only [sui] at hQ
              first
                | (simp only [pricef, if_neg hc30, Int32.add_zero] at hQ; exact hQ)
                | (simp only [pricef, if_pos hc30, if_neg (Nat.not_le.mpr hc39), Int32.add_zero] at hQ; exact hQ)
                | (simp only [pricef, if_pos hc30, if_pos (Nat.not_lt.mp hc39), if_neg (Nat.not_le.mpr hc49), Int32.add_zero] at hQ; exact hQ)
                | (simp only [pricef, if_pos hc30, if_pos (Nat.not_lt.mp hc39), if_pos (Nat.not_lt.mp hc49), Int32.add_zero] at hQ; exact hQ)
            · (try rw [nI_ltI (by omega) (by omega)] at hc49)
              refine v_iload_5 dX0_priceOf_52 ?_
              refine v_aload_7 dX0_priceOf_54 ?_
              refine u_getI dX0_priceOf_56 gf_X0_157 (by first | assumption | exact led_1 (by assumption) | exact led_2 (by assumption) | exact bk_m (by assumption) (by first | assumption | omega) | exact bk_p (by assumption) (by first | assumption | omega) | exact bk_o (by assumption) (by first | assumption | omega) | exact bk_s (by assumption) (by first | assumption | omega) | exact bk_1 (by assumption) | exact bk_2 (by assumption) | exact bk_3 (by assumption) | exact bk_4 (by assumption) | exact bk_5 (by assumption) | exact bk_6 (by assumption) | exact bk_7 (by assumption) | exact bk_8 (by assumption) | rfl) ?_
              (first | (rw [bo4 hF]; rotate_left; (first | assumption | omega)) | skip)
              refine v_iadd dX0_priceOf_59 ?_
              refine v_istore_5 rfl dX0_priceOf_60 ?_
              refine v_iinc_6 (v := 1) rfl dX0_priceOf_62 (by decide) ?_
              refine v_goto (tgt := 6) dX0_priceOf_65 (by decide) ?_
              rw [← nI_succ]
              refine ih (i + 1) _ _ (by omega) ?_
              simp only [sui] at hQ
              first
                | (simp only [pricef, if_neg hc30, Int32.add_zero] at hQ; exact hQ)
                | (simp only [pricef, if_pos hc30, if_neg (Nat.not_le.mpr hc39), Int32.add_zero] at hQ; exact hQ)
                | (simp only [pricef, if_pos hc30, if_pos (Nat.not_lt.mp hc39), if_neg (Nat.not_le.mpr hc49), Int32.add_zero] at hQ; exact hQ)
                | (simp only [pricef, if_pos hc30, if_pos (Nat.not_lt.mp hc39), if_pos (Nat.not_lt.mp hc49), Int32.add_zero] at hQ; exact hQ)
  refine v_iconst (v := nI 0) dX0_priceOf_0 (by decide) ?_
  refine v_istore_5 rfl dX0_priceOf_1 ?_
  refine v_iconst (v := nI 0) dX0_priceOf_3 (by decide) ?_
  refine v_istore_6 rfl dX0_priceOf_4 ?_
  exact loop (F 4) 0 0 none (by omega) hQ
theorem c_X0_isBeforeHandingOn {o : Nat} (hR : RO R) (hB : SH B = .inl 0) (hF : BkI I B F) (hO : FOK F) (ha : SH a = .inl 2) (hL : LedI I a n g) (hps : pers F n g) (ho : o < F 4) (hQ : Q (some (.int (bI (befV F n g o)))) SH I L R) : KK 3 mX0_isBeforeHandingOn b ad [.ref (b + B), .int (nI o), .ref (b + a)] I L R Q := by
  obtain ⟨k0, k1, k2, k3, k4, k5, k6, -⟩ := id hO
  obtain ⟨q1, q2, q3, q4, q5, q6, q7⟩ := fk_o hO ho
  refine K.of (M := mX0_isBeforeHandingOn) (lv := [some (.ref (b + B)), some (.int (nI o)), some (.ref (b + a)), none]) (by decide) (Nat.le_of_ble_eq_true rfl) rfl ?_
  refine v_aload_2 dX0_isBeforeHandingOn_0 ?_
  refine v_aload_0 dX0_isBeforeHandingOn_1 ?_
  refine u_getR dX0_isBeforeHandingOn_2 gf_X0_25 (by first | assumption | exact led_1 (by assumption) | exact led_2 (by assumption) | exact bk_m (by assumption) (by first | assumption | omega) | exact bk_p (by assumption) (by first | assumption | omega) | exact bk_o (by assumption) (by first | assumption | omega) | exact bk_s (by assumption) (by first | assumption | omega) | exact bk_1 (by assumption) | exact bk_2 (by assumption) | exact bk_3 (by assumption) | exact bk_4 (by assumption) | exact bk_5 (by assumption) | exact bk_6 (by assumption) | exact bk_7 (by assumption) | exact bk_8 (by assumption) | rfl) (ro_X0_9 (by assumption) (by assumption)) ?_
  refine v_iload_1 dX0_isBeforeHandingOn_5 ?_
  refine u_aald dX0_isBeforeHandingOn_6 (by first | assumption | exact led_1 (by assumption) | exact led_2 (by assumption) | exact bk_m (by assumption) (by first | assumption | omega) | exact bk_p (by assumption) (by first | assumption | omega) | exact bk_o (by assumption) (by first | assumption | omega) | exact bk_s (by assumption) (by first | assumption | omega) | exact bk_1 (by assumption) | exact bk_2 (by assumption) | exact bk_3 (by assumption) | exact bk_4 (by assumption) | exact bk_5 (by assumption) | exact bk_6 (by assumption) | exact bk_7 (by assumption) | exact bk_8 (by assumption) | rfl) (by decide) (by decide) rfl (by first | rfl | (simp only [nlit, nI_add, pk_mul]; rfl)) (by first | assumption | omega) (by decide) (by first | exact ro_m (by assumption) (by assumption) (by first | assumption | omega) | exact ro_p (by assumption) (by assumption) (by first | assumption | omega) | exact ro_o (by assumption) (by assumption) (by first | assumption | omega) | exact ro_s (by assumption) (by assumption) (by first | assumption | omega) | exact ro_ring (by assumption) (by first | assumption | omega) | exact ro_imgs (by assumption) (by first | assumption | omega)) ?_
  refine u_getI dX0_isBeforeHandingOn_7 gf_X0_111 (by first | assumption | exact led_1 (by assumption) | exact led_2 (by assumption) | exact bk_m (by assumption) (by first | assumption | omega) | exact bk_p (by assumption) (by first | assumption | omega) | exact bk_o (by assumption) (by first | assumption | omega) | exact bk_s (by assumption) (by first | assumption | omega) | exact bk_1 (by assumption) | exact bk_2 (by assumption) | exact bk_3 (by assumption) | exact bk_4 (by assumption) | exact bk_5 (by assumption) | exact bk_6 (by assumption) | exact bk_7 (by assumption) | exact bk_8 (by assumption) | rfl) ?_
  (first | (rw [bo0 hF]; rotate_left; (first | assumption | omega)) | skip)
  refine v_aload_0 dX0_isBeforeHandingOn_10 ?_
  refine u_getR dX0_isBeforeHandingOn_11 gf_X0_25 (by first | assumption | exact led_1 (by assumption) | exact led_2 (by assumption) | exact bk_m (by assumption) (by first | assumption | omega) | exact bk_p (by assumption) (by first | assumption | omega) | exact bk_o (by assumption) (by first | assumption | omega) | exact bk_s (by assumption) (by first | assumption | omega) | exact bk_1 (by assumption) | exact bk_2 (by assumption) | exact bk_3 (by assumption) | exact bk_4 (by assumption) | exact bk_5 (by assumption) | exact bk_6 (by assumption) | exact bk_7 (by assumption) | exact bk_8 (by assumption) | rfl) (ro_X0_9 (by assumption) (by assumption)) ?_
  refine v_iload_1 dX0_isBeforeHandingOn_14 ?_
  refine u_aald dX0_isBeforeHandingOn_15 (by first | assumption | exact led_1 (by assumption) | exact led_2 (by assumption) | exact bk_m (by assumption) (by first | assumption | omega) | exact bk_p (by assumption) (by first | assumption | omega) | exact bk_o (by assumption) (by first | assumption | omega) | exact bk_s (by assumption) (by first | assumption | omega) | exact bk_1 (by assumption) | exact bk_2 (by assumption) | exact bk_3 (by assumption) | exact bk_4 (by assumption) | exact bk_5 (by assumption) | exact bk_6 (by assumption) | exact bk_7 (by assumption) | exact bk_8 (by assumption) | rfl) (by decide) (by decide) rfl (by first | rfl | (simp only [nlit, nI_add, pk_mul]; rfl)) (by first | assumption | omega) (by decide) (by first | exact ro_m (by assumption) (by assumption) (by first | assumption | omega) | exact ro_p (by assumption) (by assumption) (by first | assumption | omega) | exact ro_o (by assumption) (by assumption) (by first | assumption | omega) | exact ro_s (by assumption) (by assumption) (by first | assumption | omega) | exact ro_ring (by assumption) (by first | assumption | omega) | exact ro_imgs (by assumption) (by first | assumption | omega)) ?_
  refine u_getI dX0_isBeforeHandingOn_16 gf_X0_114 (by first | assumption | exact led_1 (by assumption) | exact led_2 (by assumption) | exact bk_m (by assumption) (by first | assumption | omega) | exact bk_p (by assumption) (by first | assumption | omega) | exact bk_o (by assumption) (by first | assumption | omega) | exact bk_s (by assumption) (by first | assumption | omega) | exact bk_1 (by assumption) | exact bk_2 (by assumption) | exact bk_3 (by assumption) | exact bk_4 (by assumption) | exact bk_5 (by assumption) | exact bk_6 (by assumption) | exact bk_7 (by assumption) | exact bk_8 (by assumption) | rfl) ?_
  (first | (rw [bo2 hF]; rotate_left; (first | assumption | omega)) | skip)
  refine u_callV_2 dX0_isBeforeHandingOn_19 ml_X0_169 mv_X2_find (by first | assumption | exact led_1 (by assumption) | exact led_2 (by assumption) | exact bk_m (by assumption) (by first | assumption | omega) | exact bk_p (by assumption) (by first | assumption | omega) | exact bk_o (by assumption) (by first | assumption | omega) | exact bk_s (by assumption) (by first | assumption | omega) | exact bk_1 (by assumption) | exact bk_2 (by assumption) | exact bk_3 (by assumption) | exact bk_4 (by assumption) | exact bk_5 (by assumption) | exact bk_6 (by assumption) | exact bk_7 (by assumption) | exact bk_8 (by assumption) | rfl) (by decide) rfl (by decide) (Nat.le_of_ble_eq_true rfl) (c_X2_find hR ha hL (by omega) (by omega) ?_)
  refine v_istore_3 rfl dX0_isBeforeHandingOn_22 ?_
  cases hf : fup (hitm g (F (56 + 6 * o)) (F (58 + 6 * o)) (F (58 + 6 * o))) 0 n with
  | none =>
    simp only [eO]
    refine v_iload_3 dX0_isBeforeHandingOn_23 ?_
    refine v_if_lt (tgt := 61) dX0_isBeforeHandingOn_24 (by decide) (fun hc => ?_) (fun hc => absurd (by decide) hc)
    refine v_iconst (v := nI 0) dX0_isBeforeHandingOn_61 (by decide) ?_
    refine v_zret dX0_isBeforeHandingOn_62 rfl rfl rfl rfl rfl ?_
    rw [bI_f (by simp [befV, oweI, hf])] at hQ; exact hQ
  | some i =>
    obtain ⟨f1, f2, f3⟩ := fup_some hf
    have hi : i < n := by omega
    obtain ⟨l1, l2⟩ := hL.2.2 i hi
    have h20 := hL.2.1
    have l3 := l2
    obtain ⟨o1, o2, o3, o4, o5⟩ := l3
    have hpi := (hps i hi).2.1
    simp only [eO]
    refine v_iload_3 dX0_isBeforeHandingOn_23 ?_
    refine v_if_lt (tgt := 61) dX0_isBeforeHandingOn_24 (by decide) (fun hc => absurd hc (nI_pos (by omega))) (fun hc => ?_)
    refine v_aload_2 dX0_isBeforeHandingOn_27 ?_
    refine v_iload_3 dX0_isBeforeHandingOn_28 ?_
    refine u_callV_1 dX0_isBeforeHandingOn_29 ml_X0_172 mv_X2_lastDay (by first | assumption | exact led_1 (by assumption) | exact led_2 (by assumption) | exact bk_m (by assumption) (by first | assumption | omega) | exact bk_p (by assumption) (by first | assumption | omega) | exact bk_o (by assumption) (by first | assumption | omega) | exact bk_s (by assumption) (by first | assumption | omega) | exact bk_1 (by assumption) | exact bk_2 (by assumption) | exact bk_3 (by assumption) | exact bk_4 (by assumption) | exact bk_5 (by assumption) | exact bk_6 (by assumption) | exact bk_7 (by assumption) | exact bk_8 (by assumption) | rfl) (by decide) rfl (by decide) (Nat.le_of_ble_eq_true rfl) (c_X2_lastDay (q := g i) hR ha (by omega) l1 l2 ?_)
    refine v_aload_0 dX0_isBeforeHandingOn_32 ?_
    refine u_getR dX0_isBeforeHandingOn_33 gf_X0_25 (by first | assumption | exact led_1 (by assumption) | exact led_2 (by assumption) | exact bk_m (by assumption) (by first | assumption | omega) | exact bk_p (by assumption) (by first | assumption | omega) | exact bk_o (by assumption) (by first | assumption | omega) | exact bk_s (by assumption) (by first | assumption | omega) | exact bk_1 (by assumption) | exact bk_2 (by assumption) | exact bk_3 (by assumption) | exact bk_4 (by assumption) | exact bk_5 (by assumption) | exact bk_6 (by assumption) | exact bk_7 (by assumption) | exact bk_8 (by assumption) | rfl) (ro_X0_9 (by assumption) (by assumption)) ?_
    refine v_iload_1 dX0_isBeforeHandingOn_36 ?_
    refine u_aald dX0_isBeforeHandingOn_37 (by first | assumption | exact led_1 (by assumption) | exact led_2 (by assumption) | exact bk_m (by assumption) (by first | assumption | omega) | exact bk_p (by assumption) (by first | assumption | omega) | exact bk_o (by assumption) (by first | assumption | omega) | exact bk_s (by assumption) (by first | assumption | omega) | exact bk_1 (by assumption) | exact bk_2 (by assumption) | exact bk_3 (by assumption) | exact bk_4 (by assumption) | exact bk_5 (by assumption) | exact bk_6 (by assumption) | exact bk_7 (by assumption) | exact bk_8 (by assumption) | rfl) (by decide) (by decide) rfl (by first | rfl | (simp only [nlit, nI_add, pk_mul]; rfl)) (by first | assumption | omega) (by decide) (by first | exact ro_m (by assumption) (by assumption) (by first | assumption | omega) | exact ro_p (by assumption) (by assumption) (by first | assumption | omega) | exact ro_o (by assumption) (by assumption) (by first | assumption | omega) | exact ro_s (by assumption) (by assumption) (by first | assumption | omega) | exact ro_ring (by assumption) (by first | assumption | omega) | exact ro_imgs (by assumption) (by first | assumption | omega)) ?_
    refine u_getI dX0_isBeforeHandingOn_38 gf_X0_114 (by first | assumption | exact led_1 (by assumption) | exact led_2 (by assumption) | exact bk_m (by assumption) (by first | assumption | omega) | exact bk_p (by assumption) (by first | assumption | omega) | exact bk_o (by assumption) (by first | assumption | omega) | exact bk_s (by assumption) (by first | assumption | omega) | exact bk_1 (by assumption) | exact bk_2 (by assumption) | exact bk_3 (by assumption) | exact bk_4 (by assumption) | exact bk_5 (by assumption) | exact bk_6 (by assumption) | exact bk_7 (by assumption) | exact bk_8 (by assumption) | rfl) ?_
    (first | (rw [bo2 hF]; rotate_left; (first | assumption | omega)) | skip)
    refine v_icmp_ne (tgt := 61) dX0_isBeforeHandingOn_41 (by decide) (fun hc41 => ?_) (fun hc41 => ?_)
    · (try rw [nI_eq (by omega) (by omega)] at hc41)
      refine v_iconst (v := nI 0) dX0_isBeforeHandingOn_61 (by decide) ?_
      refine v_zret dX0_isBeforeHandingOn_62 (by first | rfl | exact bI_n _) rfl rfl rfl rfl ?_
      first | (have e : couldV F (some (g i).2.1) o = true := hc54; rw [show befV F n g o = true from by simp only [befV, oweI, hf, hc41, e, decide_true, Bool.and_self]] at hQ; exact hQ) | (have e : couldV F (some (g i).2.1) o = false := hc54; rw [show befV F n g o = false from by simp only [befV, oweI, hf, e, Bool.and_false]] at hQ; exact hQ) | (have e : ¬ (g i).2.2.2 = F (58 + 6 * o) := hc41; rw [show befV F n g o = false from by simp only [befV, oweI, hf, e, decide_false, Bool.false_and]] at hQ; exact hQ)
    · (try rw [nI_eq (by omega) (by omega)] at hc41)
      refine v_aload_0 dX0_isBeforeHandingOn_44 ?_
      refine v_aload_2 dX0_isBeforeHandingOn_45 ?_
      refine v_iload_3 dX0_isBeforeHandingOn_46 ?_
      refine u_callV_1 dX0_isBeforeHandingOn_47 ml_X0_176 mv_X2_personAt (by first | assumption | exact led_1 (by assumption) | exact led_2 (by assumption) | exact bk_m (by assumption) (by first | assumption | omega) | exact bk_p (by assumption) (by first | assumption | omega) | exact bk_o (by assumption) (by first | assumption | omega) | exact bk_s (by assumption) (by first | assumption | omega) | exact bk_1 (by assumption) | exact bk_2 (by assumption) | exact bk_3 (by assumption) | exact bk_4 (by assumption) | exact bk_5 (by assumption) | exact bk_6 (by assumption) | exact bk_7 (by assumption) | exact bk_8 (by assumption) | rfl) (by decide) rfl (by decide) (Nat.le_of_ble_eq_true rfl) (c_X2_personAt (q := g i) hR ha (by omega) l1 l2 ?_)
      refine v_iload_1 dX0_isBeforeHandingOn_50 ?_
      refine u_callV_2 dX0_isBeforeHandingOn_51 ml_X0_108 mv_X0_couldDo (by first | assumption | exact led_1 (by assumption) | exact led_2 (by assumption) | exact bk_m (by assumption) (by first | assumption | omega) | exact bk_p (by assumption) (by first | assumption | omega) | exact bk_o (by assumption) (by first | assumption | omega) | exact bk_s (by assumption) (by first | assumption | omega) | exact bk_1 (by assumption) | exact bk_2 (by assumption) | exact bk_3 (by assumption) | exact bk_4 (by assumption) | exact bk_5 (by assumption) | exact bk_6 (by assumption) | exact bk_7 (by assumption) | exact bk_8 (by assumption) | rfl) (by decide) rfl (by decide) (Nat.le_of_ble_eq_true rfl) (c_X0_couldDo (op := some (g i).2.1) hR hB hF hO (fun p h => by cases h; exact hpi) ho ?_)
      refine v_if_eq (tgt := 61) dX0_isBeforeHandingOn_54 (by decide) (fun hc54 => ?_) (fun hc54 => ?_)
      · (first | rw [bI_0, Bool.not_eq_false] at hc54 | rw [bI_0] at hc54 | rw [show (0 : Int32) = nI 0 from rfl, nI_eq (by omega) (by omega)] at hc54 | skip)
        refine v_iconst (v := nI 0) dX0_isBeforeHandingOn_61 (by decide) ?_
        refine v_zret dX0_isBeforeHandingOn_62 (by first | rfl | exact bI_n _) rfl rfl rfl rfl ?_
        first | (have e : couldV F (some (g i).2.1) o = true := hc54; rw [show befV F n g o = true from by simp only [befV, oweI, hf, hc41, e, decide_true, Bool.and_self]] at hQ; exact hQ) | (have e : couldV F (some (g i).2.1) o = false := hc54; rw [show befV F n g o = false from by simp only [befV, oweI, hf, e, Bool.and_false]] at hQ; exact hQ) | (have e : ¬ (g i).2.2.2 = F (58 + 6 * o) := hc41; rw [show befV F n g o = false from by simp only [befV, oweI, hf, e, decide_false, Bool.false_and]] at hQ; exact hQ)
      · (first | rw [bI_0, Bool.not_eq_false] at hc54 | rw [bI_0] at hc54 | rw [show (0 : Int32) = nI 0 from rfl, nI_eq (by omega) (by omega)] at hc54 | skip)
        refine v_iconst (v := nI 1) dX0_isBeforeHandingOn_57 (by decide) ?_
        refine v_goto (tgt := 62) dX0_isBeforeHandingOn_58 (by decide) ?_
        refine v_zret dX0_isBeforeHandingOn_62 (by first | rfl | exact bI_n _) rfl rfl rfl rfl ?_
        first | (have e : couldV F (some (g i).2.1) o = true := hc54; rw [show befV F n g o = true from by simp only [befV, oweI, hf, hc41, e, decide_true, Bool.and_self]] at hQ; exact hQ) | (have e : couldV F (some (g i).2.1) o = false := hc54; rw [show befV F n g o = false from by simp only [befV, oweI, hf, e, Bool.and_false]] at hQ; exact hQ) | (have e : ¬ (g i).2.2.2 = F (58 + 6 * o) := hc41; rw [show befV F n g o = false from by simp only [befV, oweI, hf, e, decide_false, Bool.false_and]] at hQ; exact hQ)
theorem c_X0_leastDeposit (hR : RO R) (hB : SH B = .inl 0) (hF : BkI I B F) (hO : FOK F) (ha : SH a = .inl 2) (hL : LedI I a n g) (hps : pers F n g) (hQ : Q (some (.int (ldp F n g 0 (F 4) 0))) SH I L R) : KK 4 mX0_leastDeposit b ad [.ref (b + B), .ref (b + a)] I L R Q := by
  obtain ⟨k0, k1, k2, k3, k4, k5, k6, -⟩ := id hO
  refine K.of (M := mX0_leastDeposit) (lv := [some (.ref (b + B)), some (.ref (b + a)), none, none]) (by decide) (Nat.le_of_ble_eq_true rfl) rfl ?_
  have loop : ∀ (j i c : Nat), i + j = F 4 → c < 100 → Q (some (.int (ldp F n g i j c))) SH I L R → VV yX0_leastDeposit cX0_leastDeposit 4 (some .int) 4 Q b ad 4 [some (.ref (b + B)), some (.ref (b + a)), some (.int (nI c)), some (.int (nI i))] [] I L R := by
    intro j
    induction j with
    | zero =>
      intro i c hij hc hQ
      refine v_iload_3 dX0_leastDeposit_4 ?_
      refine v_aload_0 dX0_leastDeposit_5 ?_
      refine u_getI dX0_leastDeposit_6 gf_X0_69 (by first | assumption | exact led_1 (by assumption) | exact led_2 (by assumption) | exact bk_m (by assumption) (by first | assumption | omega) | exact bk_p (by assumption) (by first | assumption | omega) | exact bk_o (by assumption) (by first | assumption | omega) | exact bk_s (by assumption) (by first | assumption | omega) | exact bk_1 (by assumption) | exact bk_2 (by assumption) | exact bk_3 (by assumption) | exact bk_4 (by assumption) | exact bk_5 (by assumption) | exact bk_6 (by assumption) | exact bk_7 (by assumption) | exact bk_8 (by assumption) | rfl) ?_
      (try rw [bx4 hF])
      refine v_icmp_ge (tgt := 65) dX0_leastDeposit_9 (by decide) (fun hc9 => ?_) (fun hc9 => ?_)
      · (try rw [nI_leI (by omega) (by omega)] at hc9)
        refine v_iload_2 dX0_leastDeposit_65 ?_
        refine v_iret dX0_leastDeposit_66 rfl rfl rfl rfl ?_
        exact hQ
      · (try rw [nI_leI (by omega) (by omega)] at hc9)
        exfalso; omega
    | succ j ih =>
      intro i c hij hc hQ
      obtain ⟨r1, r2, r3, r4, r5, r6, r7⟩ := fk_o hO (show i < F 4 by omega)
      refine v_iload_3 dX0_leastDeposit_4 ?_
      refine v_aload_0 dX0_leastDeposit_5 ?_
      refine u_getI dX0_leastDeposit_6 gf_X0_69 (by first | assumption | exact led_1 (by assumption) | exact led_2 (by assumption) | exact bk_m (by assumption) (by first | assumption | omega) | exact bk_p (by assumption) (by first | assumption | omega) | exact bk_o (by assumption) (by first | assumption | omega) | exact bk_s (by assumption) (by first | assumption | omega) | exact bk_1 (by assumption) | exact bk_2 (by assumption) | exact bk_3 (by assumption) | exact bk_4 (by assumption) | exact bk_5 (by assumption) | exact bk_6 (by assumption) | exact bk_7 (by assumption) | exact bk_8 (by assumption) | rfl) ?_
      (try rw [bx4 hF])
      refine v_icmp_ge (tgt := 65) dX0_leastDeposit_9 (by decide) (fun hc9 => ?_) (fun hc9 => ?_)
      · (try rw [nI_leI (by omega) (by omega)] at hc9)
        exfalso; omega
      · (try rw [nI_leI (by omega) (by omega)] at hc9)
        refine v_aload_0 dX0_leastDeposit_12 ?_
        refine v_iload_3 dX0_leastDeposit_13 ?_
        refine v_aload_1 dX0_leastDeposit_14 ?_
        refine u_callV_2 dX0_leastDeposit_15 ml_X0_166 mv_X0_isBeforeHandingOn (by first | assumption | exact led_1 (by assumption) | exact led_2 (by assumption) | exact bk_m (by assumption) (by first | assumption | omega) | exact bk_p (by assumption) (by first | assumption | omega) | exact bk_o (by assumption) (by first | assumption | omega) | exact bk_s (by assumption) (by first | assumption | omega) | exact bk_1 (by assumption) | exact bk_2 (by assumption) | exact bk_3 (by assumption) | exact bk_4 (by assumption) | exact bk_5 (by assumption) | exact bk_6 (by assumption) | exact bk_7 (by assumption) | exact bk_8 (by assumption) | rfl) (by decide) rfl (by decide) (Nat.le_of_ble_eq_true rfl) (c_X0_isBeforeHandingOn hR hB hF hO ha hL hps (by omega) ?_)
        refine v_if_eq (tgt := 59) dX0_leastDeposit_18 (by decide) (fun hc18 => ?_) (fun hc18 => ?_)
        · (first | rw [bI_0, Bool.not_eq_false] at hc18 | rw [bI_0] at hc18 | rw [show (0 : Int32) = nI 0 from rfl, nI_eq (by omega) (by omega)] at hc18 | skip)
          refine v_iinc_3 (v := 1) rfl dX0_leastDeposit_59 (by decide) ?_
          refine v_goto (tgt := 4) dX0_leastDeposit_62 (by decide) ?_
          rw [← nI_succ]
          refine ih (i + 1) _ (by omega) (by first | (split <;> omega) | omega) ?_
          first | (simp only [ldp, if_neg (show ¬ befV F n g i = true from by rw [hc18]; decide)] at hQ; exact hQ) | (simp only [ldp, if_pos hc18, if_neg (Nat.not_lt.mpr hc39)] at hQ; exact hQ)
        · (first | rw [bI_0, Bool.not_eq_false] at hc18 | rw [bI_0] at hc18 | rw [show (0 : Int32) = nI 0 from rfl, nI_eq (by omega) (by omega)] at hc18 | skip)
          refine v_aload_0 dX0_leastDeposit_21 ?_
          refine u_getR dX0_leastDeposit_22 gf_X0_25 (by first | assumption | exact led_1 (by assumption) | exact led_2 (by assumption) | exact bk_m (by assumption) (by first | assumption | omega) | exact bk_p (by assumption) (by first | assumption | omega) | exact bk_o (by assumption) (by first | assumption | omega) | exact bk_s (by assumption) (by first | assumption | omega) | exact bk_1 (by assumption) | exact bk_2 (by assumption) | exact bk_3 (by assumption) | exact bk_4 (by assumption) | exact bk_5 (by assumption) | exact bk_6 (by assumption) | exact bk_7 (by assumption) | exact bk_8 (by assumption) | rfl) (ro_X0_9 (by assumption) (by assumption)) ?_
          refine v_iload_3 dX0_leastDeposit_25 ?_
          refine u_aald dX0_leastDeposit_26 (by first | assumption | exact led_1 (by assumption) | exact led_2 (by assumption) | exact bk_m (by assumption) (by first | assumption | omega) | exact bk_p (by assumption) (by first | assumption | omega) | exact bk_o (by assumption) (by first | assumption | omega) | exact bk_s (by assumption) (by first | assumption | omega) | exact bk_1 (by assumption) | exact bk_2 (by assumption) | exact bk_3 (by assumption) | exact bk_4 (by assumption) | exact bk_5 (by assumption) | exact bk_6 (by assumption) | exact bk_7 (by assumption) | exact bk_8 (by assumption) | rfl) (by decide) (by decide) rfl (by first | rfl | (simp only [nlit, nI_add, pk_mul]; rfl)) (by first | assumption | omega) (by decide) (by first | exact ro_m (by assumption) (by assumption) (by first | assumption | omega) | exact ro_p (by assumption) (by assumption) (by first | assumption | omega) | exact ro_o (by assumption) (by assumption) (by first | assumption | omega) | exact ro_s (by assumption) (by assumption) (by first | assumption | omega) | exact ro_ring (by assumption) (by first | assumption | omega) | exact ro_imgs (by assumption) (by first | assumption | omega)) ?_
          refine u_getI dX0_leastDeposit_27 gf_X0_163 (by first | assumption | exact led_1 (by assumption) | exact led_2 (by assumption) | exact bk_m (by assumption) (by first | assumption | omega) | exact bk_p (by assumption) (by first | assumption | omega) | exact bk_o (by assumption) (by first | assumption | omega) | exact bk_s (by assumption) (by first | assumption | omega) | exact bk_1 (by assumption) | exact bk_2 (by assumption) | exact bk_3 (by assumption) | exact bk_4 (by assumption) | exact bk_5 (by assumption) | exact bk_6 (by assumption) | exact bk_7 (by assumption) | exact bk_8 (by assumption) | rfl) ?_
          (first | (rw [bo5 hF]; rotate_left; (first | assumption | omega)) | skip)
          refine v_aload_0 dX0_leastDeposit_30 ?_
          refine u_getR dX0_leastDeposit_31 gf_X0_25 (by first | assumption | exact led_1 (by assumption) | exact led_2 (by assumption) | exact bk_m (by assumption) (by first | assumption | omega) | exact bk_p (by assumption) (by first | assumption | omega) | exact bk_o (by assumption) (by first | assumption | omega) | exact bk_s (by assumption) (by first | assumption | omega) | exact bk_1 (by assumption) | exact bk_2 (by assumption) | exact bk_3 (by assumption) | exact bk_4 (by assumption) | exact bk_5 (by assumption) | exact bk_6 (by assumption) | exact bk_7 (by assumption) | exact bk_8 (by assumption) | rfl) (ro_X0_9 (by assumption) (by assumption)) ?_
          refine v_iload_3 dX0_leastDeposit_34 ?_
          refine u_aald dX0_leastDeposit_35 (by first | assumption | exact led_1 (by assumption) | exact led_2 (by assumption) | exact bk_m (by assumption) (by first | assumption | omega) | exact bk_p (by assumption) (by first | assumption | omega) | exact bk_o (by assumption) (by first | assumption | omega) | exact bk_s (by assumption) (by first | assumption | omega) | exact bk_1 (by assumption) | exact bk_2 (by assumption) | exact bk_3 (by assumption) | exact bk_4 (by assumption) | exact bk_5 (by assumption) | exact bk_6 (by assumption) | exact bk_7 (by assumption) | exact bk_8 (by assumption) | rfl) (by decide) (by decide) rfl (by first | rfl | (simp only [nlit, nI_add, pk_mul]; rfl)) (by first | assumption | omega) (by decide) (by first | exact ro_m (by assumption) (by assumption) (by first | assumption | omega) | exact ro_p (by assumption) (by assumption) (by first | assumption | omega) | exact ro_o (by assumption) (by assumption) (by first | assumption | omega) | exact ro_s (by assumption) (by assumption) (by first | assumption | omega) | exact ro_ring (by assumption) (by first | assumption | omega) | exact ro_imgs (by assumption) (by first | assumption | omega)) ?_
          refine u_getI dX0_leastDeposit_36 gf_X0_157 (by first | assumption | exact led_1 (by assumption) | exact led_2 (by assumption) | exact bk_m (by assumption) (by first | assumption | omega) | exact bk_p (by assumption) (by first | assumption | omega) | exact bk_o (by assumption) (by first | assumption | omega) | exact bk_s (by assumption) (by first | assumption | omega) | exact bk_1 (by assumption) | exact bk_2 (by assumption) | exact bk_3 (by assumption) | exact bk_4 (by assumption) | exact bk_5 (by assumption) | exact bk_6 (by assumption) | exact bk_7 (by assumption) | exact bk_8 (by assumption) | rfl) ?_
          (first | (rw [bo4 hF]; rotate_left; (first | assumption | omega)) | skip)
          refine v_icmp_le (tgt := 45) dX0_leastDeposit_39 (by decide) (fun hc39 => ?_) (fun hc39 => ?_)
          · (try rw [nI_leI (by omega) (by omega)] at hc39)
            refine v_iload_2 dX0_leastDeposit_45 ?_
            refine v_aload_0 dX0_leastDeposit_46 ?_
            refine u_getR dX0_leastDeposit_47 gf_X0_25 (by first | assumption | exact led_1 (by assumption) | exact led_2 (by assumption) | exact bk_m (by assumption) (by first | assumption | omega) | exact bk_p (by assumption) (by first | assumption | omega) | exact bk_o (by assumption) (by first | assumption | omega) | exact bk_s (by assumption) (by first | assumption | omega) | exact bk_1 (by assumption) | exact bk_2 (by assumption) | exact bk_3 (by assumption) | exact bk_4 (by assumption) | exact bk_5 (by assumption) | exact bk_6 (by assumption) | exact bk_7 (by assumption) | exact bk_8 (by assumption) | rfl) (ro_X0_9 (by assumption) (by assumption)) ?_
            refine v_iload_3 dX0_leastDeposit_50 ?_
            refine u_aald dX0_leastDeposit_51 (by first | assumption | exact led_1 (by assumption) | exact led_2 (by assumption) | exact bk_m (by assumption) (by first | assumption | omega) | exact bk_p (by assumption) (by first | assumption | omega) | exact bk_o (by assumption) (by first | assumption | omega) | exact bk_s (by assumption) (by first | assumption | omega) | exact bk_1 (by assumption) | exact bk_2 (by assumption) | exact bk_3 (by assumption) | exact bk_4 (by assumption) | exact bk_5 (by assumption) | exact bk_6 (by assumption) | exact bk_7 (by assumption) | exact bk_8 (by assumption) | rfl) (by decide) (by decide) rfl (by first | rfl | (simp only [nlit, nI_add, pk_mul]; rfl)) (by first | assumption | omega) (by decide) (by first | exact ro_m (by assumption) (by assumption) (by first | assumption | omega) | exact ro_p (by assumption) (by assumption) (by first | assumption | omega) | exact ro_o (by assumption) (by assumption) (by first | assumption | omega) | exact ro_s (by assumption) (by assumption) (by first | assumption | omega) | exact ro_ring (by assumption) (by first | assumption | omega) | exact ro_imgs (by assumption) (by first | assumption | omega)) ?_
            refine u_getI dX0_leastDeposit_52 gf_X0_163 (by first | assumption | exact led_1 (by assumption) | exact led_2 (by assumption) | exact bk_m (by assumption) (by first | assumption | omega) | exact bk_p (by assumption) (by first | assumption | omega) | exact bk_o (by assumption) (by first | assumption | omega) | exact bk_s (by assumption) (by first | assumption | omega) | exact bk_1 (by assumption) | exact bk_2 (by assumption) | exact bk_3 (by assumption) | exact bk_4 (by assumption) | exact bk_5 (by assumption) | exact bk_6 (by assumption) | exact bk_7 (by assumption) | exact bk_8 (by assumption) | rfl) ?_
            (first | (rw [bo5 hF]; rotate_left; (first | assumption | omega)) | skip)
            refine u_mmax dX0_leastDeposit_55 ml_X0_154 (by decide) (Nat.le_of_ble_eq_true rfl) ?_
            rw [show (if nI c < nI (F (61 + 6 * i)) then nI (F (61 + 6 * i)) else nI c) = nI (if c < F (61 + 6 * i) then F (61 + 6 * i) else c) from by
              by_cases hlt : c < F (61 + 6 * i)
              · rw [if_pos hlt, if_pos ((nI_ltI (by omega) (by omega)).mpr hlt)]
              · rw [if_neg hlt, if_neg (fun q => hlt ((nI_ltI (by omega) (by omega)).mp q))]]
            refine v_istore_2 rfl dX0_leastDeposit_58 ?_
            refine v_iinc_3 (v := 1) rfl dX0_leastDeposit_59 (by decide) ?_
            refine v_goto (tgt := 4) dX0_leastDeposit_62 (by decide) ?_
            rw [← nI_succ]
            refine ih (i + 1) _ (by omega) (by first | (split <;> omega) | omega) ?_
            first | (simp only [ldp, if_neg (show ¬ befV F n g i = true from by rw [hc18]; decide)] at hQ; exact hQ) | (simp only [ldp, if_pos hc18, if_neg (Nat.not_lt.mpr hc39)] at hQ; exact hQ)
          · (try rw [nI_leI (by omega) (by omega)] at hc39)
            refine v_bipush (v := -2) dX0_leastDeposit_42 (by decide) ?_
            refine v_iret dX0_leastDeposit_44 rfl rfl rfl rfl ?_
            simp only [ldp, if_pos hc18, if_pos (Nat.not_le.mp hc39)] at hQ; exact hQ
  refine v_iconst (v := nI 0) dX0_leastDeposit_0 (by decide) ?_
  refine v_istore_2 rfl dX0_leastDeposit_1 ?_
  refine v_iconst (v := nI 0) dX0_leastDeposit_2 (by decide) ?_
  refine v_istore_3 rfl dX0_leastDeposit_3 ?_
  exact loop (F 4) 0 0 (by omega) (by omega) hQ
theorem clamp_crs {m d i c : Nat} (hc : c < 100) (r5 : F (59 + 6 * i) < 100) (r6 : F (60 + 6 * i) < 100) (ho : isOfV F m d i = true) : (if nI 0 < (if nI c + (if doneV F n g br i = true then nI (F (59 + 6 * i)) else -nI (F (60 + 6 * i))) < nI 99 then nI c + (if doneV F n g br i = true then nI (F (59 + 6 * i)) else -nI (F (60 + 6 * i))) else nI 99) then (if nI c + (if doneV F n g br i = true then nI (F (59 + 6 * i)) else -nI (F (60 + 6 * i))) < nI 99 then nI c + (if doneV F n g br i = true then nI (F (59 + 6 * i)) else -nI (F (60 + 6 * i))) else nI 99) else nI 0) = nI (crs F n g br m d i c) := by
  unfold crs
  rw [if_pos ho]
  cases hd : doneV F n g br i with
  | true => simp only [if_true]; exact clamp_up hc r5
  | false => simp only [Bool.false_eq_true, if_false]; exact clamp_dn hc r6
theorem c_X0_creditBehind {m d : Nat} (hR : RO R) (hB : SH B = .inl 0) (hF : BkI I B F) (hO : FOK F) (ha : SH a = .inl 2) (hL : LedI I a n g) (hbr : BrI I a br) (hps : pers F n g) (hm : m < F 2) (hd : d < 2 ^ 30) (hQ : Q (some (.int (nI (crd F n g br m 1 d (F (20 + m)))))) SH I L R) : KK 6 mX0_creditBehind b ad [.ref (b + B), .int (nI m), .int (nI d), .ref (b + a)] I L R Q := by
  obtain ⟨k0, k1, k2, k3, k4, k5, k6, -⟩ := id hO
  have h20 := (fk_m hO hm).2.2
  refine K.of (M := mX0_creditBehind) (lv := [some (.ref (b + B)), some (.int (nI m)), some (.int (nI d)), some (.ref (b + a)), none, none, none, none]) (by decide) (Nat.le_of_ble_eq_true rfl) rfl ?_
  have inner : ∀ (j i c dd : Nat) (z : Option Value), i + j = F 4 → dd ≤ d → c < 100 → (∀ z6 z7, VV yX0_creditBehind cX0_creditBehind 8 (some .int) 6 Q b ad 14 [some (.ref (b + B)), some (.int (nI m)), some (.int (nI d)), some (.ref (b + a)), some (.int (nI (crl F n g br m dd i j c))), some (.int (nI (dd + 1))), z6, z7] [] I L R) → VV yX0_creditBehind cX0_creditBehind 8 (some .int) 6 Q b ad 23 [some (.ref (b + B)), some (.int (nI m)), some (.int (nI d)), some (.ref (b + a)), some (.int (nI c)), some (.int (nI dd)), some (.int (nI i)), z] [] I L R := by
    intro j
    induction j with
    | zero =>
      intro i c dd z hij hdd hc hk
      refine v_iload_6 dX0_creditBehind_23 ?_
      refine v_aload_0 dX0_creditBehind_25 ?_
      refine u_getI dX0_creditBehind_26 gf_X0_69 (by first | assumption | exact led_1 (by assumption) | exact led_2 (by assumption) | exact bk_m (by assumption) (by first | assumption | omega) | exact bk_p (by assumption) (by first | assumption | omega) | exact bk_o (by assumption) (by first | assumption | omega) | exact bk_s (by assumption) (by first | assumption | omega) | exact bk_1 (by assumption) | exact bk_2 (by assumption) | exact bk_3 (by assumption) | exact bk_4 (by assumption) | exact bk_5 (by assumption) | exact bk_6 (by assumption) | exact bk_7 (by assumption) | exact bk_8 (by assumption) | rfl) ?_
      (try rw [bx4 hF])
      refine v_icmp_ge (tgt := 89) dX0_creditBehind_29 (by decide) (fun hc29 => ?_) (fun hc29 => ?_)
      · (try rw [nI_leI (by omega) (by omega)] at hc29)
        refine v_iinc_5 (v := 1) rfl dX0_creditBehind_89 (by decide) ?_
        refine v_goto (tgt := 14) dX0_creditBehind_92 (by decide) ?_
        rw [← nI_succ]
        exact hk _ _
      · (try rw [nI_leI (by omega) (by omega)] at hc29)
        exfalso; omega
    | succ j ih =>
      intro i c dd z hij hdd hc hk
      obtain ⟨r1, r2, r3, r4, r5, r6, r7⟩ := fk_o hO (show i < F 4 by omega)
      have ih := fun i c z h1 h2 h3 => ih i c dd z h1 hdd h2 h3
      refine v_iload_6 dX0_creditBehind_23 ?_
      refine v_aload_0 dX0_creditBehind_25 ?_
      refine u_getI dX0_creditBehind_26 gf_X0_69 (by first | assumption | exact led_1 (by assumption) | exact led_2 (by assumption) | exact bk_m (by assumption) (by first | assumption | omega) | exact bk_p (by assumption) (by first | assumption | omega) | exact bk_o (by assumption) (by first | assumption | omega) | exact bk_s (by assumption) (by first | assumption | omega) | exact bk_1 (by assumption) | exact bk_2 (by assumption) | exact bk_3 (by assumption) | exact bk_4 (by assumption) | exact bk_5 (by assumption) | exact bk_6 (by assumption) | exact bk_7 (by assumption) | exact bk_8 (by assumption) | rfl) ?_
      (try rw [bx4 hF])
      refine v_icmp_ge (tgt := 89) dX0_creditBehind_29 (by decide) (fun hc29 => ?_) (fun hc29 => ?_)
      · (try rw [nI_leI (by omega) (by omega)] at hc29)
        exfalso; omega
      · (try rw [nI_leI (by omega) (by omega)] at hc29)
        refine v_aload_0 dX0_creditBehind_32 ?_
        refine u_getR dX0_creditBehind_33 gf_X0_25 (by first | assumption | exact led_1 (by assumption) | exact led_2 (by assumption) | exact bk_m (by assumption) (by first | assumption | omega) | exact bk_p (by assumption) (by first | assumption | omega) | exact bk_o (by assumption) (by first | assumption | omega) | exact bk_s (by assumption) (by first | assumption | omega) | exact bk_1 (by assumption) | exact bk_2 (by assumption) | exact bk_3 (by assumption) | exact bk_4 (by assumption) | exact bk_5 (by assumption) | exact bk_6 (by assumption) | exact bk_7 (by assumption) | exact bk_8 (by assumption) | rfl) (ro_X0_9 (by assumption) (by assumption)) ?_
        refine v_iload_6 dX0_creditBehind_36 ?_
        refine u_aald dX0_creditBehind_38 (by first | assumption | exact led_1 (by assumption) | exact led_2 (by assumption) | exact bk_m (by assumption) (by first | assumption | omega) | exact bk_p (by assumption) (by first | assumption | omega) | exact bk_o (by assumption) (by first | assumption | omega) | exact bk_s (by assumption) (by first | assumption | omega) | exact bk_1 (by assumption) | exact bk_2 (by assumption) | exact bk_3 (by assumption) | exact bk_4 (by assumption) | exact bk_5 (by assumption) | exact bk_6 (by assumption) | exact bk_7 (by assumption) | exact bk_8 (by assumption) | rfl) (by decide) (by decide) rfl (by first | rfl | (simp only [nlit, nI_add, pk_mul]; rfl)) (by first | assumption | omega) (by decide) (by first | exact ro_m (by assumption) (by assumption) (by first | assumption | omega) | exact ro_p (by assumption) (by assumption) (by first | assumption | omega) | exact ro_o (by assumption) (by assumption) (by first | assumption | omega) | exact ro_s (by assumption) (by assumption) (by first | assumption | omega) | exact ro_ring (by assumption) (by first | assumption | omega) | exact ro_imgs (by assumption) (by first | assumption | omega)) ?_
        refine v_iload_1 dX0_creditBehind_39 ?_
        refine v_iload_5 dX0_creditBehind_40 ?_
        refine u_callV_2 dX0_creditBehind_42 ml_X0_117 mv_X6_isOf (by first | assumption | exact led_1 (by assumption) | exact led_2 (by assumption) | exact bk_m (by assumption) (by first | assumption | omega) | exact bk_p (by assumption) (by first | assumption | omega) | exact bk_o (by assumption) (by first | assumption | omega) | exact bk_s (by assumption) (by first | assumption | omega) | exact bk_1 (by assumption) | exact bk_2 (by assumption) | exact bk_3 (by assumption) | exact bk_4 (by assumption) | exact bk_5 (by assumption) | exact bk_6 (by assumption) | exact bk_7 (by assumption) | exact bk_8 (by assumption) | rfl) (by decide) rfl (by decide) (Nat.le_of_ble_eq_true rfl) (c_X6_isOf (bk_o hB (by omega)) (bo0 hF (by omega)) (bo2 hF (by omega)) (by omega) (by omega) (by omega) (by omega) ?_)
        refine v_if_eq (tgt := 83) dX0_creditBehind_45 (by decide) (fun hc45 => ?_) (fun hc45 => ?_)
        · (first | rw [bI_0, Bool.not_eq_false] at hc45 | rw [bI_0] at hc45 | rw [show (0 : Int32) = nI 0 from rfl, nI_eq (by omega) (by omega)] at hc45 | skip)
          refine v_iinc_6 (v := 1) rfl dX0_creditBehind_83 (by decide) ?_
          refine v_goto (tgt := 23) dX0_creditBehind_86 (by decide) ?_
          rw [← nI_succ]
          first
            | (have e : isOfV F m dd i = true := hc45; exact ih (i + 1) _ _ (by omega) (crs_lt hc) hk)
            | (have e : isOfV F m dd i = false := hc45; refine ih (i + 1) _ _ (by omega) hc ?_; simp only [crl, crs, e] at hk; exact hk)
        · (first | rw [bI_0, Bool.not_eq_false] at hc45 | rw [bI_0] at hc45 | rw [show (0 : Int32) = nI 0 from rfl, nI_eq (by omega) (by omega)] at hc45 | skip)
          refine v_iload_4 dX0_creditBehind_48 ?_
          refine v_aload_0 dX0_creditBehind_50 ?_
          refine u_getR dX0_creditBehind_51 gf_X0_25 (by first | assumption | exact led_1 (by assumption) | exact led_2 (by assumption) | exact bk_m (by assumption) (by first | assumption | omega) | exact bk_p (by assumption) (by first | assumption | omega) | exact bk_o (by assumption) (by first | assumption | omega) | exact bk_s (by assumption) (by first | assumption | omega) | exact bk_1 (by assumption) | exact bk_2 (by assumption) | exact bk_3 (by assumption) | exact bk_4 (by assumption) | exact bk_5 (by assumption) | exact bk_6 (by assumption) | exact bk_7 (by assumption) | exact bk_8 (by assumption) | rfl) (ro_X0_9 (by assumption) (by assumption)) ?_
          refine v_iload_6 dX0_creditBehind_54 ?_
          refine u_aald dX0_creditBehind_56 (by first | assumption | exact led_1 (by assumption) | exact led_2 (by assumption) | exact bk_m (by assumption) (by first | assumption | omega) | exact bk_p (by assumption) (by first | assumption | omega) | exact bk_o (by assumption) (by first | assumption | omega) | exact bk_s (by assumption) (by first | assumption | omega) | exact bk_1 (by assumption) | exact bk_2 (by assumption) | exact bk_3 (by assumption) | exact bk_4 (by assumption) | exact bk_5 (by assumption) | exact bk_6 (by assumption) | exact bk_7 (by assumption) | exact bk_8 (by assumption) | rfl) (by decide) (by decide) rfl (by first | rfl | (simp only [nlit, nI_add, pk_mul]; rfl)) (by first | assumption | omega) (by decide) (by first | exact ro_m (by assumption) (by assumption) (by first | assumption | omega) | exact ro_p (by assumption) (by assumption) (by first | assumption | omega) | exact ro_o (by assumption) (by assumption) (by first | assumption | omega) | exact ro_s (by assumption) (by assumption) (by first | assumption | omega) | exact ro_ring (by assumption) (by first | assumption | omega) | exact ro_imgs (by assumption) (by first | assumption | omega)) ?_
          refine v_aload_0 dX0_creditBehind_57 ?_
          refine v_iload_6 dX0_creditBehind_58 ?_
          refine v_aload_3 dX0_creditBehind_60 ?_
          refine u_callV_2 dX0_creditBehind_61 ml_X0_141 mv_X0_isDone (by first | assumption | exact led_1 (by assumption) | exact led_2 (by assumption) | exact bk_m (by assumption) (by first | assumption | omega) | exact bk_p (by assumption) (by first | assumption | omega) | exact bk_o (by assumption) (by first | assumption | omega) | exact bk_s (by assumption) (by first | assumption | omega) | exact bk_1 (by assumption) | exact bk_2 (by assumption) | exact bk_3 (by assumption) | exact bk_4 (by assumption) | exact bk_5 (by assumption) | exact bk_6 (by assumption) | exact bk_7 (by assumption) | exact bk_8 (by assumption) | rfl) (by decide) rfl (by decide) (Nat.le_of_ble_eq_true rfl) (c_X0_isDone hR hB hF hO ha hL hbr hps (by omega) ?_)
          refine u_callV_1 dX0_creditBehind_64 ml_X0_145 mv_X6_yields (by first | assumption | exact led_1 (by assumption) | exact led_2 (by assumption) | exact bk_m (by assumption) (by first | assumption | omega) | exact bk_p (by assumption) (by first | assumption | omega) | exact bk_o (by assumption) (by first | assumption | omega) | exact bk_s (by assumption) (by first | assumption | omega) | exact bk_1 (by assumption) | exact bk_2 (by assumption) | exact bk_3 (by assumption) | exact bk_4 (by assumption) | exact bk_5 (by assumption) | exact bk_6 (by assumption) | exact bk_7 (by assumption) | exact bk_8 (by assumption) | rfl) (by decide) rfl (by decide) (Nat.le_of_ble_eq_true rfl) (c_X6_yields (bk_o hB (by omega)) (bo3 hF (by omega)) (bo4 hF (by omega)) ?_)
          refine v_iadd dX0_creditBehind_67 ?_
          refine v_istore_7 rfl dX0_creditBehind_68 ?_
          refine v_iconst (v := nI 0) dX0_creditBehind_70 (by decide) ?_
          refine v_bipush (v := nI 99) dX0_creditBehind_71 (by decide) ?_
          refine v_iload_7 dX0_creditBehind_73 ?_
          refine u_mmin dX0_creditBehind_75 ml_X0_149 (by decide) (Nat.le_of_ble_eq_true rfl) ?_
          refine u_mmax dX0_creditBehind_78 ml_X0_154 (by decide) (Nat.le_of_ble_eq_true rfl) ?_
          rw [clamp_crs hc r5 r6 (show isOfV F m dd i = true from hc45)]
          refine v_istore_4 rfl dX0_creditBehind_81 ?_
          refine v_iinc_6 (v := 1) rfl dX0_creditBehind_83 (by decide) ?_
          refine v_goto (tgt := 23) dX0_creditBehind_86 (by decide) ?_
          rw [← nI_succ]
          first
            | (have e : isOfV F m dd i = true := hc45; exact ih (i + 1) _ _ (by omega) (crs_lt hc) hk)
            | (have e : isOfV F m dd i = false := hc45; refine ih (i + 1) _ _ (by omega) hc ?_; simp only [crl, crs, e] at hk; exact hk)
  have outer : ∀ (j dd c : Nat) (z6 z7 : Option Value), dd + j = d + 1 → c < 100 → Q (some (.int (nI (crd F n g br m dd j c)))) SH I L R → VV yX0_creditBehind cX0_creditBehind 8 (some .int) 6 Q b ad 14 [some (.ref (b + B)), some (.int (nI m)), some (.int (nI d)), some (.ref (b + a)), some (.int (nI c)), some (.int (nI dd)), z6, z7] [] I L R := by
    intro j
    induction j with
    | zero =>
      intro dd c z6 z7 hij hc hQ
      refine v_iload_5 dX0_creditBehind_14 ?_
      refine v_iload_2 dX0_creditBehind_16 ?_
      refine v_icmp_gt (tgt := 95) dX0_creditBehind_17 (by decide) (fun hc17 => ?_) (fun hc17 => ?_)
      · (try rw [nI_ltI (by omega) (by omega)] at hc17)
        refine v_iload_4 dX0_creditBehind_95 ?_
        refine v_iret dX0_creditBehind_97 rfl rfl rfl rfl ?_
        exact hQ
      · (try rw [nI_ltI (by omega) (by omega)] at hc17)
        exfalso; omega
    | succ j ih =>
      intro dd c z6 z7 hij hc hQ
      refine v_iload_5 dX0_creditBehind_14 ?_
      refine v_iload_2 dX0_creditBehind_16 ?_
      refine v_icmp_gt (tgt := 95) dX0_creditBehind_17 (by decide) (fun hc17 => ?_) (fun hc17 => ?_)
      · (try rw [nI_ltI (by omega) (by omega)] at hc17)
        exfalso; omega
      · (try rw [nI_ltI (by omega) (by omega)] at hc17)
        refine v_iconst (v := nI 0) dX0_creditBehind_20 (by decide) ?_
        refine v_istore_6 rfl dX0_creditBehind_21 ?_
        exact inner (F 4) 0 c dd z7 (by omega) (by omega) hc (fun z8 z9 => ih (dd + 1) _ z8 z9 (by omega) (crl_lt _ _ _ hc) (by simp only [crd] at hQ; exact hQ))
  refine v_aload_0 dX0_creditBehind_0 ?_
  refine u_getR dX0_creditBehind_1 gf_X0_11 (by first | assumption | exact led_1 (by assumption) | exact led_2 (by assumption) | exact bk_m (by assumption) (by first | assumption | omega) | exact bk_p (by assumption) (by first | assumption | omega) | exact bk_o (by assumption) (by first | assumption | omega) | exact bk_s (by assumption) (by first | assumption | omega) | exact bk_1 (by assumption) | exact bk_2 (by assumption) | exact bk_3 (by assumption) | exact bk_4 (by assumption) | exact bk_5 (by assumption) | exact bk_6 (by assumption) | exact bk_7 (by assumption) | exact bk_8 (by assumption) | rfl) (ro_X0_7 (by assumption) (by assumption)) ?_
  refine v_iload_1 dX0_creditBehind_4 ?_
  refine u_aald dX0_creditBehind_5 (by first | assumption | exact led_1 (by assumption) | exact led_2 (by assumption) | exact bk_m (by assumption) (by first | assumption | omega) | exact bk_p (by assumption) (by first | assumption | omega) | exact bk_o (by assumption) (by first | assumption | omega) | exact bk_s (by assumption) (by first | assumption | omega) | exact bk_1 (by assumption) | exact bk_2 (by assumption) | exact bk_3 (by assumption) | exact bk_4 (by assumption) | exact bk_5 (by assumption) | exact bk_6 (by assumption) | exact bk_7 (by assumption) | exact bk_8 (by assumption) | rfl) (by decide) (by decide) rfl (by first | rfl | (simp only [nlit, nI_add, pk_mul]; rfl)) (by first | assumption | omega) (by decide) (by first | exact ro_m (by assumption) (by assumption) (by first | assumption | omega) | exact ro_p (by assumption) (by assumption) (by first | assumption | omega) | exact ro_o (by assumption) (by assumption) (by first | assumption | omega) | exact ro_s (by assumption) (by assumption) (by first | assumption | omega) | exact ro_ring (by assumption) (by first | assumption | omega) | exact ro_imgs (by assumption) (by first | assumption | omega)) ?_
  refine u_getI dX0_creditBehind_6 gf_X0_138 (by first | assumption | exact led_1 (by assumption) | exact led_2 (by assumption) | exact bk_m (by assumption) (by first | assumption | omega) | exact bk_p (by assumption) (by first | assumption | omega) | exact bk_o (by assumption) (by first | assumption | omega) | exact bk_s (by assumption) (by first | assumption | omega) | exact bk_1 (by assumption) | exact bk_2 (by assumption) | exact bk_3 (by assumption) | exact bk_4 (by assumption) | exact bk_5 (by assumption) | exact bk_6 (by assumption) | exact bk_7 (by assumption) | exact bk_8 (by assumption) | rfl) ?_
  (first | (rw [bm2 hF]; rotate_left; (first | assumption | omega)) | skip)
  refine v_istore_4 rfl dX0_creditBehind_9 ?_
  refine v_iconst (v := nI 1) dX0_creditBehind_11 (by decide) ?_
  refine v_istore_5 rfl dX0_creditBehind_12 ?_
  exact outer d 1 _ none none (by omega) h20 hQ
end
