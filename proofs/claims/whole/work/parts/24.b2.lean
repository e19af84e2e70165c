section
variable {b : Nat} {ad : Nat → Nat} {I : HI} {L : HL} {R : HR} {Q : QT} {a B n : Nat} {F : bkF} {g : lends} {br : Nat → Nat}
theorem c_X0_wouldDo {op : Option Nat} {o : Nat} (hR : RO R) (hB : SH B = .inl 0) (hF : BkI I B F) (hO : FOK F) (hop : ∀ p, op = some p → p < F 3) (ho : o < F 4) (hQ : Q (some (.int (bI (wouldV F op o)))) SH I L R) : KK 2 mX0_wouldDo b ad [.ref (b + B), .int (eP op), .int (nI o)] I L R Q := by
  obtain ⟨k0, k1, k2, k3, k4, k5, k6, -⟩ := id hO
  obtain ⟨q1, q2, q3, q4, q5, q6, q7⟩ := fk_o hO ho
  refine K.of (M := mX0_wouldDo) (lv := [some (.ref (b + B)), some (.int (eP op)), some (.int (nI o)), none, none, none]) (by decide) (Nat.le_of_ble_eq_true rfl) rfl ?_
  have loop : couldV F op o = true → ∀ (j i c : Nat), i + j = o → c ≤ i → c + cup (aheadp F op o) i j = cup (aheadp F op o) 0 o → VV yX0_wouldDo cX0_wouldDo 6 (some .boolean) 2 Q b ad 24 [some (.ref (b + B)), some (.int (eP op)), some (.int (nI o)), some (.ref (b + (B + 23 + o))), some (.int (nI c)), some (.int (nI i))] [] I L R := by
    intro hcd j
    induction j with
    | zero =>
      intro i c hij hci hc0
      refine v_iload_5 dX0_wouldDo_24 ?_
      refine v_iload_2 dX0_wouldDo_26 ?_
      refine v_icmp_ge (tgt := 70) dX0_wouldDo_27 (by decide) (fun hc27 => ?_) (fun hc27 => ?_)
      · (try rw [nI_leI (by omega) (by omega)] at hc27)
        refine v_iload_4 dX0_wouldDo_70 ?_
        refine v_aload_0 dX0_wouldDo_72 ?_
        refine u_getR dX0_wouldDo_73 gf_X0_11 (by first | assumption | exact led_1 (by assumption) | exact led_2 (by assumption) | exact bk_m (by assumption) (by first | assumption | omega) | exact bk_p (by assumption) (by first | assumption | omega) | exact bk_o (by assumption) (by first | assumption | omega) | exact bk_s (by assumption) (by first | assumption | omega) | exact bk_1 (by assumption) | exact bk_2 (by assumption) | exact bk_3 (by assumption) | exact bk_4 (by assumption) | exact bk_5 (by assumption) | exact bk_6 (by assumption) | exact bk_7 (by assumption) | exact bk_8 (by assumption) | rfl) (ro_X0_7 (by assumption) (by assumption)) ?_
        refine v_aload_3 dX0_wouldDo_76 ?_
        refine u_getI dX0_wouldDo_77 gf_X0_111 (by first | assumption | exact led_1 (by assumption) | exact led_2 (by assumption) | exact bk_m (by assumption) (by first | assumption | omega) | exact bk_p (by assumption) (by first | assumption | omega) | exact bk_o (by assumption) (by first | assumption | omega) | exact bk_s (by assumption) (by first | assumption | omega) | exact bk_1 (by assumption) | exact bk_2 (by assumption) | exact bk_3 (by assumption) | exact bk_4 (by assumption) | exact bk_5 (by assumption) | exact bk_6 (by assumption) | exact bk_7 (by assumption) | exact bk_8 (by assumption) | rfl) ?_
        (first | (rw [bo0 hF]; rotate_left; (first | assumption | omega)) | skip)
        refine u_aald dX0_wouldDo_80 (by first | assumption | exact led_1 (by assumption) | exact led_2 (by assumption) | exact bk_m (by assumption) (by first | assumption | omega) | exact bk_p (by assumption) (by first | assumption | omega) | exact bk_o (by assumption) (by first | assumption | omega) | exact bk_s (by assumption) (by first | assumption | omega) | exact bk_1 (by assumption) | exact bk_2 (by assumption) | exact bk_3 (by assumption) | exact bk_4 (by assumption) | exact bk_5 (by assumption) | exact bk_6 (by assumption) | exact bk_7 (by assumption) | exact bk_8 (by assumption) | rfl) (by decide) (by decide) rfl (by first | rfl | (simp only [nlit, nI_add, pk_mul]; rfl)) (by first | assumption | omega) (by decide) (by first | exact ro_m (by assumption) (by assumption) (by first | assumption | omega) | exact ro_p (by assumption) (by assumption) (by first | assumption | omega) | exact ro_o (by assumption) (by assumption) (by first | assumption | omega) | exact ro_s (by assumption) (by assumption) (by first | assumption | omega) | exact ro_ring (by assumption) (by first | assumption | omega) | exact ro_imgs (by assumption) (by first | assumption | omega)) ?_
        refine u_callV_0 dX0_wouldDo_81 ml_X0_120 mv_X3_hands (by first | assumption | exact led_1 (by assumption) | exact led_2 (by assumption) | exact bk_m (by assumption) (by first | assumption | omega) | exact bk_p (by assumption) (by first | assumption | omega) | exact bk_o (by assumption) (by first | assumption | omega) | exact bk_s (by assumption) (by first | assumption | omega) | exact bk_1 (by assumption) | exact bk_2 (by assumption) | exact bk_3 (by assumption) | exact bk_4 (by assumption) | exact bk_5 (by assumption) | exact bk_6 (by assumption) | exact bk_7 (by assumption) | exact bk_8 (by assumption) | rfl) (by decide) rfl (by decide) (Nat.le_of_ble_eq_true rfl) (c_X3_hands (bk_m hB (by omega)) (bm0 hF (by omega)) (fk_m hO (by omega)).1 ?_)
        have hh : handsF F (F (56 + 6 * o)) ≤ 2 := by unfold handsF; split <;> omega
        rw [show (if F (8 + F (56 + 6 * o)) = 3 then 2 else 1) = handsF F (F (56 + 6 * o)) from rfl]
        have hce : c = cup (aheadp F op o) 0 o := by simpa [cup] using hc0
        refine v_icmp_ge (tgt := 91) dX0_wouldDo_84 (by decide) (fun hc84 => ?_) (fun hc84 => ?_)
        · (try rw [nI_leI (by omega) (by omega)] at hc84)
          refine v_iconst (v := nI 0) dX0_wouldDo_91 (by decide) ?_
          refine v_zret dX0_wouldDo_92 (by first | rfl | exact bI_n _) rfl rfl rfl rfl ?_
          have hcl := cup_le (aheadp F op o) o 0
          first
            | (rw [bI_t (by simp [wouldV, hcd]; omega)] at hQ; exact hQ)
            | (rw [bI_f (by simp [wouldV, hcd]; omega)] at hQ; exact hQ)
        · (try rw [nI_leI (by omega) (by omega)] at hc84)
          refine v_iconst (v := nI 1) dX0_wouldDo_87 (by decide) ?_
          refine v_goto (tgt := 92) dX0_wouldDo_88 (by decide) ?_
          refine v_zret dX0_wouldDo_92 (by first | rfl | exact bI_n _) rfl rfl rfl rfl ?_
          have hcl := cup_le (aheadp F op o) o 0
          first
            | (rw [bI_t (by simp [wouldV, hcd]; omega)] at hQ; exact hQ)
            | (rw [bI_f (by simp [wouldV, hcd]; omega)] at hQ; exact hQ)
      · (try rw [nI_leI (by omega) (by omega)] at hc27)
        exfalso; omega
    | succ j ih =>
      intro i c hij hci hc0
      obtain ⟨r1, r2, r3, r4, r5, r6, r7⟩ := fk_o hO (show i < F 4 by omega)
      refine v_iload_5 dX0_wouldDo_24 ?_
      refine v_iload_2 dX0_wouldDo_26 ?_
      refine v_icmp_ge (tgt := 70) dX0_wouldDo_27 (by decide) (fun hc27 => ?_) (fun hc27 => ?_)
      · (try rw [nI_leI (by omega) (by omega)] at hc27)
        exfalso; omega
      · (try rw [nI_leI (by omega) (by omega)] at hc27)
        refine v_aload_0 dX0_wouldDo_30 ?_
        refine u_getR dX0_wouldDo_31 gf_X0_25 (by first | assumption | exact led_1 (by assumption) | exact led_2 (by assumption) | exact bk_m (by assumption) (by first | assumption | omega) | exact bk_p (by assumption) (by first | assumption | omega) | exact bk_o (by assumption) (by first | assumption | omega) | exact bk_s (by assumption) (by first | assumption | omega) | exact bk_1 (by assumption) | exact bk_2 (by assumption) | exact bk_3 (by assumption) | exact bk_4 (by assumption) | exact bk_5 (by assumption) | exact bk_6 (by assumption) | exact bk_7 (by assumption) | exact bk_8 (by assumption) | rfl) (ro_X0_9 (by assumption) (by assumption)) ?_
        refine v_iload_5 dX0_wouldDo_34 ?_
        refine u_aald dX0_wouldDo_36 (by first | assumption | exact led_1 (by assumption) | exact led_2 (by assumption) | exact bk_m (by assumption) (by first | assumption | omega) | exact bk_p (by assumption) (by first | assumption | omega) | exact bk_o (by assumption) (by first | assumption | omega) | exact bk_s (by assumption) (by first | assumption | omega) | exact bk_1 (by assumption) | exact bk_2 (by assumption) | exact bk_3 (by assumption) | exact bk_4 (by assumption) | exact bk_5 (by assumption) | exact bk_6 (by assumption) | exact bk_7 (by assumption) | exact bk_8 (by assumption) | rfl) (by decide) (by decide) rfl (by first | rfl | (simp only [nlit, nI_add, pk_mul]; rfl)) (by first | assumption | omega) (by decide) (by first | exact ro_m (by assumption) (by assumption) (by first | assumption | omega) | exact ro_p (by assumption) (by assumption) (by first | assumption | omega) | exact ro_o (by assumption) (by assumption) (by first | assumption | omega) | exact ro_s (by assumption) (by assumption) (by first | assumption | omega) | exact ro_ring (by assumption) (by first | assumption | omega) | exact ro_imgs (by assumption) (by first | assumption | omega)) ?_
        refine v_aload_3 dX0_wouldDo_37 ?_
        refine u_getI dX0_wouldDo_38 gf_X0_111 (by first | assumption | exact led_1 (by assumption) | exact led_2 (by assumption) | exact bk_m (by assumption) (by first | assumption | omega) | exact bk_p (by assumption) (by first | assumption | omega) | exact bk_o (by assumption) (by first | assumption | omega) | exact bk_s (by assumption) (by first | assumption | omega) | exact bk_1 (by assumption) | exact bk_2 (by assumption) | exact bk_3 (by assumption) | exact bk_4 (by assumption) | exact bk_5 (by assumption) | exact bk_6 (by assumption) | exact bk_7 (by assumption) | exact bk_8 (by assumption) | rfl) ?_
        (first | (rw [bo0 hF]; rotate_left; (first | assumption | omega)) | skip)
        refine v_aload_3 dX0_wouldDo_41 ?_
        refine u_getI dX0_wouldDo_42 gf_X0_114 (by first | assumption | exact led_1 (by assumption) | exact led_2 (by assumption) | exact bk_m (by assumption) (by first | assumption | omega) | exact bk_p (by assumption) (by first | assumption | omega) | exact bk_o (by assumption) (by first | assumption | omega) | exact bk_s (by assumption) (by first | assumption | omega) | exact bk_1 (by assumption) | exact bk_2 (by assumption) | exact bk_3 (by assumption) | exact bk_4 (by assumption) | exact bk_5 (by assumption) | exact bk_6 (by assumption) | exact bk_7 (by assumption) | exact bk_8 (by assumption) | rfl) ?_
        (first | (rw [bo2 hF]; rotate_left; (first | assumption | omega)) | skip)
        refine u_callV_2 dX0_wouldDo_45 ml_X0_117 mv_X6_isOf (by first | assumption | exact led_1 (by assumption) | exact led_2 (by assumption) | exact bk_m (by assumption) (by first | assumption | omega) | exact bk_p (by assumption) (by first | assumption | omega) | exact bk_o (by assumption) (by first | assumption | omega) | exact bk_s (by assumption) (by first | assumption | omega) | exact bk_1 (by assumption) | exact bk_2 (by assumption) | exact bk_3 (by assumption) | exact bk_4 (by assumption) | exact bk_5 (by assumption) | exact bk_6 (by assumption) | exact bk_7 (by assumption) | exact bk_8 (by assumption) | rfl) (by decide) rfl (by decide) (Nat.le_of_ble_eq_true rfl) (c_X6_isOf (bk_o hB (by omega)) (bo0 hF (by omega)) (bo2 hF (by omega)) (by omega) (by omega) (by omega) (by omega) ?_)
        refine v_if_eq (tgt := 64) dX0_wouldDo_48 (by decide) (fun hc48 => ?_) (fun hc48 => ?_)
        · (first | rw [bI_0, Bool.not_eq_false] at hc48 | rw [bI_0] at hc48 | rw [show (0 : Int32) = nI 0 from rfl, nI_eq (by omega) (by omega)] at hc48 | skip)
          refine v_iinc_5 (v := 1) rfl dX0_wouldDo_64 (by decide) ?_
          refine v_goto (tgt := 24) dX0_wouldDo_67 (by decide) ?_
          rw [← nI_succ]
          (try rw [← nI_succ])
          refine ih (i + 1) _ (by omega) (by omega) ?_
          rw [← hc0]
          first
            | (have ea : aheadp F op o i = false := by (simp only [aheadp, hc48, Bool.false_and]; done)
               simp only [cup, ea]; simp; done)
            | (have ea : aheadp F op o i = false := by (simp only [aheadp, hc58, Bool.and_false]; done)
               simp only [cup, ea]; simp; done)
            | (have ea : aheadp F op o i = true := by (simp only [aheadp, hc48, hc58]; rfl)
               simp only [cup, ea]; simp; omega)
        · (first | rw [bI_0, Bool.not_eq_false] at hc48 | rw [bI_0] at hc48 | rw [show (0 : Int32) = nI 0 from rfl, nI_eq (by omega) (by omega)] at hc48 | skip)
          refine v_aload_0 dX0_wouldDo_51 ?_
          refine v_iload_1 dX0_wouldDo_52 ?_
          refine v_iload_5 dX0_wouldDo_53 ?_
          refine u_callV_2 dX0_wouldDo_55 ml_X0_108 mv_X0_couldDo (by first | assumption | exact led_1 (by assumption) | exact led_2 (by assumption) | exact bk_m (by assumption) (by first | assumption | omega) | exact bk_p (by assumption) (by first | assumption | omega) | exact bk_o (by assumption) (by first | assumption | omega) | exact bk_s (by assumption) (by first | assumption | omega) | exact bk_1 (by assumption) | exact bk_2 (by assumption) | exact bk_3 (by assumption) | exact bk_4 (by assumption) | exact bk_5 (by assumption) | exact bk_6 (by assumption) | exact bk_7 (by assumption) | exact bk_8 (by assumption) | rfl) (by decide) rfl (by decide) (Nat.le_of_ble_eq_true rfl) (c_X0_couldDo hR hB hF hO hop (by omega) ?_)
          refine v_if_eq (tgt := 64) dX0_wouldDo_58 (by decide) (fun hc58 => ?_) (fun hc58 => ?_)
          · (first | rw [bI_0, Bool.not_eq_false] at hc58 | rw [bI_0] at hc58 | rw [show (0 : Int32) = nI 0 from rfl, nI_eq (by omega) (by omega)] at hc58 | skip)
            refine v_iinc_5 (v := 1) rfl dX0_wouldDo_64 (by decide) ?_
            refine v_goto (tgt := 24) dX0_wouldDo_67 (by decide) ?_
            rw [← nI_succ]
            (try rw [← nI_succ])
            refine ih (i + 1) _ (by omega) (by omega) ?_
            rw [← hc0]
            first
              | (have ea : aheadp F op o i = false := by (simp only [aheadp, hc48, Bool.false_and]; done)
                 simp only [cup, ea]; simp; done)
              | (have ea : aheadp F op o i = false := by (simp only [aheadp, hc58, Bool.and_false]; done)
                 simp only [cup, ea]; simp; done)
              | (have ea : aheadp F op o i = true := by (simp only [aheadp, hc48, hc58]; rfl)
                 simp only [cup, ea]; simp; omega)
          · (first | rw [bI_0, Bool.not_eq_false] at hc58 | rw [bI_0] at hc58 | rw [show (0 : Int32) = nI 0 from rfl, nI_eq (by omega) (by omega)] at hc58 | skip)
            refine v_iinc_4 (v := 1) rfl dX0_wouldDo_61 (by decide) ?_
            refine v_iinc_5 (v := 1) rfl dX0_wouldDo_64 (by decide) ?_
            refine v_goto (tgt := 24) dX0_wouldDo_67 (by decide) ?_
            rw [← nI_succ]
            (try rw [← nI_succ])
            refine ih (i + 1) _ (by omega) (by omega) ?_
            rw [← hc0]
            first
              | (have ea : aheadp F op o i = false := by (simp only [aheadp, hc48, Bool.false_and]; done)
                 simp only [cup, ea]; simp; done)
              | (have ea : aheadp F op o i = false := by (simp only [aheadp, hc58, Bool.and_false]; done)
                 simp only [cup, ea]; simp; done)
              | (have ea : aheadp F op o i = true := by (simp only [aheadp, hc48, hc58]; rfl)
                 simp only [cup, ea]; simp; omega)
  refine v_aload_0 dX0_wouldDo_0 ?_
  refine v_iload_1 dX0_wouldDo_1 ?_
  refine v_iload_2 dX0_wouldDo_2 ?_
  refine u_callV_2 dX0_wouldDo_3 ml_X0_108 mv_X0_couldDo (by first | assumption | exact led_1 (by assumption) | exact led_2 (by assumption) | exact bk_m (by assumption) (by first | assumption | omega) | exact bk_p (by assumption) (by first | assumption | omega) | exact bk_o (by assumption) (by first | assumption | omega) | exact bk_s (by assumption) (by first | assumption | omega) | exact bk_1 (by assumption) | exact bk_2 (by assumption) | exact bk_3 (by assumption) | exact bk_4 (by assumption) | exact bk_5 (by assumption) | exact bk_6 (by assumption) | exact bk_7 (by assumption) | exact bk_8 (by assumption) | rfl) (by decide) rfl (by decide) (Nat.le_of_ble_eq_true rfl) (c_X0_couldDo hR hB hF hO hop (by omega) ?_)
  refine v_if_ne (tgt := 11) dX0_wouldDo_6 (by decide) (fun hc6 => ?_) (fun hc6 => ?_)
  · (first | rw [bI_0, Bool.not_eq_false] at hc6 | rw [bI_0] at hc6 | rw [show (0 : Int32) = nI 0 from rfl, nI_eq (by omega) (by omega)] at hc6 | skip)
    refine v_aload_0 dX0_wouldDo_11 ?_
    refine u_getR dX0_wouldDo_12 gf_X0_25 (by first | assumption | exact led_1 (by assumption) | exact led_2 (by assumption) | exact bk_m (by assumption) (by first | assumption | omega) | exact bk_p (by assumption) (by first | assumption | omega) | exact bk_o (by assumption) (by first | assumption | omega) | exact bk_s (by assumption) (by first | assumption | omega) | exact bk_1 (by assumption) | exact bk_2 (by assumption) | exact bk_3 (by assumption) | exact bk_4 (by assumption) | exact bk_5 (by assumption) | exact bk_6 (by assumption) | exact bk_7 (by assumption) | exact bk_8 (by assumption) | rfl) (ro_X0_9 (by assumption) (by assumption)) ?_
    refine v_iload_2 dX0_wouldDo_15 ?_
    refine u_aald dX0_wouldDo_16 (by first | assumption | exact led_1 (by assumption) | exact led_2 (by assumption) | exact bk_m (by assumption) (by first | assumption | omega) | exact bk_p (by assumption) (by first | assumption | omega) | exact bk_o (by assumption) (by first | assumption | omega) | exact bk_s (by assumption) (by first | assumption | omega) | exact bk_1 (by assumption) | exact bk_2 (by assumption) | exact bk_3 (by assumption) | exact bk_4 (by assumption) | exact bk_5 (by assumption) | exact bk_6 (by assumption) | exact bk_7 (by assumption) | exact bk_8 (by assumption) | rfl) (by decide) (by decide) rfl (by first | rfl | (simp only [nlit, nI_add, pk_mul]; rfl)) (by first | assumption | omega) (by decide) (by first | exact ro_m (by assumption) (by assumption) (by first | assumption | omega) | exact ro_p (by assumption) (by assumption) (by first | assumption | omega) | exact ro_o (by assumption) (by assumption) (by first | assumption | omega) | exact ro_s (by assumption) (by assumption) (by first | assumption | omega) | exact ro_ring (by assumption) (by first | assumption | omega) | exact ro_imgs (by assumption) (by first | assumption | omega)) ?_
    refine v_astore_3 rfl dX0_wouldDo_17 ?_
    refine v_iconst (v := nI 0) dX0_wouldDo_18 (by decide) ?_
    refine v_istore_4 rfl dX0_wouldDo_19 ?_
    refine v_iconst (v := nI 0) dX0_wouldDo_21 (by decide) ?_
    refine v_istore_5 rfl dX0_wouldDo_22 ?_
    have hcd : couldV F op o = true := by simpa using hc6
    exact loop hcd o 0 0 (by omega) (by omega) (by omega)
  · (first | rw [bI_0, Bool.not_eq_false] at hc6 | rw [bI_0] at hc6 | rw [show (0 : Int32) = nI 0 from rfl, nI_eq (by omega) (by omega)] at hc6 | skip)
    refine v_iconst (v := nI 0) dX0_wouldDo_9 (by decide) ?_
    refine v_zret dX0_wouldDo_10 (by first | rfl | exact bI_n _) rfl rfl rfl rfl ?_
    rw [bI_f (by simp_all [wouldV])] at hQ; exact hQ
theorem owe_b {o : Nat} (hps : pers F n g) (hO : FOK F) : ∀ p, owe F n g o = some p → p < F 3 := fun p h => owe_lt hps h
theorem c_X0_debtorOf {o : Nat} (hR : RO R) (hB : SH B = .inl 0) (hF : BkI I B F) (hO : FOK F) (ha : SH a = .inl 2) (hL : LedI I a n g) (hps : pers F n g) (ho : o < F 4) (hQ : Q (some (.int (eP (owe F n g o)))) SH I L R) : KK 4 mX0_debtorOf b ad [.ref (b + B), .int (nI o), .ref (b + a)] I L R Q := by
  obtain ⟨k0, k1, k2, k3, k4, k5, k6, -⟩ := id hO
  obtain ⟨q1, q2, q3, q4, q5, q6, q7⟩ := fk_o hO ho
  refine K.of (M := mX0_debtorOf) (lv := [some (.ref (b + B)), some (.int (nI o)), some (.ref (b + a))]) (by decide) (Nat.le_of_ble_eq_true rfl) rfl ?_
  refine v_aload_2 dX0_debtorOf_0 ?_
  refine v_aload_0 dX0_debtorOf_1 ?_
  refine u_getR dX0_debtorOf_2 gf_X0_25 (by first | assumption | exact led_1 (by assumption) | exact led_2 (by assumption) | exact bk_m (by assumption) (by first | assumption | omega) | exact bk_p (by assumption) (by first | assumption | omega) | exact bk_o (by assumption) (by first | assumption | omega) | exact bk_s (by assumption) (by first | assumption | omega) | exact bk_1 (by assumption) | exact bk_2 (by assumption) | exact bk_3 (by assumption) | exact bk_4 (by assumption) | exact bk_5 (by assumption) | exact bk_6 (by assumption) | exact bk_7 (by assumption) | exact bk_8 (by assumption) | rfl) (ro_X0_9 (by assumption) (by assumption)) ?_
  refine v_iload_1 dX0_debtorOf_5 ?_
  refine u_aald dX0_debtorOf_6 (by first | assumption | exact led_1 (by assumption) | exact led_2 (by assumption) | exact bk_m (by assumption) (by first | assumption | omega) | exact bk_p (by assumption) (by first | assumption | omega) | exact bk_o (by assumption) (by first | assumption | omega) | exact bk_s (by assumption) (by first | assumption | omega) | exact bk_1 (by assumption) | exact bk_2 (by assumption) | exact bk_3 (by assumption) | exact bk_4 (by assumption) | exact bk_5 (by assumption) | exact bk_6 (by assumption) | exact bk_7 (by assumption) | exact bk_8 (by assumption) | rfl) (by decide) (by decide) rfl (by first | rfl | (simp only [nlit, nI_add, pk_mul]; rfl)) (by first | assumption | omega) (by decide) (by first | exact ro_m (by assumption) (by assumption) (by first | assumption | omega) | exact ro_p (by assumption) (by assumption) (by first | assumption | omega) | exact ro_o (by assumption) (by assumption) (by first | assumption | omega) | exact ro_s (by assumption) (by assumption) (by first | assumption | omega) | exact ro_ring (by assumption) (by first | assumption | omega) | exact ro_imgs (by assumption) (by first | assumption | omega)) ?_
  refine u_getI dX0_debtorOf_7 gf_X0_111 (by first | assumption | exact led_1 (by assumption) | exact led_2 (by assumption) | exact bk_m (by assumption) (by first | assumption | omega) | exact bk_p (by assumption) (by first | assumption | omega) | exact bk_o (by assumption) (by first | assumption | omega) | exact bk_s (by assumption) (by first | assumption | omega) | exact bk_1 (by assumption) | exact bk_2 (by assumption) | exact bk_3 (by assumption) | exact bk_4 (by assumption) | exact bk_5 (by assumption) | exact bk_6 (by assumption) | exact bk_7 (by assumption) | exact bk_8 (by assumption) | rfl) ?_
  (first | (rw [bo0 hF]; rotate_left; (first | assumption | omega)) | skip)
  refine v_aload_0 dX0_debtorOf_10 ?_
  refine u_getR dX0_debtorOf_11 gf_X0_25 (by first | assumption | exact led_1 (by assumption) | exact led_2 (by assumption) | exact bk_m (by assumption) (by first | assumption | omega) | exact bk_p (by assumption) (by first | assumption | omega) | exact bk_o (by assumption) (by first | assumption | omega) | exact bk_s (by assumption) (by first | assumption | omega) | exact bk_1 (by assumption) | exact bk_2 (by assumption) | exact bk_3 (by assumption) | exact bk_4 (by assumption) | exact bk_5 (by assumption) | exact bk_6 (by assumption) | exact bk_7 (by assumption) | exact bk_8 (by assumption) | rfl) (ro_X0_9 (by assumption) (by assumption)) ?_
  refine v_iload_1 dX0_debtorOf_14 ?_
  refine u_aald dX0_debtorOf_15 (by first | assumption | exact led_1 (by assumption) | exact led_2 (by assumption) | exact bk_m (by assumption) (by first | assumption | omega) | exact bk_p (by assumption) (by first | assumption | omega) | exact bk_o (by assumption) (by first | assumption | omega) | exact bk_s (by assumption) (by first | assumption | omega) | exact bk_1 (by assumption) | exact bk_2 (by assumption) | exact bk_3 (by assumption) | exact bk_4 (by assumption) | exact bk_5 (by assumption) | exact bk_6 (by assumption) | exact bk_7 (by assumption) | exact bk_8 (by assumption) | rfl) (by decide) (by decide) rfl (by first | rfl | (simp only [nlit, nI_add, pk_mul]; rfl)) (by first | assumption | omega) (by decide) (by first | exact ro_m (by assumption) (by assumption) (by first | assumption | omega) | exact ro_p (by assumption) (by assumption) (by first | assumption | omega) | exact ro_o (by assumption) (by assumption) (by first | assumption | omega) | exact ro_s (by assumption) (by assumption) (by first | assumption | omega) | exact ro_ring (by assumption) (by first | assumption | omega) | exact ro_imgs (by assumption) (by first | assumption | omega)) ?_
  refine u_getI dX0_debtorOf_16 gf_X0_114 (by first | assumption | exact led_1 (by assumption) | exact led_2 (by assumption) | exact bk_m (by assumption) (by first | assumption | omega) | exact bk_p (by assumption) (by first | assumption | omega) | exact bk_o (by assumption) (by first | assumption | omega) | exact bk_s (by assumption) (by first | assumption | omega) | exact bk_1 (by assumption) | exact bk_2 (by assumption) | exact bk_3 (by assumption) | exact bk_4 (by assumption) | exact bk_5 (by assumption) | exact bk_6 (by assumption) | exact bk_7 (by assumption) | exact bk_8 (by assumption) | rfl) ?_
  (first | (rw [bo2 hF]; rotate_left; (first | assumption | omega)) | skip)
  refine u_callV_2 dX0_debtorOf_19 ml_X0_124 mv_X2_personIn (by first | assumption | exact led_1 (by assumption) | exact led_2 (by assumption) | exact bk_m (by assumption) (by first | assumption | omega) | exact bk_p (by assumption) (by first | assumption | omega) | exact bk_o (by assumption) (by first | assumption | omega) | exact bk_s (by assumption) (by first | assumption | omega) | exact bk_1 (by assumption) | exact bk_2 (by assumption) | exact bk_3 (by assumption) | exact bk_4 (by assumption) | exact bk_5 (by assumption) | exact bk_6 (by assumption) | exact bk_7 (by assumption) | exact bk_8 (by assumption) | rfl) (by decide) rfl (by decide) (Nat.le_of_ble_eq_true rfl) (c_X2_personIn hR ha hL (by omega) (by omega) ?_)
  refine v_iret dX0_debtorOf_22 rfl rfl rfl rfl ?_
  rw [eM_eP]; exact hQ
theorem c_X0_isDone {o : Nat} (hR : RO R) (hB : SH B = .inl 0) (hF : BkI I B F) (hO : FOK F) (ha : SH a = .inl 2) (hL : LedI I a n g) (hbr : BrI I a br) (hps : pers F n g) (ho : o < F 4) (hQ : Q (some (.int (bI (doneV F n g br o)))) SH I L R) : KK 5 mX0_isDone b ad [.ref (b + B), .int (nI o), .ref (b + a)] I L R Q := by
  obtain ⟨k0, k1, k2, k3, k4, k5, k6, -⟩ := id hO
  obtain ⟨q1, q2, q3, q4, q5, q6, q7⟩ := fk_o hO ho
  refine K.of (M := mX0_isDone) (lv := [some (.ref (b + B)), some (.int (nI o)), some (.ref (b + a)), none]) (by decide) (Nat.le_of_ble_eq_true rfl) rfl ?_
  refine v_aload_0 dX0_isDone_0 ?_
  refine v_iload_1 dX0_isDone_1 ?_
  refine v_aload_2 dX0_isDone_2 ?_
  refine u_callV_2 dX0_isDone_3 ml_X0_128 mv_X0_debtorOf (by first | assumption | exact led_1 (by assumption) | exact led_2 (by assumption) | exact bk_m (by assumption) (by first | assumption | omega) | exact bk_p (by assumption) (by first | assumption | omega) | exact bk_o (by assumption) (by first | assumption | omega) | exact bk_s (by assumption) (by first | assumption | omega) | exact bk_1 (by assumption) | exact bk_2 (by assumption) | exact bk_3 (by assumption) | exact bk_4 (by assumption) | exact bk_5 (by assumption) | exact bk_6 (by assumption) | exact bk_7 (by assumption) | exact bk_8 (by assumption) | rfl) (by decide) rfl (by decide) (Nat.le_of_ble_eq_true rfl) (c_X0_debtorOf hR hB hF hO ha hL hps ho ?_)
  refine v_istore_3 rfl dX0_isDone_6 ?_
  refine v_aload_0 dX0_isDone_7 ?_
  refine v_iload_3 dX0_isDone_8 ?_
  refine v_iload_1 dX0_isDone_9 ?_
  refine u_callV_2 dX0_isDone_10 ml_X0_132 mv_X0_wouldDo (by first | assumption | exact led_1 (by assumption) | exact led_2 (by assumption) | exact bk_m (by assumption) (by first | assumption | omega) | exact bk_p (by assumption) (by first | assumption | omega) | exact bk_o (by assumption) (by first | assumption | omega) | exact bk_s (by assumption) (by first | assumption | omega) | exact bk_1 (by assumption) | exact bk_2 (by assumption) | exact bk_3 (by assumption) | exact bk_4 (by assumption) | exact bk_5 (by assumption) | exact bk_6 (by assumption) | exact bk_7 (by assumption) | exact bk_8 (by assumption) | rfl) (by decide) rfl (by decide) (Nat.le_of_ble_eq_true rfl) (c_X0_wouldDo hR hB hF hO (owe_b hps hO) ho ?_)
  refine v_if_eq (tgt := 37) dX0_isDone_13 (by decide) (fun hc13 => ?_) (fun hc13 => ?_)
  · (first | rw [bI_0, Bool.not_eq_false] at hc13 | rw [bI_0] at hc13 | rw [show (0 : Int32) = nI 0 from rfl, nI_eq (by omega) (by omega)] at hc13 | skip)
    refine v_iconst (v := nI 0) dX0_isDone_37 (by decide) ?_
    refine v_zret dX0_isDone_38 (by first | rfl | exact bI_n _) rfl rfl rfl rfl ?_
    rw [bI_f (by unfold doneV; cases hw : owe F n g o with | none => rfl | some p => (rw [hw] at hc13; simp [hc13]))] at hQ
    exact hQ
  · (first | rw [bI_0, Bool.not_eq_false] at hc13 | rw [bI_0] at hc13 | rw [show (0 : Int32) = nI 0 from rfl, nI_eq (by omega) (by omega)] at hc13 | skip)
    cases hw : owe F n g o with
    | none => rw [hw] at hc13; simp [wouldV, couldV] at hc13
    | some p =>
      rw [hw] at hc13
      have hp : p < F 3 := owe_lt hps hw
      simp only [eP]
      refine v_aload_2 dX0_isDone_16 ?_
      refine v_iload_3 dX0_isDone_17 ?_
      refine v_aload_0 dX0_isDone_18 ?_
      refine u_getR dX0_isDone_19 gf_X0_25 (by first | assumption | exact led_1 (by assumption) | exact led_2 (by assumption) | exact bk_m (by assumption) (by first | assumption | omega) | exact bk_p (by assumption) (by first | assumption | omega) | exact bk_o (by assumption) (by first | assumption | omega) | exact bk_s (by assumption) (by first | assumption | omega) | exact bk_1 (by assumption) | exact bk_2 (by assumption) | exact bk_3 (by assumption) | exact bk_4 (by assumption) | exact bk_5 (by assumption) | exact bk_6 (by assumption) | exact bk_7 (by assumption) | exact bk_8 (by assumption) | rfl) (ro_X0_9 (by assumption) (by assumption)) ?_
      refine v_iload_1 dX0_isDone_22 ?_
      refine u_aald dX0_isDone_23 (by first | assumption | exact led_1 (by assumption) | exact led_2 (by assumption) | exact bk_m (by assumption) (by first | assumption | omega) | exact bk_p (by assumption) (by first | assumption | omega) | exact bk_o (by assumption) (by first | assumption | omega) | exact bk_s (by assumption) (by first | assumption | omega) | exact bk_1 (by assumption) | exact bk_2 (by assumption) | exact bk_3 (by assumption) | exact bk_4 (by assumption) | exact bk_5 (by assumption) | exact bk_6 (by assumption) | exact bk_7 (by assumption) | exact bk_8 (by assumption) | rfl) (by decide) (by decide) rfl (by first | rfl | (simp only [nlit, nI_add, pk_mul]; rfl)) (by first | assumption | omega) (by decide) (by first | exact ro_m (by assumption) (by assumption) (by first | assumption | omega) | exact ro_p (by assumption) (by assumption) (by first | assumption | omega) | exact ro_o (by assumption) (by assumption) (by first | assumption | omega) | exact ro_s (by assumption) (by assumption) (by first | assumption | omega) | exact ro_ring (by assumption) (by first | assumption | omega) | exact ro_imgs (by assumption) (by first | assumption | omega)) ?_
      refine u_getI dX0_isDone_24 gf_X0_114 (by first | assumption | exact led_1 (by assumption) | exact led_2 (by assumption) | exact bk_m (by assumption) (by first | assumption | omega) | exact bk_p (by assumption) (by first | assumption | omega) | exact bk_o (by assumption) (by first | assumption | omega) | exact bk_s (by assumption) (by first | assumption | omega) | exact bk_1 (by assumption) | exact bk_2 (by assumption) | exact bk_3 (by assumption) | exact bk_4 (by assumption) | exact bk_5 (by assumption) | exact bk_6 (by assumption) | exact bk_7 (by assumption) | exact bk_8 (by assumption) | rfl) ?_
      (first | (rw [bo2 hF]; rotate_left; (first | assumption | omega)) | skip)
      refine u_callV_2 dX0_isDone_27 ml_X0_135 mv_X2_isBreaking (by first | assumption | exact led_1 (by assumption) | exact led_2 (by assumption) | exact bk_m (by assumption) (by first | assumption | omega) | exact bk_p (by assumption) (by first | assumption | omega) | exact bk_o (by assumption) (by first | assumption | omega) | exact bk_s (by assumption) (by first | assumption | omega) | exact bk_1 (by assumption) | exact bk_2 (by assumption) | exact bk_3 (by assumption) | exact bk_4 (by assumption) | exact bk_5 (by assumption) | exact bk_6 (by assumption) | exact bk_7 (by assumption) | exact bk_8 (by assumption) | rfl) (by decide) rfl (by decide) (Nat.le_of_ble_eq_true rfl) (c_X2_isBreaking (w := br p) hR ha (by omega) (by omega) (hbr p (by omega)) ?_)
      refine v_if_ne (tgt := 37) dX0_isDone_30 (by decide) (fun hc30 => ?_) (fun hc30 => ?_)
      · (first | rw [bI_0, Bool.not_eq_false] at hc30 | rw [bI_0] at hc30 | rw [show (0 : Int32) = nI 0 from rfl, nI_eq (by omega) (by omega)] at hc30 | skip)
        refine v_iconst (v := nI 0) dX0_isDone_37 (by decide) ?_
        refine v_zret dX0_isDone_38 (by first | rfl | exact bI_n _) rfl rfl rfl rfl ?_
        first | (rw [bI_t (by simp_all [doneV])] at hQ; exact hQ) | (rw [bI_f (by simp_all [doneV])] at hQ; exact hQ)
      · (first | rw [bI_0, Bool.not_eq_false] at hc30 | rw [bI_0] at hc30 | rw [show (0 : Int32) = nI 0 from rfl, nI_eq (by omega) (by omega)] at hc30 | skip)
        refine v_iconst (v := nI 1) dX0_isDone_33 (by decide) ?_
        refine v_goto (tgt := 38) dX0_isDone_34 (by decide) ?_
        refine v_zret dX0_isDone_38 (by first | rfl | exact bI_n _) rfl rfl rfl rfl ?_
        first | (rw [bI_t (by simp_all [doneV])] at hQ; exact hQ) | (rw [bI_f (by simp_all [doneV])] at hQ; exact hQ)
theorem c_X0_finesOf {od : Option Nat} {d : Nat} (hR : RO R) (hB : SH B = .inl 0) (hF : BkI I B F) (hO : FOK F) (ha : SH a = .inl 2) (hL : LedI I a n g) (hbr : BrI I a br) (hps : pers F n g) (hod : ∀ p, od = some p → p < F 3) (hd : d < 2 ^ 31) (hQ : Q (some (.int (sui (finesf F n g br od d) 0 (F 4) 0))) SH I L R) : KK 6 mX0_finesOf b ad [.ref (b + B), .int (eP od), .int (nI d), .ref (b + a)] I L R Q := by
  obtain ⟨k0, k1, k2, k3, k4, k5, k6, -⟩ := id hO
  have hb1 : ∀ {o p : Nat}, owe F n g o = some p → p < 2 ^ 31 := fun h => by have := owe_lt hps h; omega
  have hb2 : ∀ p, od = some p → p < 2 ^ 31 := fun p h => by have := hod p h; omega
  refine K.of (M := mX0_finesOf) (lv := [some (.ref (b + B)), some (.int (eP od)), some (.int (nI d)), some (.ref (b + a)), none, none]) (by decide) (Nat.le_of_ble_eq_true rfl) rfl ?_
  have loop : ∀ (j i : Nat) (acc : Int32), i + j = F 4 → Q (some (.int (sui (finesf F n g br od d) i j acc))) SH I L R → VV yX0_finesOf cX0_finesOf 6 (some .int) 6 Q b ad 6 [some (.ref (b + B)), some (.int (eP od)), some (.int (nI d)), some (.ref (b + a)), some (.int acc), some (.int (nI i))] [] I L R := by
    intro j
    induction j with
    | zero =>
      intro i acc hij hQ
      refine v_iload_5 dX0_finesOf_6 ?_
      refine v_aload_0 dX0_finesOf_8 ?_
      refine u_getI dX0_finesOf_9 gf_X0_69 (by first | assumption | exact led_1 (by assumption) | exact led_2 (by assumption) | exact bk_m (by assumption) (by first | assumption | omega) | exact bk_p (by assumption) (by first | assumption | omega) | exact bk_o (by assumption) (by first | assumption | omega) | exact bk_s (by assumption) (by first | assumption | omega) | exact bk_1 (by assumption) | exact bk_2 (by assumption) | exact bk_3 (by assumption) | exact bk_4 (by assumption) | exact bk_5 (by assumption) | exact bk_6 (by assumption) | exact bk_7 (by assumption) | exact bk_8 (by assumption) | rfl) ?_
      (try rw [bx4 hF])
      refine v_icmp_ge (tgt := 71) dX0_finesOf_12 (by decide) (fun hc12 => ?_) (fun hc12 => ?_)
      · (try rw [nI_leI (by omega) (by omega)] at hc12)
        refine v_iload_4 dX0_finesOf_71 ?_
        refine v_iret dX0_finesOf_73 rfl rfl rfl rfl ?_
        exact hQ
      · (try rw [nI_leI (by omega) (by omega)] at hc12)
        exfalso; omega
    | succ j ih =>
      intro i acc hij hQ
      obtain ⟨r1, r2, r3, r4, r5, r6, r7⟩ := fk_o hO (show i < F 4 by omega)
      refine v_iload_5 dX0_finesOf_6 ?_
      refine v_aload_0 dX0_finesOf_8 ?_
      refine u_getI dX0_finesOf_9 gf_X0_69 (by first | assumption | exact led_1 (by assumption) | exact led_2 (by assumption) | exact bk_m (by assumption) (by first | assumption | omega) | exact bk_p (by assumption) (by first | assumption | omega) | exact bk_o (by assumption) (by first | assumption | omega) | exact bk_s (by assumption) (by first | assumption | omega) | exact bk_1 (by assumption) | exact bk_2 (by assumption) | exact bk_3 (by assumption) | exact bk_4 (by assumption) | exact bk_5 (by assumption) | exact bk_6 (by assumption) | exact bk_7 (by assumption) | exact bk_8 (by assumption) | rfl) ?_
      (try rw [bx4 hF])
      refine v_icmp_ge (tgt := 71) dX0_finesOf_12 (by decide) (fun hc12 => ?_) (fun hc12 => ?_)
      · (try rw [nI_leI (by omega) (by omega)] at hc12)
        exfalso; omega
      · (try rw [nI_leI (by omega) (by omega)] at hc12)
        refine v_aload_0 dX0_finesOf_15 ?_
        refine u_getR dX0_finesOf_16 gf_X0_25 (by first | assumption | exact led_1 (by assumption) | exact led_2 (by assumption) | exact bk_m (by assumption) (by first | assumption | omega) | exact bk_p (by assumption) (by first | assumption | omega) | exact bk_o (by assumption) (by first | assumption | omega) | exact bk_s (by assumption) (by first | assumption | omega) | exact bk_1 (by assumption) | exact bk_2 (by assumption) | exact bk_3 (by assumption) | exact bk_4 (by assumption) | exact bk_5 (by assumption) | exact bk_6 (by assumption) | exact bk_7 (by assumption) | exact bk_8 (by assumption) | rfl) (ro_X0_9 (by assumption) (by assumption)) ?_
        refine v_iload_5 dX0_finesOf_19 ?_
        refine u_aald dX0_finesOf_21 (by first | assumption | exact led_1 (by assumption) | exact led_2 (by assumption) | exact bk_m (by assumption) (by first | assumption | omega) | exact bk_p (by assumption) (by first | assumption | omega) | exact bk_o (by assumption) (by first | assumption | omega) | exact bk_s (by assumption) (by first | assumption | omega) | exact bk_1 (by assumption) | exact bk_2 (by assumption) | exact bk_3 (by assumption) | exact bk_4 (by assumption) | exact bk_5 (by assumption) | exact bk_6 (by assumption) | exact bk_7 (by assumption) | exact bk_8 (by assumption) | rfl) (by decide) (by decide) rfl (by first | rfl | (simp only [nlit, nI_add, pk_mul]; rfl)) (by first | assumption | omega) (by decide) (by first | exact ro_m (by assumption) (by assumption) (by first | assumption | omega) | exact ro_p (by assumption) (by assumption) (by first | assumption | omega) | exact ro_o (by assumption) (by assumption) (by first | assumption | omega) | exact ro_s (by assumption) (by assumption) (by first | assumption | omega) | exact ro_ring (by assumption) (by first | assumption | omega) | exact ro_imgs (by assumption) (by first | assumption | omega)) ?_
        refine u_getI dX0_finesOf_22 gf_X0_114 (by first | assumption | exact led_1 (by assumption) | exact led_2 (by assumption) | exact bk_m (by assumption) (by first | assumption | omega) | exact bk_p (by assumption) (by first | assumption | omega) | exact bk_o (by assumption) (by first | assumption | omega) | exact bk_s (by assumption) (by first | assumption | omega) | exact bk_1 (by assumption) | exact bk_2 (by assumption) | exact bk_3 (by assumption) | exact bk_4 (by assumption) | exact bk_5 (by assumption) | exact bk_6 (by assumption) | exact bk_7 (by assumption) | exact bk_8 (by assumption) | rfl) ?_
        (first | (rw [bo2 hF]; rotate_left; (first | assumption | omega)) | skip)
        refine v_iload_2 dX0_finesOf_25 ?_
        refine v_icmp_gt (tgt := 65) dX0_finesOf_26 (by decide) (fun hc26 => ?_) (fun hc26 => ?_)
        · (try rw [nI_ltI (by omega) (by omega)] at hc26)
          refine v_iinc_5 (v := 1) rfl dX0_finesOf_65 (by decide) ?_
          refine v_goto (tgt := 6) dX0_finesOf_68 (by decide) ?_
          rw [← nI_succ]
          refine ih (i + 1) _ (by omega) ?_
          simp only [sui] at hQ
          first
            | (simp only [finesf, if_neg (Nat.not_le.mpr hc26), Int32.add_zero] at hQ; exact hQ)
            | (simp only [finesf, if_pos (Nat.not_lt.mp hc26), if_neg (fun h => hc37 ((eP_inj (fun p => hb1) hb2).mpr h)), Int32.add_zero] at hQ; exact hQ)
            | (simp only [finesf, if_pos (Nat.not_lt.mp hc26), if_pos ((eP_inj (fun p => hb1) hb2).mp hc37), if_pos (show doneV F n g br i = true from hc47), Int32.add_zero] at hQ; exact hQ)
            | (simp only [finesf, if_pos (Nat.not_lt.mp hc26), if_pos ((eP_inj (fun p => hb1) hb2).mp hc37), if_neg (show ¬ doneV F n g br i = true from by rw [hc47]; decide), Int32.add_zero] at hQ; exact hQ)
        · (try rw [nI_ltI (by omega) (by omega)] at hc26)
          refine v_aload_0 dX0_finesOf_29 ?_
          refine v_iload_5 dX0_finesOf_30 ?_
          refine v_aload_3 dX0_finesOf_32 ?_
          refine u_callV_2 dX0_finesOf_33 ml_X0_128 mv_X0_debtorOf (by first | assumption | exact led_1 (by assumption) | exact led_2 (by assumption) | exact bk_m (by assumption) (by first | assumption | omega) | exact bk_p (by assumption) (by first | assumption | omega) | exact bk_o (by assumption) (by first | assumption | omega) | exact bk_s (by assumption) (by first | assumption | omega) | exact bk_1 (by assumption) | exact bk_2 (by assumption) | exact bk_3 (by assumption) | exact bk_4 (by assumption) | exact bk_5 (by assumption) | exact bk_6 (by assumption) | exact bk_7 (by assumption) | exact bk_8 (by assumption) | rfl) (by decide) rfl (by decide) (Nat.le_of_ble_eq_true rfl) (c_X0_debtorOf hR hB hF hO ha hL hps (by omega) ?_)
          refine v_iload_1 dX0_finesOf_36 ?_
          refine v_icmp_ne (tgt := 65) dX0_finesOf_37 (by decide) (fun hc37 => ?_) (fun hc37 => ?_)
          · (try rw [nI_eq (by omega) (by omega)] at hc37)
            refine v_iinc_5 (v := 1) rfl dX0_finesOf_65 (by decide) ?_
            refine v_goto (tgt := 6) dX0_finesOf_68 (by decide) ?_
            rw [← nI_succ]
            refine ih (i + 1) _ (by omega) ?_
            simp only [sui] at hQ
            first
              | (simp only [finesf, if_neg (Nat.not_le.mpr hc26), Int32.add_zero] at hQ; exact hQ)
              | (simp only [finesf, if_pos (Nat.not_lt.mp hc26), if_neg (fun h => hc37 ((eP_inj (fun p => hb1) hb2).mpr h)), Int32.add_zero] at hQ; exact hQ)
              | (simp only [finesf, if_pos (Nat.not_lt.mp hc26), if_pos ((eP_inj (fun p => hb1) hb2).mp hc37), if_pos (show doneV F n g br i = true from hc47), Int32.add_zero] at hQ; exact hQ)
              | (simp only [finesf, if_pos (Nat.not_lt.mp hc26), if_pos ((eP_inj (fun p => hb1) hb2).mp hc37), if_neg (show ¬ doneV F n g br i = true from by rw [hc47]; decide), Int32.add_zero] at hQ; exact hQ)
          · (try rw [nI_eq (by omega) (by omega)] at hc37)
            refine v_aload_0 dX0_finesOf_40 ?_
            refine v_iload_5 dX0_finesOf_41 ?_
            refine v_aload_3 dX0_finesOf_43 ?_
            refine u_callV_2 dX0_finesOf_44 ml_X0_141 mv_X0_isDone (by first | assumption | exact led_1 (by assumption) | exact led_2 (by assumption) | exact bk_m (by assumption) (by first | assumption | omega) | exact bk_p (by assumption) (by first | assumption | omega) | exact bk_o (by assumption) (by first | assumption | omega) | exact bk_s (by assumption) (by first | assumption | omega) | exact bk_1 (by assumption) | exact bk_2 (by assumption) | exact bk_3 (by assumption) | exact bk_4 (by assumption) | exact bk_5 (by assumption) | exact bk_6 (by assumption) | exact bk_7 (by assumption) | exact bk_8 (by assumption) | rfl) (by decide) rfl (by decide) (Nat.le_of_ble_eq_true rfl) (c_X0_isDone hR hB hF hO ha hL hbr hps (by omega) ?_)
            refine v_if_ne (tgt := 65) dX0_finesOf_47 (by decide) (fun hc47 => ?_) (fun hc47 => ?_)
            · (first | rw [bI_0, Bool.not_eq_false] at hc47 | rw [bI_0] at hc47 | rw [show (0 : Int32) = nI 0 from rfl, nI_eq (by omega) (by omega)] at hc47 | skip)
              refine v_iinc_5 (v := 1) rfl dX0_finesOf_65 (by decide) ?_
              refine v_goto (tgt := 6) dX0_finesOf_68 (by decide) ?_
              rw [← nI_succ]
              refine ih (i + 1) _ (by omega) ?_
              simp only [sui] at hQ
              first
                | (simp only [finesf, if_neg (Nat.not_le.mpr hc26), Int32.add_zero] at hQ; exact hQ)
                | (simp only [finesf, if_pos (Nat.not_lt.mp hc26), if_neg (fun h => hc37 ((eP_inj (fun p => hb1) hb2).mpr h)), Int32.add_zero] at hQ; exact hQ)
                | (simp only [finesf, if_pos (Nat.not_lt.mp hc26), if_pos ((eP_inj (fun p => hb1) hb2).mp hc37), if_pos (show doneV F n g br i = true from hc47), Int32.add_zero] at hQ; exact hQ)
                | (simp only [finesf, if_pos (Nat.not_lt.mp hc26), if_pos ((eP_inj (fun p => hb1) hb2).mp hc37), if_neg (show ¬ doneV F n g br i = true from by rw [hc47]; decide), Int32.add_zero] at hQ; exact hQ)
            · (first | rw [bI_0, Bool.not_eq_false] at hc47 | rw [bI_0] at hc47 | rw [show (0 : Int32) = nI 0 from rfl, nI_eq (by omega) (by omega)] at hc47 | skip)
              refine v_iload_4 dX0_finesOf_50 ?_
              refine v_aload_0 dX0_finesOf_52 ?_
              refine u_getR dX0_finesOf_53 gf_X0_25 (by first | assumption | exact led_1 (by assumption) | exact led_2 (by assumption) | exact bk_m (by assumption) (by first | assumption | omega) | exact bk_p (by assumption) (by first | assumption | omega) | exact bk_o (by assumption) (by first | assumption | omega) | exact bk_s (by assumption) (by first | assumption | omega) | exact bk_1 (by assumption) | exact bk_2 (by assumption) | exact bk_3 (by assumption) | exact bk_4 (by assumption) | exact bk_5 (by assumption) | exact bk_6 (by assumption) | exact bk_7 (by assumption) | exact bk_8 (by assumption) | rfl) (ro_X0_9 (by assumption) (by assumption)) ?_
              refine v_iload_5 dX0_finesOf_56 ?_
              refine u_aald dX0_finesOf_58 (by first | assumption | exact led_1 (by assumption) | exact led_2 (by assumption) | exact bk_m (by assumption) (by first | assumption | omega) | exact bk_p (by assumption) (by first | assumption | omega) | exact bk_o (by assumption) (by first | assumption | omega) | exact bk_s (by assumption) (by first | assumption | omega) | exact bk_1 (by assumption) | exact bk_2 (by assumption) | exact bk_3 (by assumption) | exact bk_4 (by assumption) | exact bk_5 (by assumption) | exact bk_6 (by assumption) | exact bk_7 (by assumption) | exact bk_8 (by assumption) | rfl) (by decide) (by decide) rfl (by first | rfl | (simp only [nlit, nI_add, pk_mul]; rfl)) (by first | assumption | omega) (by decide) (by first | exact ro_m (by assumption) (by assumption) (by first | assumption | omega) | exact ro_p (by assumption) (by assumption) (by first | assumption | omega) | exact ro_o (by assumption) (by assumption) (by first | assumption | omega) | exact ro_s (by assumption) (by assumption) (by first | assumption | omega) | exact ro_ring (by assumption) (by first | assumption | omega) | exact ro_imgs (by assumption) (by first | assumption | omega)) ?_
              refine u_getI dX0_finesOf_59 gf_X0_157 (by first | assumption | exact led_1 (by assumption) | exact led_2 (by assumption) | exact bk_m (by assumption) (by first | assumption | omega) | exact bk_p (by assumption) (by first | assumption | omega) | exact bk_o (by assumption) (by first | assumption | omega) | exact bk_s (by assumption) (by first | assumption | omega) | exact bk_1 (by assumption) | exact bk_2 (by assumption) | exact bk_3 (by assumption) | exact bk_4 (by assumption) | exact bk_5 (by assumption) | exact bk_6 (by assumption) | exact bk_7 (by assumption) | exact bk_8 (by assumption) | rfl) ?_
              (first | (rw [bo4 hF]; rotate_left; (first | assumption | omega)) | skip)
              refine v_iadd dX0_finesOf_62 ?_
              refine v_istore_4 rfl dX0_finesOf_63 ?_
              refine v_iinc_5 (v := 1) rfl dX0_finesOf_65 (by decide) ?_
              refine v_goto (tgt := 6) dX0_finesOf_68 (by decide) ?_
              rw [← nI_succ]
              refine ih (i + 1) _ (by omega) ?_
              simp only [sui] at hQ
              first
                | (simp only [finesf, if_neg (Nat.not_le.mpr hc26), Int32.add_zero] at hQ; exact hQ)
                | (simp only [finesf, if_pos (Nat.not_lt.mp hc26), if_neg (fun h => hc37 ((eP_inj (fun p => hb1) hb2).mpr h)), Int32.add_zero] at hQ; exact hQ)
                | (simp only [finesf, if_pos (Nat.not_lt.mp hc26), if_pos ((eP_inj (fun p => hb1) hb2).mp hc37), if_pos (show doneV F n g br i = true from hc47), Int32.add_zero] at hQ; exact hQ)
                | (simp only [finesf, if_pos (Nat.not_lt.mp hc26), if_pos ((eP_inj (fun p => hb1) hb2).mp hc37), if_neg (show ¬ doneV F n g br i = true from by rw [hc47]; decide), Int32.add_zero] at hQ; exact hQ)
  refine v_iconst (v := nI 0) dX0_finesOf_0 (by decide) ?_
  refine v_istore_4 rfl dX0_finesOf_1 ?_
  refine v_iconst (v := nI 0) dX0_finesOf_3 (by decide) ?_
  refine v_istore_5 rfl dX0_finesOf_4 ?_
  exact loop (F 4) 0 0 (by omega) hQ
end
