section
variable {b : Nat} {ad : Nat → Nat} {I : HI} {L : HL} {R : HR} {Q : QT} {a B n d : Nat} {F : bkF} {g : lends} {br : Nat → Nat} {pg : Nat → Bool} {c : Nat → Nat}
theorem c_X10_isTwiceAtOnce {r : Nat} (hR : RO R) (hB : SH B = .inl 0) (hb : R 150 0 = some B) (hF : BkI I B F) (hO : FOK F) (hr : r < 2 ^ 31) (hQ : Q (some (.int (bI (tw F r)))) SH I L R) : KK 1 mX10_isTwiceAtOnce b ad [.ref (b + 150), .int (nI r)] I L R Q := by
  obtain ⟨k0, k1, k2, k3, k4, k5, k6, -⟩ := id hO
  refine K.of (M := mX10_isTwiceAtOnce) (lv := [some (.ref (b + 150)), some (.int (nI r)), none, none]) (by decide) (Nat.le_of_ble_eq_true rfl) rfl ?_
  have inner : ∀ (i : Nat), i < F 5 → ∀ (jj j : Nat), j + jj = i → (oup (twp F r i) j jj = true → Q (some (.int (bI true))) SH I L R) → (oup (twp F r i) j jj = false → ∀ z, VV yX10_isTwiceAtOnce cX10_isTwiceAtOnce 4 (some .boolean) 1 Q b ad 91 [some (.ref (b + 150)), some (.int (nI r)), some (.int (nI i)), z] [] I L R) → VV yX10_isTwiceAtOnce cX10_isTwiceAtOnce 4 (some .boolean) 1 Q b ad 15 [some (.ref (b + 150)), some (.int (nI r)), some (.int (nI i)), some (.int (nI j))] [] I L R := by
    intro i hi jj
    obtain ⟨r1, r2, r3, r4, r5, r6⟩ := fk_s hO hi
    have rk := (fk_m hO r1).1
    induction jj with
    | zero =>
      intro j hij hq hk
      refine v_iload_3 dX10_isTwiceAtOnce_15 ?_
      refine v_iload_2 dX10_isTwiceAtOnce_16 ?_
      refine v_icmp_ge (tgt := 91) dX10_isTwiceAtOnce_17 (by decide) (fun hc17 => ?_) (fun hc17 => ?_)
      · (try rw [nI_leI (by omega) (by omega)] at hc17)
        exact hk rfl _
      · (try rw [nI_leI (by omega) (by omega)] at hc17)
        exfalso; omega
    | succ jj ih =>
      intro j hij hq hk
      refine v_iload_3 dX10_isTwiceAtOnce_15 ?_
      refine v_iload_2 dX10_isTwiceAtOnce_16 ?_
      refine v_icmp_ge (tgt := 91) dX10_isTwiceAtOnce_17 (by decide) (fun hc17 => ?_) (fun hc17 => ?_)
      · (try rw [nI_leI (by omega) (by omega)] at hc17)
        exfalso; omega
      · (try rw [nI_leI (by omega) (by omega)] at hc17)
        refine v_iload_1 dX10_isTwiceAtOnce_20 ?_
        refine v_iload_2 dX10_isTwiceAtOnce_21 ?_
        refine v_ishr dX10_isTwiceAtOnce_22 ?_
        refine v_iload_1 dX10_isTwiceAtOnce_23 ?_
        refine v_iload_3 dX10_isTwiceAtOnce_24 ?_
        refine v_ishr dX10_isTwiceAtOnce_25 ?_
        refine v_iand dX10_isTwiceAtOnce_26 ?_
        refine v_iconst (v := nI 1) dX10_isTwiceAtOnce_27 (by decide) ?_
        refine v_iand dX10_isTwiceAtOnce_28 ?_
        rw [bit2_b (by omega) (by omega) (by omega)]
        refine v_if_eq (tgt := 85) dX10_isTwiceAtOnce_29 (by decide) (fun hc29 => ?_) (fun hc29 => ?_)
        · (first | rw [bI_0, Bool.not_eq_false] at hc29 | rw [bI_0] at hc29 | rw [show (0 : Int32) = nI 0 from rfl, nI_eq (by omega) (by omega)] at hc29 | skip)
          refine v_iinc_3 (v := 1) rfl dX10_isTwiceAtOnce_85 (by decide) ?_
          refine v_goto (tgt := 15) dX10_isTwiceAtOnce_88 (by decide) ?_
          rw [← nI_succ]
          have et : twp F r i j = false := by
            first
              | (have e : (r.testBit i && r.testBit j) = false := hc29; simp only [twp, e, Bool.false_and]; done)
              | (have e : (decide (F (128 + 5 * i) = F (128 + 5 * j)) && decide (F (129 + 5 * i) = F (129 + 5 * j)) && decide (F (130 + 5 * i) = F (130 + 5 * j))) = false := hc53; simp only [twp, e, Bool.false_and, Bool.and_false]; done)
              | (have e : F (8 + F (128 + 5 * i)) = 3 := hc80; simp only [twp, e, ne_eq, not_true_eq_false, decide_false, Bool.and_false]; done)
          exact ih (j + 1) (by omega) (fun h => hq (by simp only [oup]; rw [et, Bool.false_or]; exact h)) (fun h => hk (by simp only [oup]; rw [et, Bool.false_or]; exact h))
        · (first | rw [bI_0, Bool.not_eq_false] at hc29 | rw [bI_0] at hc29 | rw [show (0 : Int32) = nI 0 from rfl, nI_eq (by omega) (by omega)] at hc29 | skip)
          refine v_aload_0 dX10_isTwiceAtOnce_32 ?_
          refine u_getR dX10_isTwiceAtOnce_33 gf_X10_31 (by first | assumption | rfl | exact led_1 (by assumption) | exact led_2 (by assumption) | exact bk_m (by assumption) (by first | assumption | omega) | exact bk_p (by assumption) (by first | assumption | omega) | exact bk_o (by assumption) (by first | assumption | omega) | exact bk_s (by assumption) (by first | assumption | omega) | exact bk_1 (by assumption) | exact bk_2 (by assumption) | exact bk_3 (by assumption) | exact bk_4 (by assumption) | exact bk_5 (by assumption) | exact bk_6 (by assumption) | exact bk_7 (by assumption) | exact bk_8 (by assumption) | exact sh_ring _ (by first | assumption | omega) | exact sh_imgs _ (by first | assumption | omega)) (by assumption) ?_
          refine u_getR dX10_isTwiceAtOnce_36 gf_X10_77 (by first | assumption | rfl | exact led_1 (by assumption) | exact led_2 (by assumption) | exact bk_m (by assumption) (by first | assumption | omega) | exact bk_p (by assumption) (by first | assumption | omega) | exact bk_o (by assumption) (by first | assumption | omega) | exact bk_s (by assumption) (by first | assumption | omega) | exact bk_1 (by assumption) | exact bk_2 (by assumption) | exact bk_3 (by assumption) | exact bk_4 (by assumption) | exact bk_5 (by assumption) | exact bk_6 (by assumption) | exact bk_7 (by assumption) | exact bk_8 (by assumption) | exact sh_ring _ (by first | assumption | omega) | exact sh_imgs _ (by first | assumption | omega)) (ro_X0_10 (by assumption) (by assumption)) ?_
          refine v_iload_2 dX10_isTwiceAtOnce_39 ?_
          refine u_aald dX10_isTwiceAtOnce_40 (by first | assumption | rfl | exact led_1 (by assumption) | exact led_2 (by assumption) | exact bk_m (by assumption) (by first | assumption | omega) | exact bk_p (by assumption) (by first | assumption | omega) | exact bk_o (by assumption) (by first | assumption | omega) | exact bk_s (by assumption) (by first | assumption | omega) | exact bk_1 (by assumption) | exact bk_2 (by assumption) | exact bk_3 (by assumption) | exact bk_4 (by assumption) | exact bk_5 (by assumption) | exact bk_6 (by assumption) | exact bk_7 (by assumption) | exact bk_8 (by assumption) | exact sh_ring _ (by first | assumption | omega) | exact sh_imgs _ (by first | assumption | omega)) (by decide) (by decide) rfl (by first | with_reducible rfl | (simp only [nlit, nI_add, pk_mul]; with_reducible rfl) | rfl) (by first | assumption | omega) (by decide) (by first | exact ro_m (by assumption) (by assumption) (by first | assumption | omega) | exact ro_p (by assumption) (by assumption) (by first | assumption | omega) | exact ro_o (by assumption) (by assumption) (by first | assumption | omega) | exact ro_s (by assumption) (by assumption) (by first | assumption | omega) | exact ro_ring (by assumption) (by first | assumption | omega) | exact ro_imgs (by assumption) (by first | assumption | omega)) ?_
          refine v_aload_0 dX10_isTwiceAtOnce_41 ?_
          refine u_getR dX10_isTwiceAtOnce_42 gf_X10_31 (by first | assumption | rfl | exact led_1 (by assumption) | exact led_2 (by assumption) | exact bk_m (by assumption) (by first | assumption | omega) | exact bk_p (by assumption) (by first | assumption | omega) | exact bk_o (by assumption) (by first | assumption | omega) | exact bk_s (by assumption) (by first | assumption | omega) | exact bk_1 (by assumption) | exact bk_2 (by assumption) | exact bk_3 (by assumption) | exact bk_4 (by assumption) | exact bk_5 (by assumption) | exact bk_6 (by assumption) | exact bk_7 (by assumption) | exact bk_8 (by assumption) | exact sh_ring _ (by first | assumption | omega) | exact sh_imgs _ (by first | assumption | omega)) (by assumption) ?_
          refine u_getR dX10_isTwiceAtOnce_45 gf_X10_77 (by first | assumption | rfl | exact led_1 (by assumption) | exact led_2 (by assumption) | exact bk_m (by assumption) (by first | assumption | omega) | exact bk_p (by assumption) (by first | assumption | omega) | exact bk_o (by assumption) (by first | assumption | omega) | exact bk_s (by assumption) (by first | assumption | omega) | exact bk_1 (by assumption) | exact bk_2 (by assumption) | exact bk_3 (by assumption) | exact bk_4 (by assumption) | exact bk_5 (by assumption) | exact bk_6 (by assumption) | exact bk_7 (by assumption) | exact bk_8 (by assumption) | exact sh_ring _ (by first | assumption | omega) | exact sh_imgs _ (by first | assumption | omega)) (ro_X0_10 (by assumption) (by assumption)) ?_
          refine v_iload_3 dX10_isTwiceAtOnce_48 ?_
          refine u_aald dX10_isTwiceAtOnce_49 (by first | assumption | rfl | exact led_1 (by assumption) | exact led_2 (by assumption) | exact bk_m (by assumption) (by first | assumption | omega) | exact bk_p (by assumption) (by first | assumption | omega) | exact bk_o (by assumption) (by first | assumption | omega) | exact bk_s (by assumption) (by first | assumption | omega) | exact bk_1 (by assumption) | exact bk_2 (by assumption) | exact bk_3 (by assumption) | exact bk_4 (by assumption) | exact bk_5 (by assumption) | exact bk_6 (by assumption) | exact bk_7 (by assumption) | exact bk_8 (by assumption) | exact sh_ring _ (by first | assumption | omega) | exact sh_imgs _ (by first | assumption | omega)) (by decide) (by decide) rfl (by first | with_reducible rfl | (simp only [nlit, nI_add, pk_mul]; with_reducible rfl) | rfl) (by first | assumption | omega) (by decide) (by first | exact ro_m (by assumption) (by assumption) (by first | assumption | omega) | exact ro_p (by assumption) (by assumption) (by first | assumption | omega) | exact ro_o (by assumption) (by assumption) (by first | assumption | omega) | exact ro_s (by assumption) (by assumption) (by first | assumption | omega) | exact ro_ring (by assumption) (by first | assumption | omega) | exact ro_imgs (by assumption) (by first | assumption | omega)) ?_
          refine u_callV_1 dX10_isTwiceAtOnce_50 ml_X10_107 mv_X8_clashesWith (by first | assumption | rfl | exact led_1 (by assumption) | exact led_2 (by assumption) | exact bk_m (by assumption) (by first | assumption | omega) | exact bk_p (by assumption) (by first | assumption | omega) | exact bk_o (by assumption) (by first | assumption | omega) | exact bk_s (by assumption) (by first | assumption | omega) | exact bk_1 (by assumption) | exact bk_2 (by assumption) | exact bk_3 (by assumption) | exact bk_4 (by assumption) | exact bk_5 (by assumption) | exact bk_6 (by assumption) | exact bk_7 (by assumption) | exact bk_8 (by assumption) | exact sh_ring _ (by first | assumption | omega) | exact sh_imgs _ (by first | assumption | omega)) (by decide) rfl (by decide) (Nat.le_of_ble_eq_true rfl) (c_X8_clashesWith (bk_s hB (by omega)) (bk_s hB (by omega)) (hF.sg hO (by omega)) (hF.sg hO (by omega)) ?_)
          refine v_if_eq (tgt := 85) dX10_isTwiceAtOnce_53 (by decide) (fun hc53 => ?_) (fun hc53 => ?_)
          · (first | rw [bI_0, Bool.not_eq_false] at hc53 | rw [bI_0] at hc53 | rw [show (0 : Int32) = nI 0 from rfl, nI_eq (by omega) (by omega)] at hc53 | skip)
            refine v_iinc_3 (v := 1) rfl dX10_isTwiceAtOnce_85 (by decide) ?_
            refine v_goto (tgt := 15) dX10_isTwiceAtOnce_88 (by decide) ?_
            rw [← nI_succ]
            have et : twp F r i j = false := by
              first
                | (have e : (r.testBit i && r.testBit j) = false := hc29; simp only [twp, e, Bool.false_and]; done)
                | (have e : (decide (F (128 + 5 * i) = F (128 + 5 * j)) && decide (F (129 + 5 * i) = F (129 + 5 * j)) && decide (F (130 + 5 * i) = F (130 + 5 * j))) = false := hc53; simp only [twp, e, Bool.false_and, Bool.and_false]; done)
                | (have e : F (8 + F (128 + 5 * i)) = 3 := hc80; simp only [twp, e, ne_eq, not_true_eq_false, decide_false, Bool.and_false]; done)
            exact ih (j + 1) (by omega) (fun h => hq (by simp only [oup]; rw [et, Bool.false_or]; exact h)) (fun h => hk (by simp only [oup]; rw [et, Bool.false_or]; exact h))
          · (first | rw [bI_0, Bool.not_eq_false] at hc53 | rw [bI_0] at hc53 | rw [show (0 : Int32) = nI 0 from rfl, nI_eq (by omega) (by omega)] at hc53 | skip)
            refine v_aload_0 dX10_isTwiceAtOnce_56 ?_
            refine u_getR dX10_isTwiceAtOnce_57 gf_X10_31 (by first | assumption | rfl | exact led_1 (by assumption) | exact led_2 (by assumption) | exact bk_m (by assumption) (by first | assumption | omega) | exact bk_p (by assumption) (by first | assumption | omega) | exact bk_o (by assumption) (by first | assumption | omega) | exact bk_s (by assumption) (by first | assumption | omega) | exact bk_1 (by assumption) | exact bk_2 (by assumption) | exact bk_3 (by assumption) | exact bk_4 (by assumption) | exact bk_5 (by assumption) | exact bk_6 (by assumption) | exact bk_7 (by assumption) | exact bk_8 (by assumption) | exact sh_ring _ (by first | assumption | omega) | exact sh_imgs _ (by first | assumption | omega)) (by assumption) ?_
            refine u_getR dX10_isTwiceAtOnce_60 gf_X10_111 (by first | assumption | rfl | exact led_1 (by assumption) | exact led_2 (by assumption) | exact bk_m (by assumption) (by first | assumption | omega) | exact bk_p (by assumption) (by first | assumption | omega) | exact bk_o (by assumption) (by first | assumption | omega) | exact bk_s (by assumption) (by first | assumption | omega) | exact bk_1 (by assumption) | exact bk_2 (by assumption) | exact bk_3 (by assumption) | exact bk_4 (by assumption) | exact bk_5 (by assumption) | exact bk_6 (by assumption) | exact bk_7 (by assumption) | exact bk_8 (by assumption) | exact sh_ring _ (by first | assumption | omega) | exact sh_imgs _ (by first | assumption | omega)) (ro_X0_7 (by assumption) (by assumption)) ?_
            refine v_aload_0 dX10_isTwiceAtOnce_63 ?_
            refine u_getR dX10_isTwiceAtOnce_64 gf_X10_31 (by first | assumption | rfl | exact led_1 (by assumption) | exact led_2 (by assumption) | exact bk_m (by assumption) (by first | assumption | omega) | exact bk_p (by assumption) (by first | assumption | omega) | exact bk_o (by assumption) (by first | assumption | omega) | exact bk_s (by assumption) (by first | assumption | omega) | exact bk_1 (by assumption) | exact bk_2 (by assumption) | exact bk_3 (by assumption) | exact bk_4 (by assumption) | exact bk_5 (by assumption) | exact bk_6 (by assumption) | exact bk_7 (by assumption) | exact bk_8 (by assumption) | exact sh_ring _ (by first | assumption | omega) | exact sh_imgs _ (by first | assumption | omega)) (by assumption) ?_
            refine u_getR dX10_isTwiceAtOnce_67 gf_X10_77 (by first | assumption | rfl | exact led_1 (by assumption) | exact led_2 (by assumption) | exact bk_m (by assumption) (by first | assumption | omega) | exact bk_p (by assumption) (by first | assumption | omega) | exact bk_o (by assumption) (by first | assumption | omega) | exact bk_s (by assumption) (by first | assumption | omega) | exact bk_1 (by assumption) | exact bk_2 (by assumption) | exact bk_3 (by assumption) | exact bk_4 (by assumption) | exact bk_5 (by assumption) | exact bk_6 (by assumption) | exact bk_7 (by assumption) | exact bk_8 (by assumption) | exact sh_ring _ (by first | assumption | omega) | exact sh_imgs _ (by first | assumption | omega)) (ro_X0_10 (by assumption) (by assumption)) ?_
            refine v_iload_2 dX10_isTwiceAtOnce_70 ?_
            refine u_aald dX10_isTwiceAtOnce_71 (by first | assumption | rfl | exact led_1 (by assumption) | exact led_2 (by assumption) | exact bk_m (by assumption) (by first | assumption | omega) | exact bk_p (by assumption) (by first | assumption | omega) | exact bk_o (by assumption) (by first | assumption | omega) | exact bk_s (by assumption) (by first | assumption | omega) | exact bk_1 (by assumption) | exact bk_2 (by assumption) | exact bk_3 (by assumption) | exact bk_4 (by assumption) | exact bk_5 (by assumption) | exact bk_6 (by assumption) | exact bk_7 (by assumption) | exact bk_8 (by assumption) | exact sh_ring _ (by first | assumption | omega) | exact sh_imgs _ (by first | assumption | omega)) (by decide) (by decide) rfl (by first | with_reducible rfl | (simp only [nlit, nI_add, pk_mul]; with_reducible rfl) | rfl) (by first | assumption | omega) (by decide) (by first | exact ro_m (by assumption) (by assumption) (by first | assumption | omega) | exact ro_p (by assumption) (by assumption) (by first | assumption | omega) | exact ro_o (by assumption) (by assumption) (by first | assumption | omega) | exact ro_s (by assumption) (by assumption) (by first | assumption | omega) | exact ro_ring (by assumption) (by first | assumption | omega) | exact ro_imgs (by assumption) (by first | assumption | omega)) ?_
            refine u_getI dX10_isTwiceAtOnce_72 gf_X10_115 (by first | assumption | rfl | exact led_1 (by assumption) | exact led_2 (by assumption) | exact bk_m (by assumption) (by first | assumption | omega) | exact bk_p (by assumption) (by first | assumption | omega) | exact bk_o (by assumption) (by first | assumption | omega) | exact bk_s (by assumption) (by first | assumption | omega) | exact bk_1 (by assumption) | exact bk_2 (by assumption) | exact bk_3 (by assumption) | exact bk_4 (by assumption) | exact bk_5 (by assumption) | exact bk_6 (by assumption) | exact bk_7 (by assumption) | exact bk_8 (by assumption) | exact sh_ring _ (by first | assumption | omega) | exact sh_imgs _ (by first | assumption | omega)) ?_
            (first | (rw [bs0 hF]; rotate_left; (first | assumption | omega)) | skip)
            refine u_aald dX10_isTwiceAtOnce_75 (by first | assumption | rfl | exact led_1 (by assumption) | exact led_2 (by assumption) | exact bk_m (by assumption) (by first | assumption | omega) | exact bk_p (by assumption) (by first | assumption | omega) | exact bk_o (by assumption) (by first | assumption | omega) | exact bk_s (by assumption) (by first | assumption | omega) | exact bk_1 (by assumption) | exact bk_2 (by assumption) | exact bk_3 (by assumption) | exact bk_4 (by assumption) | exact bk_5 (by assumption) | exact bk_6 (by assumption) | exact bk_7 (by assumption) | exact bk_8 (by assumption) | exact sh_ring _ (by first | assumption | omega) | exact sh_imgs _ (by first | assumption | omega)) (by decide) (by decide) rfl (by first | with_reducible rfl | (simp only [nlit, nI_add, pk_mul]; with_reducible rfl) | rfl) (by first | assumption | omega) (by decide) (by first | exact ro_m (by assumption) (by assumption) (by first | assumption | omega) | exact ro_p (by assumption) (by assumption) (by first | assumption | omega) | exact ro_o (by assumption) (by assumption) (by first | assumption | omega) | exact ro_s (by assumption) (by assumption) (by first | assumption | omega) | exact ro_ring (by assumption) (by first | assumption | omega) | exact ro_imgs (by assumption) (by first | assumption | omega)) ?_
            refine u_getI dX10_isTwiceAtOnce_76 gf_X10_118 (by first | assumption | rfl | exact led_1 (by assumption) | exact led_2 (by assumption) | exact bk_m (by assumption) (by first | assumption | omega) | exact bk_p (by assumption) (by first | assumption | omega) | exact bk_o (by assumption) (by first | assumption | omega) | exact bk_s (by assumption) (by first | assumption | omega) | exact bk_1 (by assumption) | exact bk_2 (by assumption) | exact bk_3 (by assumption) | exact bk_4 (by assumption) | exact bk_5 (by assumption) | exact bk_6 (by assumption) | exact bk_7 (by assumption) | exact bk_8 (by assumption) | exact sh_ring _ (by first | assumption | omega) | exact sh_imgs _ (by first | assumption | omega)) ?_
            (first | (rw [bm0 hF]; rotate_left; (first | assumption | omega)) | skip)
            refine v_iconst (v := nI 3) dX10_isTwiceAtOnce_79 (by decide) ?_
            refine v_icmp_eq (tgt := 85) dX10_isTwiceAtOnce_80 (by decide) (fun hc80 => ?_) (fun hc80 => ?_)
            · (try rw [nI_eq (by omega) (by omega)] at hc80)
              refine v_iinc_3 (v := 1) rfl dX10_isTwiceAtOnce_85 (by decide) ?_
              refine v_goto (tgt := 15) dX10_isTwiceAtOnce_88 (by decide) ?_
              rw [← nI_succ]
              have et : twp F r i j = false := by
                first
                  | (have e : (r.testBit i && r.testBit j) = false := hc29; simp only [twp, e, Bool.false_and]; done)
                  | (have e : (decide (F (128 + 5 * i) = F (128 + 5 * j)) && decide (F (129 + 5 * i) = F (129 + 5 * j)) && decide (F (130 + 5 * i) = F (130 + 5 * j))) = false := hc53; simp only [twp, e, Bool.false_and, Bool.and_false]; done)
                  | (have e : F (8 + F (128 + 5 * i)) = 3 := hc80; simp only [twp, e, ne_eq, not_true_eq_false, decide_false, Bool.and_false]; done)
              exact ih (j + 1) (by omega) (fun h => hq (by simp only [oup]; rw [et, Bool.false_or]; exact h)) (fun h => hk (by simp only [oup]; rw [et, Bool.false_or]; exact h))
            · (try rw [nI_eq (by omega) (by omega)] at hc80)
              refine v_iconst (v := nI 1) dX10_isTwiceAtOnce_83 (by decide) ?_
              refine v_zret dX10_isTwiceAtOnce_84 rfl rfl rfl rfl rfl ?_
              exact hq (by simp only [oup]; rw [show twp F r i j = true from by simp only [twp, hc29, hc53, Bool.true_and, decide_eq_true_eq]; exact hc80, Bool.true_or])
  have outer : ∀ (jj i : Nat) (z : Option Value), i + jj = F 5 → Q (some (.int (bI (oup (fun i => oup (twp F r i) 0 i) i jj)))) SH I L R → VV yX10_isTwiceAtOnce cX10_isTwiceAtOnce 4 (some .boolean) 1 Q b ad 2 [some (.ref (b + 150)), some (.int (nI r)), some (.int (nI i)), z] [] I L R := by
    intro jj
    induction jj with
    | zero =>
      intro i z hij hQ
      refine v_iload_2 dX10_isTwiceAtOnce_2 ?_
      refine v_aload_0 dX10_isTwiceAtOnce_3 ?_
      refine u_getR dX10_isTwiceAtOnce_4 gf_X10_31 (by first | assumption | rfl | exact led_1 (by assumption) | exact led_2 (by assumption) | exact bk_m (by assumption) (by first | assumption | omega) | exact bk_p (by assumption) (by first | assumption | omega) | exact bk_o (by assumption) (by first | assumption | omega) | exact bk_s (by assumption) (by first | assumption | omega) | exact bk_1 (by assumption) | exact bk_2 (by assumption) | exact bk_3 (by assumption) | exact bk_4 (by assumption) | exact bk_5 (by assumption) | exact bk_6 (by assumption) | exact bk_7 (by assumption) | exact bk_8 (by assumption) | exact sh_ring _ (by first | assumption | omega) | exact sh_imgs _ (by first | assumption | omega)) (by assumption) ?_
      refine u_getI dX10_isTwiceAtOnce_7 gf_X10_43 (by first | assumption | rfl | exact led_1 (by assumption) | exact led_2 (by assumption) | exact bk_m (by assumption) (by first | assumption | omega) | exact bk_p (by assumption) (by first | assumption | omega) | exact bk_o (by assumption) (by first | assumption | omega) | exact bk_s (by assumption) (by first | assumption | omega) | exact bk_1 (by assumption) | exact bk_2 (by assumption) | exact bk_3 (by assumption) | exact bk_4 (by assumption) | exact bk_5 (by assumption) | exact bk_6 (by assumption) | exact bk_7 (by assumption) | exact bk_8 (by assumption) | exact sh_ring _ (by first | assumption | omega) | exact sh_imgs _ (by first | assumption | omega)) ?_
      (try rw [bx5 hF])
      refine v_icmp_ge (tgt := 97) dX10_isTwiceAtOnce_10 (by decide) (fun hc10 => ?_) (fun hc10 => ?_)
      · (try rw [nI_leI (by omega) (by omega)] at hc10)
        refine v_iconst (v := nI 0) dX10_isTwiceAtOnce_97 (by decide) ?_
        refine v_zret dX10_isTwiceAtOnce_98 (by first | rfl | exact bI_n _) rfl rfl rfl rfl ?_
        exact hQ
      · (try rw [nI_leI (by omega) (by omega)] at hc10)
        exfalso; omega
    | succ jj ih =>
      intro i z hij hQ
      refine v_iload_2 dX10_isTwiceAtOnce_2 ?_
      refine v_aload_0 dX10_isTwiceAtOnce_3 ?_
      refine u_getR dX10_isTwiceAtOnce_4 gf_X10_31 (by first | assumption | rfl | exact led_1 (by assumption) | exact led_2 (by assumption) | exact bk_m (by assumption) (by first | assumption | omega) | exact bk_p (by assumption) (by first | assumption | omega) | exact bk_o (by assumption) (by first | assumption | omega) | exact bk_s (by assumption) (by first | assumption | omega) | exact bk_1 (by assumption) | exact bk_2 (by assumption) | exact bk_3 (by assumption) | exact bk_4 (by assumption) | exact bk_5 (by assumption) | exact bk_6 (by assumption) | exact bk_7 (by assumption) | exact bk_8 (by assumption) | exact sh_ring _ (by first | assumption | omega) | exact sh_imgs _ (by first | assumption | omega)) (by assumption) ?_
      refine u_getI dX10_isTwiceAtOnce_7 gf_X10_43 (by first | assumption | rfl | exact led_1 (by assumption) | exact led_2 (by assumption) | exact bk_m (by assumption) (by first | assumption | omega) | exact bk_p (by assumption) (by first | assumption | omega) | exact bk_o (by assumption) (by first | assumption | omega) | exact bk_s (by assumption) (by first | assumption | omega) | exact bk_1 (by assumption) | exact bk_2 (by assumption) | exact bk_3 (by assumption) | exact bk_4 (by assumption) | exact bk_5 (by assumption) | exact bk_6 (by assumption) | exact bk_7 (by assumption) | exact bk_8 (by assumption) | exact sh_ring _ (by first | assumption | omega) | exact sh_imgs _ (by first | assumption | omega)) ?_
      (try rw [bx5 hF])
      refine v_icmp_ge (tgt := 97) dX10_isTwiceAtOnce_10 (by decide) (fun hc10 => ?_) (fun hc10 => ?_)
      · (try rw [nI_leI (by omega) (by omega)] at hc10)
        exfalso; omega
      · (try rw [nI_leI (by omega) (by omega)] at hc10)
        refine v_iconst (v := nI 0) dX10_isTwiceAtOnce_13 (by decide) ?_
        refine v_istore_3 rfl dX10_isTwiceAtOnce_14 ?_
        refine inner i (by omega) i 0 (by omega) (fun h => ?_) (fun h z => ?_)
        · simp only [oup, h, Bool.true_or] at hQ; exact hQ
        · refine v_iinc_2 (v := 1) rfl dX10_isTwiceAtOnce_91 (by decide) ?_
          refine v_goto (tgt := 2) dX10_isTwiceAtOnce_94 (by decide) ?_
          rw [← nI_succ]
          refine ih (i + 1) z (by omega) ?_
          simp only [oup, h, Bool.false_or] at hQ; exact hQ
  refine v_iconst (v := nI 0) dX10_isTwiceAtOnce_0 (by decide) ?_
  refine v_istore_2 rfl dX10_isTwiceAtOnce_1 ?_
  exact outer (F 5) 0 none (by omega) hQ
theorem c_X10_holdsWithout {w : Nat} (hR : RO R) (hB : SH B = .inl 0) (hb : R 150 0 = some B) (hF : BkI I B F) (hO : FOK F) (hN : NtI I F n g d) (hps : pers F n g) (hQ0 : tw F (andn (ofd F d) w) = true → Q (some (.int 0)) SH I L R) (hQ1 : tw F (andn (ofd F d) w) = false → ∀ J, WcI J (F 2) (pgk F n g d (andn (ofd F d) w) (F 5)) (cdk F n g d (andn (ofd F d) w) (F 5)) → (∀ x, x ≠ 154 → x ≠ 155 → J x = I x) → Q (some (.int (bI (decide (0 < wys (F 3) (pgk F n g d (andn (ofd F d) w) (F 5)) (cdk F n g d (andn (ofd F d) w) (F 5)) (F 2) 0 0))))) SH J L R) : KK 7 mX10_holdsWithout b ad [.ref (b + 150), .int (nI w)] I L R Q := by
  obtain ⟨k0, k1, k2, k3, k4, k5, k6, -⟩ := id hO
  have hr256 : andn (ofd F d) w < 256 := Nat.lt_of_le_of_lt (andn_le _ _) (ofd_lt hO d)
  have hrd : ∀ s, s < F 5 → (andn (ofd F d) w).testBit s = true → F (129 + 5 * s) = d := fun s hs h => by
    rw [andn_bit (by omega), ofd_bit hs] at h
    simp only [Bool.and_eq_true, decide_eq_true_eq] at h
    exact h.1
  have hwl := wys_lt (P := F 3) (k := F 2) (m := 0) (s := 0) (pg := pgk F n g d (andn (ofd F d) w) (F 5)) (c := cdk F n g d (andn (ofd F d) w) (F 5)) k3 k2
  refine K.of (M := mX10_holdsWithout) (lv := [some (.ref (b + 150)), some (.int (nI w)), none]) (by decide) (Nat.le_of_ble_eq_true rfl) rfl ?_
  refine v_aload_0 dX10_holdsWithout_0 ?_
  refine u_getI dX10_holdsWithout_1 gf_X10_48 (by first | assumption | rfl | exact led_1 (by assumption) | exact led_2 (by assumption) | exact bk_m (by assumption) (by first | assumption | omega) | exact bk_p (by assumption) (by first | assumption | omega) | exact bk_o (by assumption) (by first | assumption | omega) | exact bk_s (by assumption) (by first | assumption | omega) | exact bk_1 (by assumption) | exact bk_2 (by assumption) | exact bk_3 (by assumption) | exact bk_4 (by assumption) | exact bk_5 (by assumption) | exact bk_6 (by assumption) | exact bk_7 (by assumption) | exact bk_8 (by assumption) | exact sh_ring _ (by first | assumption | omega) | exact sh_imgs _ (by first | assumption | omega)) ?_
  rw [hN.2.1]
  refine v_iload_1 dX10_holdsWithout_4 ?_
  refine v_iconst (v := -1) dX10_holdsWithout_5 (by decide) ?_
  refine v_ixor dX10_holdsWithout_6 ?_
  refine v_iand dX10_holdsWithout_7 ?_
  rw [andn_I]
  refine v_istore_2 rfl dX10_holdsWithout_8 ?_
  refine v_aload_0 dX10_holdsWithout_9 ?_
  refine v_iload_2 dX10_holdsWithout_10 ?_
  refine u_callV_1 dX10_holdsWithout_11 ml_X10_101 mv_X10_isTwiceAtOnce (by first | assumption | rfl | exact led_1 (by assumption) | exact led_2 (by assumption) | exact bk_m (by assumption) (by first | assumption | omega) | exact bk_p (by assumption) (by first | assumption | omega) | exact bk_o (by assumption) (by first | assumption | omega) | exact bk_s (by assumption) (by first | assumption | omega) | exact bk_1 (by assumption) | exact bk_2 (by assumption) | exact bk_3 (by assumption) | exact bk_4 (by assumption) | exact bk_5 (by assumption) | exact bk_6 (by assumption) | exact bk_7 (by assumption) | exact bk_8 (by assumption) | exact sh_ring _ (by first | assumption | omega) | exact sh_imgs _ (by first | assumption | omega)) (by decide) rfl (by decide) (Nat.le_of_ble_eq_true rfl) (c_X10_isTwiceAtOnce hR hB hb hF hO (by omega) ?_)
  refine v_if_eq (tgt := 19) dX10_holdsWithout_14 (by decide) (fun hc14 => ?_) (fun hc14 => ?_)
  · (first | rw [bI_0, Bool.not_eq_false] at hc14 | rw [bI_0] at hc14 | rw [show (0 : Int32) = nI 0 from rfl, nI_eq (by omega) (by omega)] at hc14 | skip)
    refine v_aload_0 dX10_holdsWithout_19 ?_
    refine v_iload_2 dX10_holdsWithout_20 ?_
    refine u_callV_1 dX10_holdsWithout_21 ml_X10_61 mv_X10_arrange (by first | assumption | rfl | exact led_1 (by assumption) | exact led_2 (by assumption) | exact bk_m (by assumption) (by first | assumption | omega) | exact bk_p (by assumption) (by first | assumption | omega) | exact bk_o (by assumption) (by first | assumption | omega) | exact bk_s (by assumption) (by first | assumption | omega) | exact bk_1 (by assumption) | exact bk_2 (by assumption) | exact bk_3 (by assumption) | exact bk_4 (by assumption) | exact bk_5 (by assumption) | exact bk_6 (by assumption) | exact bk_7 (by assumption) | exact bk_8 (by assumption) | exact sh_ring _ (by first | assumption | omega) | exact sh_imgs _ (by first | assumption | omega)) (by decide) rfl (by decide) (Nat.le_of_ble_eq_true rfl) (c_X10_arrange hR hB hb hF hO hN hps (by omega) hrd (fun J hJ1 hJ2 => ?_))
    have hF2 := BkI.fr hB hF hO (J := J) (fun x hx => hJ2 x (by omega) (by omega))
    refine v_aload_0 dX10_holdsWithout_24 ?_
    refine v_iconst (v := nI 0) dX10_holdsWithout_25 (by decide) ?_
    refine v_iconst (v := nI 0) dX10_holdsWithout_26 (by decide) ?_
    refine u_callV_2 dX10_holdsWithout_27 ml_X10_104 mv_X10_ways (by first | assumption | rfl | exact led_1 (by assumption) | exact led_2 (by assumption) | exact bk_m (by assumption) (by first | assumption | omega) | exact bk_p (by assumption) (by first | assumption | omega) | exact bk_o (by assumption) (by first | assumption | omega) | exact bk_s (by assumption) (by first | assumption | omega) | exact bk_1 (by assumption) | exact bk_2 (by assumption) | exact bk_3 (by assumption) | exact bk_4 (by assumption) | exact bk_5 (by assumption) | exact bk_6 (by assumption) | exact bk_7 (by assumption) | exact bk_8 (by assumption) | exact sh_ring _ (by first | assumption | omega) | exact sh_imgs _ (by first | assumption | omega)) (by decide) rfl (by omega) (Nat.le_of_ble_eq_true rfl) (c_X10_ways hR hB hb hF2 hO hJ1 (F 2) 0 0 _ (by omega) ?_)
    refine v_if_le (tgt := 37) dX10_holdsWithout_30 (by decide) (fun hc30 => ?_) (fun hc30 => ?_)
    · (first | rw [show (0 : Int32) = nI 0 from rfl, nI_ltI (by omega) (by omega)] at hc30 | rw [show (0 : Int32) = nI 0 from rfl, nI_leI (by omega) (by omega)] at hc30 | skip)
      refine v_iconst (v := nI 0) dX10_holdsWithout_37 (by decide) ?_
      refine v_zret dX10_holdsWithout_38 (by first | rfl | exact bI_n _) rfl rfl rfl rfl ?_
      first | (have e : 0 < wys (F 3) (pgk F n g d (andn (ofd F d) w) (F 5)) (cdk F n g d (andn (ofd F d) w) (F 5)) (F 2) 0 0 := Nat.not_le.mp hc30; have h := hQ1 hc14 J hJ1 hJ2; rw [bI_t (decide_eq_true e)] at h; exact h) | (have e : wys (F 3) (pgk F n g d (andn (ofd F d) w) (F 5)) (cdk F n g d (andn (ofd F d) w) (F 5)) (F 2) 0 0 ≤ 0 := hc30; have h := hQ1 hc14 J hJ1 hJ2; rw [bI_f (decide_eq_false (Nat.not_lt.mpr e))] at h; exact h)
    · (first | rw [show (0 : Int32) = nI 0 from rfl, nI_ltI (by omega) (by omega)] at hc30 | rw [show (0 : Int32) = nI 0 from rfl, nI_leI (by omega) (by omega)] at hc30 | skip)
      refine v_iconst (v := nI 1) dX10_holdsWithout_33 (by decide) ?_
      refine v_goto (tgt := 38) dX10_holdsWithout_34 (by decide) ?_
      refine v_zret dX10_holdsWithout_38 (by first | rfl | exact bI_n _) rfl rfl rfl rfl ?_
      first | (have e : 0 < wys (F 3) (pgk F n g d (andn (ofd F d) w) (F 5)) (cdk F n g d (andn (ofd F d) w) (F 5)) (F 2) 0 0 := Nat.not_le.mp hc30; have h := hQ1 hc14 J hJ1 hJ2; rw [bI_t (decide_eq_true e)] at h; exact h) | (have e : wys (F 3) (pgk F n g d (andn (ofd F d) w) (F 5)) (cdk F n g d (andn (ofd F d) w) (F 5)) (F 2) 0 0 ≤ 0 := hc30; have h := hQ1 hc14 J hJ1 hJ2; rw [bI_f (decide_eq_false (Nat.not_lt.mpr e))] at h; exact h)
  · (first | rw [bI_0, Bool.not_eq_false] at hc14 | rw [bI_0] at hc14 | rw [show (0 : Int32) = nI 0 from rfl, nI_eq (by omega) (by omega)] at hc14 | skip)
    refine v_iconst (v := nI 0) dX10_holdsWithout_17 (by decide) ?_
    refine v_zret dX10_holdsWithout_18 rfl rfl rfl rfl rfl ?_
    exact hQ0 hc14
theorem bc_all : ∀ w, w < 256 → (((((((((nI w) - (((nI w).toUInt32 >>> ((nI 1).toUInt32 &&& Int32.toUInt32 31)).toInt32 &&& 1431655765)) &&& 858993459) + ((((nI w) - (((nI w).toUInt32 >>> ((nI 1).toUInt32 &&& Int32.toUInt32 31)).toInt32 &&& 1431655765)).toUInt32 >>> ((nI 2).toUInt32 &&& Int32.toUInt32 31)).toInt32 &&& 858993459)) + (((((nI w) - (((nI w).toUInt32 >>> ((nI 1).toUInt32 &&& Int32.toUInt32 31)).toInt32 &&& 1431655765)) &&& 858993459) + ((((nI w) - (((nI w).toUInt32 >>> ((nI 1).toUInt32 &&& Int32.toUInt32 31)).toInt32 &&& 1431655765)).toUInt32 >>> ((nI 2).toUInt32 &&& Int32.toUInt32 31)).toInt32 &&& 858993459)).toUInt32 >>> ((nI 4).toUInt32 &&& Int32.toUInt32 31)).toInt32) &&& 252645135) + (((((((nI w) - (((nI w).toUInt32 >>> ((nI 1).toUInt32 &&& Int32.toUInt32 31)).toInt32 &&& 1431655765)) &&& 858993459) + ((((nI w) - (((nI w).toUInt32 >>> ((nI 1).toUInt32 &&& Int32.toUInt32 31)).toInt32 &&& 1431655765)).toUInt32 >>> ((nI 2).toUInt32 &&& Int32.toUInt32 31)).toInt32 &&& 858993459)) + (((((nI w) - (((nI w).toUInt32 >>> ((nI 1).toUInt32 &&& Int32.toUInt32 31)).toInt32 &&& 1431655765)) &&& 858993459) + ((((nI w) - (((nI w).toUInt32 >>> ((nI 1).toUInt32 &&& Int32.toUInt32 31)).toInt32 &&& 1431655765)).toUInt32 >>> ((nI 2).toUInt32 &&& Int32.toUInt32 31)).toInt32 &&& 858993459)).toUInt32 >>> ((nI 4).toUInt32 &&& Int32.toUInt32 31)).toInt32) &&& 252645135).toUInt32 >>> ((nI 8).toUInt32 &&& Int32.toUInt32 31)).toInt32) + ((((((((nI w) - (((nI w).toUInt32 >>> ((nI 1).toUInt32 &&& Int32.toUInt32 31)).toInt32 &&& 1431655765)) &&& 858993459) + ((((nI w) - (((nI w).toUInt32 >>> ((nI 1).toUInt32 &&& Int32.toUInt32 31)).toInt32 &&& 1431655765)).toUInt32 >>> ((nI 2).toUInt32 &&& Int32.toUInt32 31)).toInt32 &&& 858993459)) + (((((nI w) - (((nI w).toUInt32 >>> ((nI 1).toUInt32 &&& Int32.toUInt32 31)).toInt32 &&& 1431655765)) &&& 858993459) + ((((nI w) - (((nI w).toUInt32 >>> ((nI 1).toUInt32 &&& Int32.toUInt32 31)).toInt32 &&& 1431655765)).toUInt32 >>> ((nI 2).toUInt32 &&& Int32.toUInt32 31)).toInt32 &&& 858993459)).toUInt32 >>> ((nI 4).toUInt32 &&& Int32.toUInt32 31)).toInt32) &&& 252645135) + (((((((nI w) - (((nI w).toUInt32 >>> ((nI 1).toUInt32 &&& Int32.toUInt32 31)).toInt32 &&& 1431655765)) &&& 858993459) + ((((nI w) - (((nI w).toUInt32 >>> ((nI 1).toUInt32 &&& Int32.toUInt32 31)).toInt32 &&& 1431655765)).toUInt32 >>> ((nI 2).toUInt32 &&& Int32.toUInt32 31)).toInt32 &&& 858993459)) + (((((nI w) - (((nI w).toUInt32 >>> ((nI 1).toUInt32 &&& Int32.toUInt32 31)).toInt32 &&& 1431655765)) &&& 858993459) + ((((nI w) - (((nI w).toUInt32 >>> ((nI 1).toUInt32 &&& Int32.toUInt32 31)).toInt32 &&& 1431655765)).toUInt32 >>> ((nI 2).toUInt32 &&& Int32.toUInt32 31)).toInt32 &&& 858993459)).toUInt32 >>> ((nI 4).toUInt32 &&& Int32.toUInt32 31)).toInt32) &&& 252645135).toUInt32 >>> ((nI 8).toUInt32 &&& Int32.toUInt32 31)).toInt32).toUInt32 >>> ((nI 16).toUInt32 &&& Int32.toUInt32 31)).toInt32) &&& nI 63) = nI (bitc w) := by decide +kernel
theorem c_bitCount {w : Nat} (hw : w < 256) (hQ : Q (some (.int (nI (bitc w)))) SH I L R) : KK 0 mJ6_bitCount_0f7a4 b ad [.int (nI w)] I L R Q := by
  refine K.of (M := mJ6_bitCount_0f7a4) (lv := [some (.int (nI w))]) (by decide) (Nat.le_of_ble_eq_true rfl) rfl ?_
  refine v_iload_0 dJ6_bitCount_0f7a4_0 ?_
  refine v_iload_0 dJ6_bitCount_0f7a4_1 ?_
  refine v_iconst (v := nI 1) dJ6_bitCount_0f7a4_2 (by decide) ?_
  refine v_iushr dJ6_bitCount_0f7a4_3 ?_
  refine v_ldcw (v := 1431655765) dJ6_bitCount_0f7a4_4 (uu (i := 1165) (by decide +kernel) rfl) ?_
  refine v_iand dJ6_bitCount_0f7a4_7 ?_
  refine v_isub dJ6_bitCount_0f7a4_8 ?_
  refine v_istore_0 dJ6_bitCount_0f7a4_9 ?_
  refine v_iload_0 dJ6_bitCount_0f7a4_10 ?_
  refine v_ldcw (v := 858993459) dJ6_bitCount_0f7a4_11 (uu (i := 1166) (by decide +kernel) rfl) ?_
  refine v_iand dJ6_bitCount_0f7a4_14 ?_
  refine v_iload_0 dJ6_bitCount_0f7a4_15 ?_
  refine v_iconst (v := nI 2) dJ6_bitCount_0f7a4_16 (by decide) ?_
  refine v_iushr dJ6_bitCount_0f7a4_17 ?_
  refine v_ldcw (v := 858993459) dJ6_bitCount_0f7a4_18 (uu (i := 1166) (by decide +kernel) rfl) ?_
  refine v_iand dJ6_bitCount_0f7a4_21 ?_
  refine v_iadd dJ6_bitCount_0f7a4_22 ?_
  refine v_istore_0 dJ6_bitCount_0f7a4_23 ?_
  refine v_iload_0 dJ6_bitCount_0f7a4_24 ?_
  refine v_iload_0 dJ6_bitCount_0f7a4_25 ?_
  refine v_iconst (v := nI 4) dJ6_bitCount_0f7a4_26 (by decide) ?_
  refine v_iushr dJ6_bitCount_0f7a4_27 ?_
  refine v_iadd dJ6_bitCount_0f7a4_28 ?_
  refine v_ldcw (v := 252645135) dJ6_bitCount_0f7a4_29 (uu (i := 1167) (by decide +kernel) rfl) ?_
  refine v_iand dJ6_bitCount_0f7a4_32 ?_
  refine v_istore_0 dJ6_bitCount_0f7a4_33 ?_
  refine v_iload_0 dJ6_bitCount_0f7a4_34 ?_
  refine v_iload_0 dJ6_bitCount_0f7a4_35 ?_
  refine v_bipush (v := nI 8) dJ6_bitCount_0f7a4_36 (by decide) ?_
  refine v_iushr dJ6_bitCount_0f7a4_38 ?_
  refine v_iadd dJ6_bitCount_0f7a4_39 ?_
  refine v_istore_0 dJ6_bitCount_0f7a4_40 ?_
  refine v_iload_0 dJ6_bitCount_0f7a4_41 ?_
  refine v_iload_0 dJ6_bitCount_0f7a4_42 ?_
  refine v_bipush (v := nI 16) dJ6_bitCount_0f7a4_43 (by decide) ?_
  refine v_iushr dJ6_bitCount_0f7a4_45 ?_
  refine v_iadd dJ6_bitCount_0f7a4_46 ?_
  refine v_istore_0 dJ6_bitCount_0f7a4_47 ?_
  refine v_iload_0 dJ6_bitCount_0f7a4_48 ?_
  refine v_bipush (v := nI 63) dJ6_bitCount_0f7a4_49 (by decide) ?_
  refine v_iand dJ6_bitCount_0f7a4_51 ?_
  refine v_iret dJ6_bitCount_0f7a4_52 rfl rfl rfl rfl ?_
  rw [bc_all w hw]; exact hQ
end
