section
variable {b : Nat} {ad : Nat → Nat} {I : HI} {L : HL} {R : HR} {Q : QT} {a B n d m s : Nat} {F : bkF} {g : lends} {br : Nat → Nat}
theorem c_X5_firstBest (hR : RO R) (hB : SH B = .inl 0) (hb : R 145 0 = some B) (hF : BkI I B F) (hO : FOK F) (hP : PlI I F d) (hTT : PbI I F d m) (hm : m < F 2) (hs : s < 64) (hQ : Q (some (.int (eP (fbz F d m s)))) SH I L R) : KK 1 mX5_firstBest b ad [.ref (b + 145), .int (nI m), .int (nI s)] I L R Q := by
  obtain ⟨k0, k1, k2, k3, k4, k5, k6, -⟩ := id hO
  have hT : PbI I F d (m + 1) := fun m2 h1 h2 => hTT m2 (by omega) h2
  have hT0 := hTT m (Nat.le_refl _) (by omega) s hs
  have hl := hlp_lt hO d m
  have hb1 := balz_b hO m none d
  have hb2 := bzc_b hO d (F 2 - (m + 1)) s
  have hb3 := bzc_b hO d (F 2 - m) s
  have hk6 : F 2 - (m + 1) ≤ 5 := by omega
  have hk7 : F 2 - m ≤ 6 := by omega
  refine K.of (M := mX5_firstBest) (lv := [some (.ref (b + 145)), some (.int (nI m)), some (.int (nI s)), none, none, none]) (by decide) (Nat.le_of_ble_eq_true rfl) rfl ?_
  have loop : ∀ (j p : Nat), p + j = F 3 → Q (some (.int (eP (fup (fun p => (hlp F d m).testBit p && !s.testBit p && decide (balz F m (some p) d + bzc F d (F 2 - (m + 1)) (s ||| 2 ^ p) = bzc F d (F 2 - m) s)) p j)))) SH I L R → VV yX5_firstBest cX5_firstBest 6 (some .int) 1 Q b ad 40 [some (.ref (b + 145)), some (.int (nI m)), some (.int (nI s)), some (.int (zI (bzc F d (F 2 - m) s))), some (.int (nI (andn (hlp F d m) s))), some (.int (nI p))] [] I L R := by
    intro j
    induction j with
    | zero =>
      intro p hij hQ
      refine v_iload_5 dX5_firstBest_40 ?_
      refine v_aload_0 dX5_firstBest_42 ?_
      refine u_getR dX5_firstBest_43 gf_X5_24 (by first | assumption | rfl | exact led_1 (by assumption) | exact led_2 (by assumption) | exact bk_m (by assumption) (by first | assumption | omega) | exact bk_p (by assumption) (by first | assumption | omega) | exact bk_o (by assumption) (by first | assumption | omega) | exact bk_s (by assumption) (by first | assumption | omega) | exact bk_1 (by assumption) | exact bk_2 (by assumption) | exact bk_3 (by assumption) | exact bk_4 (by assumption) | exact bk_5 (by assumption) | exact bk_6 (by assumption) | exact bk_7 (by assumption) | exact bk_8 (by assumption) | exact sh_ring _ (by first | assumption | omega) | exact sh_imgs _ (by first | assumption | omega)) (by assumption) ?_
      refine u_getI dX5_firstBest_46 gf_X5_52 (by first | assumption | rfl | exact led_1 (by assumption) | exact led_2 (by assumption) | exact bk_m (by assumption) (by first | assumption | omega) | exact bk_p (by assumption) (by first | assumption | omega) | exact bk_o (by assumption) (by first | assumption | omega) | exact bk_s (by assumption) (by first | assumption | omega) | exact bk_1 (by assumption) | exact bk_2 (by assumption) | exact bk_3 (by assumption) | exact bk_4 (by assumption) | exact bk_5 (by assumption) | exact bk_6 (by assumption) | exact bk_7 (by assumption) | exact bk_8 (by assumption) | exact sh_ring _ (by first | assumption | omega) | exact sh_imgs _ (by first | assumption | omega)) ?_
      (try rw [bx3 hF])
      refine v_icmp_ge (tgt := 83) dX5_firstBest_49 (by decide) (fun hc49 => ?_) (fun hc49 => ?_)
      · (try rw [nI_leI (by omega) (by omega)] at hc49)
        refine v_bipush (v := -2) dX5_firstBest_83 (by decide) ?_
        refine v_iret dX5_firstBest_85 rfl rfl rfl rfl ?_
        exact hQ
      · (try rw [nI_leI (by omega) (by omega)] at hc49)
        exfalso; omega
    | succ j ih =>
      intro p hij hQ
      have hp3 : p < F 3 := by omega
      have hc1 := balz_b hO m (some p) d
      have hc2 := bzc_b hO d (F 2 - (m + 1)) (s ||| 2 ^ p)
      refine v_iload_5 dX5_firstBest_40 ?_
      refine v_aload_0 dX5_firstBest_42 ?_
      refine u_getR dX5_firstBest_43 gf_X5_24 (by first | assumption | rfl | exact led_1 (by assumption) | exact led_2 (by assumption) | exact bk_m (by assumption) (by first | assumption | omega) | exact bk_p (by assumption) (by first | assumption | omega) | exact bk_o (by assumption) (by first | assumption | omega) | exact bk_s (by assumption) (by first | assumption | omega) | exact bk_1 (by assumption) | exact bk_2 (by assumption) | exact bk_3 (by assumption) | exact bk_4 (by assumption) | exact bk_5 (by assumption) | exact bk_6 (by assumption) | exact bk_7 (by assumption) | exact bk_8 (by assumption) | exact sh_ring _ (by first | assumption | omega) | exact sh_imgs _ (by first | assumption | omega)) (by assumption) ?_
      refine u_getI dX5_firstBest_46 gf_X5_52 (by first | assumption | rfl | exact led_1 (by assumption) | exact led_2 (by assumption) | exact bk_m (by assumption) (by first | assumption | omega) | exact bk_p (by assumption) (by first | assumption | omega) | exact bk_o (by assumption) (by first | assumption | omega) | exact bk_s (by assumption) (by first | assumption | omega) | exact bk_1 (by assumption) | exact bk_2 (by assumption) | exact bk_3 (by assumption) | exact bk_4 (by assumption) | exact bk_5 (by assumption) | exact bk_6 (by assumption) | exact bk_7 (by assumption) | exact bk_8 (by assumption) | exact sh_ring _ (by first | assumption | omega) | exact sh_imgs _ (by first | assumption | omega)) ?_
      (try rw [bx3 hF])
      refine v_icmp_ge (tgt := 83) dX5_firstBest_49 (by decide) (fun hc49 => ?_) (fun hc49 => ?_)
      · (try rw [nI_leI (by omega) (by omega)] at hc49)
        exfalso; omega
      · (try rw [nI_leI (by omega) (by omega)] at hc49)
        refine v_iload_4 dX5_firstBest_52 ?_
        refine v_iload_5 dX5_firstBest_54 ?_
        refine v_ishr dX5_firstBest_56 ?_
        refine v_iconst (v := nI 1) dX5_firstBest_57 (by decide) ?_
        refine v_iand dX5_firstBest_58 ?_
        rw [bit_b (by have := andn_le (hlp F d m) s; omega) (by omega), andn_bit (by omega)]
        refine v_if_eq (tgt := 77) dX5_firstBest_59 (by decide) (fun hc59 => ?_) (fun hc59 => ?_)
        · (first | rw [bI_0, Bool.not_eq_false] at hc59 | rw [bI_0] at hc59 | rw [show (0 : Int32) = nI 0 from rfl, nI_eq (by omega) (by omega)] at hc59 | skip)
          refine v_iinc_5 (v := 1) rfl dX5_firstBest_77 (by decide) ?_
          refine v_goto (tgt := 40) dX5_firstBest_80 (by decide) ?_
          rw [← nI_succ]
          refine ih (p + 1) (by omega) ?_
          have e : ((hlp F d m).testBit p && !s.testBit p) = false := hc59
          rw [fup_f (by simp only [e, Bool.false_and])] at hQ; exact hQ
        · (first | rw [bI_0, Bool.not_eq_false] at hc59 | rw [bI_0] at hc59 | rw [show (0 : Int32) = nI 0 from rfl, nI_eq (by omega) (by omega)] at hc59 | skip)
          have hfit : fitF F m p = true := by rw [hlp_bit hp3] at hc59; simp only [hlpb, Bool.and_eq_true] at hc59; exact hc59.1.1
          refine v_aload_0 dX5_firstBest_62 ?_
          refine v_iload_1 dX5_firstBest_63 ?_
          refine v_iload_2 dX5_firstBest_64 ?_
          refine v_iload_5 dX5_firstBest_65 ?_
          refine u_callV_3 dX5_firstBest_67 ml_X5_62 mv_X5_withPerson (by first | assumption | rfl | exact led_1 (by assumption) | exact led_2 (by assumption) | exact bk_m (by assumption) (by first | assumption | omega) | exact bk_p (by assumption) (by first | assumption | omega) | exact bk_o (by assumption) (by first | assumption | omega) | exact bk_s (by assumption) (by first | assumption | omega) | exact bk_1 (by assumption) | exact bk_2 (by assumption) | exact bk_3 (by assumption) | exact bk_4 (by assumption) | exact bk_5 (by assumption) | exact bk_6 (by assumption) | exact bk_7 (by assumption) | exact bk_8 (by assumption) | exact sh_ring _ (by first | assumption | omega) | exact sh_imgs _ (by first | assumption | omega)) (by decide) rfl (by decide) (Nat.le_of_ble_eq_true rfl) (c_X5_withPerson hR hO hP hT hm hs (by omega) hfit ?_)
          refine v_iload_3 dX5_firstBest_70 ?_
          refine v_icmp_ne (tgt := 77) dX5_firstBest_71 (by decide) (fun hc71 => ?_) (fun hc71 => ?_)
          · (try rw [nI_eq (by omega) (by omega)] at hc71)
            refine v_iinc_5 (v := 1) rfl dX5_firstBest_77 (by decide) ?_
            refine v_goto (tgt := 40) dX5_firstBest_80 (by decide) ?_
            rw [← nI_succ]
            refine ih (p + 1) (by omega) ?_
            rw [zI_eq (by omega) (by omega) (by omega) (by omega)] at hc71
            rw [fup_f (by simp only [hc71, decide_false, Bool.and_false])] at hQ; exact hQ
          · (try rw [nI_eq (by omega) (by omega)] at hc71)
            refine v_iload_5 dX5_firstBest_74 ?_
            refine v_iret dX5_firstBest_76 rfl rfl rfl rfl ?_
            have e : ((hlp F d m).testBit p && !s.testBit p) = true := hc59
            rw [zI_eq (by omega) (by omega) (by omega) (by omega)] at hc71
            rw [fup_t (by simp only [e, hc71, decide_true, Bool.and_self])] at hQ; exact hQ
  refine v_aload_0 dX5_firstBest_0 ?_
  refine u_getR dX5_firstBest_1 gf_X5_21 (by first | assumption | rfl | exact led_1 (by assumption) | exact led_2 (by assumption) | exact bk_m (by assumption) (by first | assumption | omega) | exact bk_p (by assumption) (by first | assumption | omega) | exact bk_o (by assumption) (by first | assumption | omega) | exact bk_s (by assumption) (by first | assumption | omega) | exact bk_1 (by assumption) | exact bk_2 (by assumption) | exact bk_3 (by assumption) | exact bk_4 (by assumption) | exact bk_5 (by assumption) | exact bk_6 (by assumption) | exact bk_7 (by assumption) | exact bk_8 (by assumption) | exact sh_ring _ (by first | assumption | omega) | exact sh_imgs _ (by first | assumption | omega)) (ro_X5_4 (by assumption)) ?_
  refine v_iload_1 dX5_firstBest_4 ?_
  refine v_bipush (v := nI 64) dX5_firstBest_5 (by decide) ?_
  refine v_imul dX5_firstBest_7 ?_
  refine v_iload_2 dX5_firstBest_8 ?_
  refine v_iadd dX5_firstBest_9 ?_
  refine u_iald dX5_firstBest_10 (by first | assumption | rfl | exact led_1 (by assumption) | exact led_2 (by assumption) | exact bk_m (by assumption) (by first | assumption | omega) | exact bk_p (by assumption) (by first | assumption | omega) | exact bk_o (by assumption) (by first | assumption | omega) | exact bk_s (by assumption) (by first | assumption | omega) | exact bk_1 (by assumption) | exact bk_2 (by assumption) | exact bk_3 (by assumption) | exact bk_4 (by assumption) | exact bk_5 (by assumption) | exact bk_6 (by assumption) | exact bk_7 (by assumption) | exact bk_8 (by assumption) | exact sh_ring _ (by first | assumption | omega) | exact sh_imgs _ (by first | assumption | omega)) (by first | with_reducible rfl | (simp only [nlit, nI_add, pk_mul]; with_reducible rfl) | rfl) (by first | assumption | omega) (by first | assumption | decide) ?_
  rw [hT0]
  refine v_istore_3 rfl dX5_firstBest_11 ?_
  refine v_aload_0 dX5_firstBest_12 ?_
  refine v_iload_1 dX5_firstBest_13 ?_
  refine v_iload_2 dX5_firstBest_14 ?_
  refine u_callV_2 dX5_firstBest_15 ml_X5_59 mv_X5_withPeg (by first | assumption | rfl | exact led_1 (by assumption) | exact led_2 (by assumption) | exact bk_m (by assumption) (by first | assumption | omega) | exact bk_p (by assumption) (by first | assumption | omega) | exact bk_o (by assumption) (by first | assumption | omega) | exact bk_s (by assumption) (by first | assumption | omega) | exact bk_1 (by assumption) | exact bk_2 (by assumption) | exact bk_3 (by assumption) | exact bk_4 (by assumption) | exact bk_5 (by assumption) | exact bk_6 (by assumption) | exact bk_7 (by assumption) | exact bk_8 (by assumption) | exact sh_ring _ (by first | assumption | omega) | exact sh_imgs _ (by first | assumption | omega)) (by decide) rfl (by decide) (Nat.le_of_ble_eq_true rfl) (c_X5_withPeg hR hO hP hT hm hs ?_)
  refine v_iload_3 dX5_firstBest_18 ?_
  refine v_icmp_ne (tgt := 25) dX5_firstBest_19 (by decide) (fun hc19 => ?_) (fun hc19 => ?_)
  · (try rw [nI_eq (by omega) (by omega)] at hc19)
    refine v_aload_0 dX5_firstBest_25 ?_
    refine u_getR dX5_firstBest_26 gf_X5_18 (by first | assumption | rfl | exact led_1 (by assumption) | exact led_2 (by assumption) | exact bk_m (by assumption) (by first | assumption | omega) | exact bk_p (by assumption) (by first | assumption | omega) | exact bk_o (by assumption) (by first | assumption | omega) | exact bk_s (by assumption) (by first | assumption | omega) | exact bk_1 (by assumption) | exact bk_2 (by assumption) | exact bk_3 (by assumption) | exact bk_4 (by assumption) | exact bk_5 (by assumption) | exact bk_6 (by assumption) | exact bk_7 (by assumption) | exact bk_8 (by assumption) | exact sh_ring _ (by first | assumption | omega) | exact sh_imgs _ (by first | assumption | omega)) (ro_X5_3 (by assumption)) ?_
    refine v_iload_1 dX5_firstBest_29 ?_
    refine u_iald dX5_firstBest_30 (by first | assumption | rfl | exact led_1 (by assumption) | exact led_2 (by assumption) | exact bk_m (by assumption) (by first | assumption | omega) | exact bk_p (by assumption) (by first | assumption | omega) | exact bk_o (by assumption) (by first | assumption | omega) | exact bk_s (by assumption) (by first | assumption | omega) | exact bk_1 (by assumption) | exact bk_2 (by assumption) | exact bk_3 (by assumption) | exact bk_4 (by assumption) | exact bk_5 (by assumption) | exact bk_6 (by assumption) | exact bk_7 (by assumption) | exact bk_8 (by assumption) | exact sh_ring _ (by first | assumption | omega) | exact sh_imgs _ (by first | assumption | omega)) (by first | with_reducible rfl | (simp only [nlit, nI_add, pk_mul]; with_reducible rfl) | rfl) (by first | assumption | omega) (by first | assumption | decide) ?_
    rw [hP.2.2 m hm]
    refine v_iload_2 dX5_firstBest_31 ?_
    refine v_iconst (v := -1) dX5_firstBest_32 (by decide) ?_
    refine v_ixor dX5_firstBest_33 ?_
    refine v_iand dX5_firstBest_34 ?_
    rw [andn_I]
    refine v_istore_4 rfl dX5_firstBest_35 ?_
    refine v_iconst (v := nI 0) dX5_firstBest_37 (by decide) ?_
    refine v_istore_5 rfl dX5_firstBest_38 ?_
    rw [zI_eq (by omega) (by omega) (by omega) (by omega)] at hc19
    rw [fbz, if_neg hc19] at hQ
    exact loop (F 3) 0 (by omega) hQ
  · (try rw [nI_eq (by omega) (by omega)] at hc19)
    refine v_bipush (v := -2) dX5_firstBest_22 (by decide) ?_
    refine v_iret dX5_firstBest_24 rfl rfl rfl rfl ?_
    rw [zI_eq (by omega) (by omega) (by omega) (by omega)] at hc19
    rw [fbz, if_pos hc19] at hQ; exact hQ
theorem fbz_lt {p : Nat} (h : fbz F d m s = some p) : p < F 3 := by
  unfold fbz at h
  split at h
  · cases h
  · have := fup_some h
    omega
theorem c_X5_choice {w : Nat} (hR : RO R) (hB : SH B = .inl 0) (hb : R 145 0 = some B) (hF : BkI I B F) (hO : FOK F) (hP : PlI I F d) (hT : PbI I F d 0) (hw : w < F 2) (hQ : Q (some (.int (eP (chz F d 0 (w + 1) 0 none)))) SH I L R) : KK 2 mX5_choice b ad [.ref (b + 145), .int (nI w)] I L R Q := by
  obtain ⟨k0, k1, k2, k3, k4, k5, k6, -⟩ := id hO
  refine K.of (M := mX5_choice) (lv := [some (.ref (b + 145)), some (.int (nI w)), none, none, none]) (by decide) (Nat.le_of_ble_eq_true rfl) rfl ?_
  have loop : ∀ (j k s : Nat) (c : Option Nat), k + j = w + 1 → s < 64 → Q (some (.int (eP (chz F d k j s c)))) SH I L R → VV yX5_choice cX5_choice 5 (some .int) 2 Q b ad 8 [some (.ref (b + 145)), some (.int (nI w)), some (.int (nI s)), some (.int (eP c)), some (.int (nI k))] [] I L R := by
    intro j
    induction j with
    | zero =>
      intro k s c hij hs hQ
      refine v_iload_4 dX5_choice_8 ?_
      refine v_iload_1 dX5_choice_10 ?_
      refine v_icmp_gt (tgt := 38) dX5_choice_11 (by decide) (fun hc11 => ?_) (fun hc11 => ?_)
      · (try rw [nI_ltI (by omega) (by omega)] at hc11)
        refine v_iload_3 dX5_choice_38 ?_
        refine v_iret dX5_choice_39 rfl rfl rfl rfl ?_
        exact hQ
      · (try rw [nI_ltI (by omega) (by omega)] at hc11)
        exfalso; omega
    | succ j ih =>
      intro k s c hij hs hQ
      refine v_iload_4 dX5_choice_8 ?_
      refine v_iload_1 dX5_choice_10 ?_
      refine v_icmp_gt (tgt := 38) dX5_choice_11 (by decide) (fun hc11 => ?_) (fun hc11 => ?_)
      · (try rw [nI_ltI (by omega) (by omega)] at hc11)
        exfalso; omega
      · (try rw [nI_ltI (by omega) (by omega)] at hc11)
        refine v_aload_0 dX5_choice_14 ?_
        refine v_iload_4 dX5_choice_15 ?_
        refine v_iload_2 dX5_choice_17 ?_
        refine u_callV_2 dX5_choice_18 ml_X5_70 mv_X5_firstBest (by first | assumption | rfl | exact led_1 (by assumption) | exact led_2 (by assumption) | exact bk_m (by assumption) (by first | assumption | omega) | exact bk_p (by assumption) (by first | assumption | omega) | exact bk_o (by assumption) (by first | assumption | omega) | exact bk_s (by assumption) (by first | assumption | omega) | exact bk_1 (by assumption) | exact bk_2 (by assumption) | exact bk_3 (by assumption) | exact bk_4 (by assumption) | exact bk_5 (by assumption) | exact bk_6 (by assumption) | exact bk_7 (by assumption) | exact bk_8 (by assumption) | exact sh_ring _ (by first | assumption | omega) | exact sh_imgs _ (by first | assumption | omega)) (by decide) rfl (by decide) (Nat.le_of_ble_eq_true rfl) (c_X5_firstBest hR hB hb hF hO hP (fun m2 h1 h2 => hT m2 (by omega) h2) (by omega) hs ?_)
        refine v_istore_3 rfl dX5_choice_21 ?_
        simp only [chz] at hQ
        cases hfb : fbz F d k s with
        | none =>
          rw [hfb] at hQ
          simp only [eP]
          refine v_iload_3 dX5_choice_22 ?_
          refine v_if_lt (tgt := 32) dX5_choice_23 (by decide) (fun hc => ?_) (fun hc => absurd (by decide) hc)
          refine v_iinc_4 (v := 1) rfl dX5_choice_32 (by decide) ?_
          refine v_goto (tgt := 8) dX5_choice_35 (by decide) ?_
          rw [← nI_succ]
          exact ih (k + 1) s none (by omega) hs hQ
        | some p =>
          rw [hfb] at hQ
          have hp := fbz_lt hfb
          simp only [eP]
          refine v_iload_3 dX5_choice_22 ?_
          refine v_if_lt (tgt := 32) dX5_choice_23 (by decide) (fun hc => absurd hc (nI_pos (by omega))) (fun hc => ?_)
          refine v_iload_2 dX5_choice_26 ?_
          refine v_iconst (v := nI 1) dX5_choice_27 (by decide) ?_
          refine v_iload_3 dX5_choice_28 ?_
          refine v_ishl dX5_choice_29 ?_
          rw [one_shl (by omega)]
          refine v_ior dX5_choice_30 ?_
          rw [nx_or]
          refine v_istore_2 rfl dX5_choice_31 ?_
          refine v_iinc_4 (v := 1) rfl dX5_choice_32 (by decide) ?_
          refine v_goto (tgt := 8) dX5_choice_35 (by decide) ?_
          rw [← nI_succ]
          exact ih (k + 1) _ (some p) (by omega) (or_lt64 hs (by omega)) hQ
  refine v_iconst (v := nI 0) dX5_choice_0 (by decide) ?_
  refine v_istore_2 rfl dX5_choice_1 ?_
  refine v_bipush (v := -2) dX5_choice_2 (by decide) ?_
  refine v_istore_3 rfl dX5_choice_4 ?_
  refine v_iconst (v := nI 0) dX5_choice_5 (by decide) ?_
  refine v_istore_4 rfl dX5_choice_6 ?_
  exact loop (w + 1) 0 0 none (by omega) (by decide) hQ
theorem c_rangeCheck {x lo hi : Nat} (h1 : lo ≤ hi) (h2 : hi ≤ x) (hx : x < 2 ^ 31) (hQ : Q none SH I L R) : KK 0 mJ7_rangeCheck_23922 b ad [.int (nI x), .int (nI lo), .int (nI hi)] I L R Q := by
  refine K.of (M := mJ7_rangeCheck_23922) (lv := [some (.int (nI x)), some (.int (nI lo)), some (.int (nI hi))]) (by decide) (Nat.le_of_ble_eq_true rfl) rfl ?_
  refine v_iload_1 dJ7_rangeCheck_23922_0 ?_
  refine v_iload_2 dJ7_rangeCheck_23922_1 ?_
  refine v_icmp_le (tgt := 46) dJ7_rangeCheck_23922_2 (by decide) (fun hc2 => ?_) (fun hc2 => ?_)
  · (try rw [nI_leI (by omega) (by omega)] at hc2)
    refine v_iload_1 dJ7_rangeCheck_23922_46 ?_
    refine v_if_ge (tgt := 59) dJ7_rangeCheck_23922_47 (by decide) (fun hc47 => ?_) (fun hc47 => ?_)
    · (first | rw [show (0 : Int32) = nI 0 from rfl, nI_ltI (by omega) (by omega)] at hc47 | rw [show (0 : Int32) = nI 0 from rfl, nI_leI (by omega) (by omega)] at hc47 | skip)
      refine v_iload_2 dJ7_rangeCheck_23922_59 ?_
      refine v_iload_0 dJ7_rangeCheck_23922_60 ?_
      refine v_icmp_le (tgt := 73) dJ7_rangeCheck_23922_61 (by decide) (fun hc61 => ?_) (fun hc61 => ?_)
      · (try rw [nI_leI (by omega) (by omega)] at hc61)
        refine v_vret dJ7_rangeCheck_23922_73 rfl rfl rfl rfl ?_
        exact hQ
      · (try rw [nI_leI (by omega) (by omega)] at hc61)
        exfalso; omega
    · (first | rw [show (0 : Int32) = nI 0 from rfl, nI_ltI (by omega) (by omega)] at hc47 | rw [show (0 : Int32) = nI 0 from rfl, nI_leI (by omega) (by omega)] at hc47 | skip)
      exfalso; omega
  · (try rw [nI_leI (by omega) (by omega)] at hc2)
    exfalso; omega
theorem c_fillr {x len lo hi : Nat} {v : Int32} (hx : SH x = .inr (0, len)) (h1 : lo ≤ hi) (h2 : hi ≤ len) (hl : len < 2 ^ 31) (hQ : Q none SH (ufl I x lo hi v) L R) : KK 1 mJ7_fill_fda19 b ad [.ref (b + x), .int (nI lo), .int (nI hi), .int v] I L R Q := by
  refine K.of (M := mJ7_fill_fda19) (lv := [some (.ref (b + x)), some (.int (nI lo)), some (.int (nI hi)), some (.int v), none]) (by decide) (Nat.le_of_ble_eq_true rfl) rfl ?_
  have loop : ∀ (j i : Nat), i + j = hi → lo ≤ i → VV yJ7_fill_fda19 cJ7_fill_fda19 5 none 1 Q b ad 10 [some (.ref (b + x)), some (.int (nI lo)), some (.int (nI hi)), some (.int v), some (.int (nI i))] [] (ufl I x lo i v) L R := by
    intro j
    induction j with
    | zero =>
      intro i hij hli
      refine v_iload_4 dJ7_fill_fda19_10 ?_
      refine v_iload_2 dJ7_fill_fda19_12 ?_
      refine v_icmp_ge (tgt := 27) dJ7_fill_fda19_13 (by decide) (fun hc13 => ?_) (fun hc13 => ?_)
      · (try rw [nI_leI (by omega) (by omega)] at hc13)
        refine v_vret dJ7_fill_fda19_27 rfl rfl rfl rfl ?_
        have e : i = hi := by omega
        subst e
        exact hQ
      · (try rw [nI_leI (by omega) (by omega)] at hc13)
        exfalso; omega
    | succ j ih =>
      intro i hij hli
      refine v_iload_4 dJ7_fill_fda19_10 ?_
      refine v_iload_2 dJ7_fill_fda19_12 ?_
      refine v_icmp_ge (tgt := 27) dJ7_fill_fda19_13 (by decide) (fun hc13 => ?_) (fun hc13 => ?_)
      · (try rw [nI_leI (by omega) (by omega)] at hc13)
        exfalso; omega
      · (try rw [nI_leI (by omega) (by omega)] at hc13)
        refine v_aload_0 dJ7_fill_fda19_16 ?_
        refine v_iload_4 dJ7_fill_fda19_17 ?_
        refine v_iload_3 dJ7_fill_fda19_19 ?_
        refine u_iast dJ7_fill_fda19_20 (by first | assumption | rfl | exact led_1 (by assumption) | exact led_2 (by assumption) | exact bk_m (by assumption) (by first | assumption | omega) | exact bk_p (by assumption) (by first | assumption | omega) | exact bk_o (by assumption) (by first | assumption | omega) | exact bk_s (by assumption) (by first | assumption | omega) | exact bk_1 (by assumption) | exact bk_2 (by assumption) | exact bk_3 (by assumption) | exact bk_4 (by assumption) | exact bk_5 (by assumption) | exact bk_6 (by assumption) | exact bk_7 (by assumption) | exact bk_8 (by assumption) | exact sh_ring _ (by first | assumption | omega) | exact sh_imgs _ (by first | assumption | omega)) (by first | with_reducible rfl | (simp only [nlit, nI_add, pk_mul]; with_reducible rfl) | rfl) (by first | assumption | omega) (by first | assumption | decide) ?_
        refine v_iinc_4 (v := 1) rfl dJ7_fill_fda19_21 (by decide) ?_
        refine v_goto (tgt := 10) dJ7_fill_fda19_24 (by decide) ?_
        rw [← nI_succ]
        have e := ufl_succ I x lo i v (by omega)
        rw [e]
        exact ih (i + 1) (by omega) (by omega)
  refine v_aload_0 dJ7_fill_fda19_0 ?_
  refine u_alen dJ7_fill_fda19_1 (by first | assumption | rfl | exact led_1 (by assumption) | exact led_2 (by assumption) | exact bk_m (by assumption) (by first | assumption | omega) | exact bk_p (by assumption) (by first | assumption | omega) | exact bk_o (by assumption) (by first | assumption | omega) | exact bk_s (by assumption) (by first | assumption | omega) | exact bk_1 (by assumption) | exact bk_2 (by assumption) | exact bk_3 (by assumption) | exact bk_4 (by assumption) | exact bk_5 (by assumption) | exact bk_6 (by assumption) | exact bk_7 (by assumption) | exact bk_8 (by assumption) | exact sh_ring _ (by first | assumption | omega) | exact sh_imgs _ (by first | assumption | omega)) (by decide) ?_
  refine v_iload_1 dJ7_fill_fda19_2 ?_
  refine v_iload_2 dJ7_fill_fda19_3 ?_
  refine u_callS_3 dJ7_fill_fda19_4 ml_J7_13 ms_J7_rangeCheck_23922 (by decide) (Nat.le_of_ble_eq_true rfl) (c_rangeCheck h1 h2 hl ?_)
  refine v_iload_1 dJ7_fill_fda19_7 ?_
  refine v_istore_4 rfl dJ7_fill_fda19_8 ?_
  have e := ufl_0 I x lo v
  rw [← e]
  exact loop (hi - lo) lo (by omega) (by omega)
end
