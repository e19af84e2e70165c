section
variable {b : Nat} {ad : Nat → Nat} {I : HI} {L : HL} {R : HR} {Q : QT} {a B n d : Nat} {F : bkF} {g : lends} {br : Nat → Nat} {pg : Nat → Bool} {c : Nat → Nat}
theorem c_X10_letterDays {m o : Nat} (hR : RO R) (hB : SH B = .inl 0) (hb : R 150 0 = some B) (hF : BkI I B F) (hO : FOK F) (hm : m < F 2) (ho : o < F 2) (hQ : Q (some (.int (nI (ldy F m o)))) SH I L R) : KK 0 mX10_letterDays b ad [.ref (b + 150), .int (nI m), .int (nI o)] I L R Q := by
  obtain ⟨k0, k1, k2, k3, k4, k5, k6, -⟩ := id hO
  refine K.of (M := mX10_letterDays) (lv := [some (.ref (b + 150)), some (.int (nI m)), some (.int (nI o)), none, none, none, none]) (by decide) (Nat.le_of_ble_eq_true rfl) rfl ?_
  have loop : ∀ (j l acc : Nat) (z5 z6 : Option Value), l + j = F 6 → Q (some (.int (nI (dupz (ltp F m o) (fun l => F (170 + 3 * l)) l j acc)))) SH I L R → VV yX10_letterDays cX10_letterDays 7 (some .int) 0 Q b ad 5 [some (.ref (b + 150)), some (.int (nI m)), some (.int (nI o)), some (.int (nI acc)), some (.int (nI l)), z5, z6] [] I L R := by
    intro j
    induction j with
    | zero =>
      intro l acc z5 z6 hij hQ
      refine v_iload_4 dX10_letterDays_5 ?_
      refine v_aload_0 dX10_letterDays_7 ?_
      refine u_getR dX10_letterDays_8 gf_X10_31 (by first | assumption | rfl | exact led_1 (by assumption) | exact led_2 (by assumption) | exact bk_m (by assumption) (by first | assumption | omega) | exact bk_p (by assumption) (by first | assumption | omega) | exact bk_o (by assumption) (by first | assumption | omega) | exact bk_s (by assumption) (by first | assumption | omega) | exact bk_1 (by assumption) | exact bk_2 (by assumption) | exact bk_3 (by assumption) | exact bk_4 (by assumption) | exact bk_5 (by assumption) | exact bk_6 (by assumption) | exact bk_7 (by assumption) | exact bk_8 (by assumption) | exact sh_ring _ (by first | assumption | omega) | exact sh_imgs _ (by first | assumption | omega)) (by assumption) ?_
      refine u_getI dX10_letterDays_11 gf_X10_150 (by first | assumption | rfl | exact led_1 (by assumption) | exact led_2 (by assumption) | exact bk_m (by assumption) (by first | assumption | omega) | exact bk_p (by assumption) (by first | assumption | omega) | exact bk_o (by assumption) (by first | assumption | omega) | exact bk_s (by assumption) (by first | assumption | omega) | exact bk_1 (by assumption) | exact bk_2 (by assumption) | exact bk_3 (by assumption) | exact bk_4 (by assumption) | exact bk_5 (by assumption) | exact bk_6 (by assumption) | exact bk_7 (by assumption) | exact bk_8 (by assumption) | exact sh_ring _ (by first | assumption | omega) | exact sh_imgs _ (by first | assumption | omega)) ?_
      (try rw [bx6 hF])
      refine v_icmp_ge (tgt := 86) dX10_letterDays_14 (by decide) (fun hc14 => ?_) (fun hc14 => ?_)
      · (try rw [nI_leI (by omega) (by omega)] at hc14)
        refine v_iload_3 dX10_letterDays_86 ?_
        refine v_iret dX10_letterDays_87 rfl rfl rfl rfl ?_
        exact hQ
      · (try rw [nI_leI (by omega) (by omega)] at hc14)
        exfalso; omega
    | succ j ih =>
      intro l acc z5 z6 hij hQ
      have hl6 : l < F 6 := by omega
      obtain ⟨r1, r2, r3, r4, r5⟩ := fk_l hO hl6
      have ih := fun l acc z5 z6 h1 h2 => ih l acc z5 z6 h1 h2
      refine v_iload_4 dX10_letterDays_5 ?_
      refine v_aload_0 dX10_letterDays_7 ?_
      refine u_getR dX10_letterDays_8 gf_X10_31 (by first | assumption | rfl | exact led_1 (by assumption) | exact led_2 (by assumption) | exact bk_m (by assumption) (by first | assumption | omega) | exact bk_p (by assumption) (by first | assumption | omega) | exact bk_o (by assumption) (by first | assumption | omega) | exact bk_s (by assumption) (by first | assumption | omega) | exact bk_1 (by assumption) | exact bk_2 (by assumption) | exact bk_3 (by assumption) | exact bk_4 (by assumption) | exact bk_5 (by assumption) | exact bk_6 (by assumption) | exact bk_7 (by assumption) | exact bk_8 (by assumption) | exact sh_ring _ (by first | assumption | omega) | exact sh_imgs _ (by first | assumption | omega)) (by assumption) ?_
      refine u_getI dX10_letterDays_11 gf_X10_150 (by first | assumption | rfl | exact led_1 (by assumption) | exact led_2 (by assumption) | exact bk_m (by assumption) (by first | assumption | omega) | exact bk_p (by assumption) (by first | assumption | omega) | exact bk_o (by assumption) (by first | assumption | omega) | exact bk_s (by assumption) (by first | assumption | omega) | exact bk_1 (by assumption) | exact bk_2 (by assumption) | exact bk_3 (by assumption) | exact bk_4 (by assumption) | exact bk_5 (by assumption) | exact bk_6 (by assumption) | exact bk_7 (by assumption) | exact bk_8 (by assumption) | exact sh_ring _ (by first | assumption | omega) | exact sh_imgs _ (by first | assumption | omega)) ?_
      (try rw [bx6 hF])
      refine v_icmp_ge (tgt := 86) dX10_letterDays_14 (by decide) (fun hc14 => ?_) (fun hc14 => ?_)
      · (try rw [nI_leI (by omega) (by omega)] at hc14)
        exfalso; omega
      · (try rw [nI_leI (by omega) (by omega)] at hc14)
        refine v_aload_0 dX10_letterDays_17 ?_
        refine u_getR dX10_letterDays_18 gf_X10_31 (by first | assumption | rfl | exact led_1 (by assumption) | exact led_2 (by assumption) | exact bk_m (by assumption) (by first | assumption | omega) | exact bk_p (by assumption) (by first | assumption | omega) | exact bk_o (by assumption) (by first | assumption | omega) | exact bk_s (by assumption) (by first | assumption | omega) | exact bk_1 (by assumption) | exact bk_2 (by assumption) | exact bk_3 (by assumption) | exact bk_4 (by assumption) | exact bk_5 (by assumption) | exact bk_6 (by assumption) | exact bk_7 (by assumption) | exact bk_8 (by assumption) | exact sh_ring _ (by first | assumption | omega) | exact sh_imgs _ (by first | assumption | omega)) (by assumption) ?_
        refine u_getR dX10_letterDays_21 gf_X10_153 (by first | assumption | rfl | exact led_1 (by assumption) | exact led_2 (by assumption) | exact bk_m (by assumption) (by first | assumption | omega) | exact bk_p (by assumption) (by first | assumption | omega) | exact bk_o (by assumption) (by first | assumption | omega) | exact bk_s (by assumption) (by first | assumption | omega) | exact bk_1 (by assumption) | exact bk_2 (by assumption) | exact bk_3 (by assumption) | exact bk_4 (by assumption) | exact bk_5 (by assumption) | exact bk_6 (by assumption) | exact bk_7 (by assumption) | exact bk_8 (by assumption) | exact sh_ring _ (by first | assumption | omega) | exact sh_imgs _ (by first | assumption | omega)) (ro_X0_11 (by assumption) (by assumption)) ?_
        refine v_iload_4 dX10_letterDays_24 ?_
        refine u_iald dX10_letterDays_26 (by first | assumption | rfl | exact led_1 (by assumption) | exact led_2 (by assumption) | exact bk_m (by assumption) (by first | assumption | omega) | exact bk_p (by assumption) (by first | assumption | omega) | exact bk_o (by assumption) (by first | assumption | omega) | exact bk_s (by assumption) (by first | assumption | omega) | exact bk_1 (by assumption) | exact bk_2 (by assumption) | exact bk_3 (by assumption) | exact bk_4 (by assumption) | exact bk_5 (by assumption) | exact bk_6 (by assumption) | exact bk_7 (by assumption) | exact bk_8 (by assumption) | exact sh_ring _ (by first | assumption | omega) | exact sh_imgs _ (by first | assumption | omega)) (by first | with_reducible rfl | (simp only [nlit, nI_add, pk_mul]; with_reducible rfl) | rfl) (by first | assumption | omega) (by first | assumption | decide) ?_
        rw [(hF.2.2.2.2.2 l (by omega)).1]
        refine v_istore_5 rfl dX10_letterDays_27 ?_
        refine v_aload_0 dX10_letterDays_29 ?_
        refine u_getR dX10_letterDays_30 gf_X10_31 (by first | assumption | rfl | exact led_1 (by assumption) | exact led_2 (by assumption) | exact bk_m (by assumption) (by first | assumption | omega) | exact bk_p (by assumption) (by first | assumption | omega) | exact bk_o (by assumption) (by first | assumption | omega) | exact bk_s (by assumption) (by first | assumption | omega) | exact bk_1 (by assumption) | exact bk_2 (by assumption) | exact bk_3 (by assumption) | exact bk_4 (by assumption) | exact bk_5 (by assumption) | exact bk_6 (by assumption) | exact bk_7 (by assumption) | exact bk_8 (by assumption) | exact sh_ring _ (by first | assumption | omega) | exact sh_imgs _ (by first | assumption | omega)) (by assumption) ?_
        refine u_getR dX10_letterDays_33 gf_X10_156 (by first | assumption | rfl | exact led_1 (by assumption) | exact led_2 (by assumption) | exact bk_m (by assumption) (by first | assumption | omega) | exact bk_p (by assumption) (by first | assumption | omega) | exact bk_o (by assumption) (by first | assumption | omega) | exact bk_s (by assumption) (by first | assumption | omega) | exact bk_1 (by assumption) | exact bk_2 (by assumption) | exact bk_3 (by assumption) | exact bk_4 (by assumption) | exact bk_5 (by assumption) | exact bk_6 (by assumption) | exact bk_7 (by assumption) | exact bk_8 (by assumption) | exact sh_ring _ (by first | assumption | omega) | exact sh_imgs _ (by first | assumption | omega)) (ro_X0_12 (by assumption) (by assumption)) ?_
        refine v_iload_4 dX10_letterDays_36 ?_
        refine u_iald dX10_letterDays_38 (by first | assumption | rfl | exact led_1 (by assumption) | exact led_2 (by assumption) | exact bk_m (by assumption) (by first | assumption | omega) | exact bk_p (by assumption) (by first | assumption | omega) | exact bk_o (by assumption) (by first | assumption | omega) | exact bk_s (by assumption) (by first | assumption | omega) | exact bk_1 (by assumption) | exact bk_2 (by assumption) | exact bk_3 (by assumption) | exact bk_4 (by assumption) | exact bk_5 (by assumption) | exact bk_6 (by assumption) | exact bk_7 (by assumption) | exact bk_8 (by assumption) | exact sh_ring _ (by first | assumption | omega) | exact sh_imgs _ (by first | assumption | omega)) (by first | with_reducible rfl | (simp only [nlit, nI_add, pk_mul]; with_reducible rfl) | rfl) (by first | assumption | omega) (by first | assumption | decide) ?_
        rw [(hF.2.2.2.2.2 l (by omega)).2.1]
        refine v_istore_6 rfl dX10_letterDays_39 ?_
        refine v_iload_5 dX10_letterDays_41 ?_
        refine v_iload_1 dX10_letterDays_43 ?_
        refine v_icmp_ne (tgt := 53) dX10_letterDays_44 (by decide) (fun hc44 => ?_) (fun hc44 => ?_)
        · (try rw [nI_eq (by omega) (by omega)] at hc44)
          refine v_iload_5 dX10_letterDays_53 ?_
          refine v_iload_2 dX10_letterDays_55 ?_
          refine v_icmp_ne (tgt := 80) dX10_letterDays_56 (by decide) (fun hc56 => ?_) (fun hc56 => ?_)
          · (try rw [nI_eq (by omega) (by omega)] at hc56)
            refine v_iinc_4 (v := 1) rfl dX10_letterDays_80 (by decide) ?_
            refine v_goto (tgt := 5) dX10_letterDays_83 (by decide) ?_
            rw [← nI_succ]
            refine ih (l + 1) _ _ _ (by omega) ?_
            simp only [dupz] at hQ
            first
              | (have e1 : F (168 + 3 * l) = m := hc44; have e2 : F (169 + 3 * l) = o := hc50; rw [if_pos (by simp only [ltp, e1, e2, hl6, decide_true, Bool.true_and, Bool.true_or])] at hQ; exact hQ)
              | (have e1 : F (168 + 3 * l) = o := hc56; have e2 : F (169 + 3 * l) = m := hc62; rw [if_pos (by simp only [ltp, e1, e2, hl6, decide_true, Bool.and_self, Bool.or_true])] at hQ; exact hQ)
              | (have e1 : ¬ F (168 + 3 * l) = m := hc44; have e2 : ¬ F (168 + 3 * l) = o := hc56; rw [if_neg (by simp only [ltp, e1, e2, decide_false, Bool.false_and, Bool.or_self, Bool.and_false]; decide)] at hQ; exact hQ)
              | (have e1 : ¬ F (168 + 3 * l) = m := hc44; have e2 : ¬ F (169 + 3 * l) = m := hc62; rw [if_neg (by simp only [ltp, e1, e2, decide_false, Bool.false_and, Bool.and_false, Bool.or_self]; decide)] at hQ; exact hQ)
              | (have e1 : ¬ F (169 + 3 * l) = o := hc50; have e2 : ¬ F (168 + 3 * l) = o := hc56; rw [if_neg (by simp only [ltp, e1, e2, decide_false, Bool.false_and, Bool.and_false, Bool.or_self]; decide)] at hQ; exact hQ)
              | (have e1 : ¬ F (169 + 3 * l) = o := hc50; have e2 : ¬ F (169 + 3 * l) = m := hc62; rw [if_neg (by simp only [ltp, e1, e2, decide_false, Bool.false_and, Bool.and_false, Bool.or_self]; decide)] at hQ; exact hQ)
          · (try rw [nI_eq (by omega) (by omega)] at hc56)
            refine v_iload_6 dX10_letterDays_59 ?_
            refine v_iload_1 dX10_letterDays_61 ?_
            refine v_icmp_ne (tgt := 80) dX10_letterDays_62 (by decide) (fun hc62 => ?_) (fun hc62 => ?_)
            · (try rw [nI_eq (by omega) (by omega)] at hc62)
              refine v_iinc_4 (v := 1) rfl dX10_letterDays_80 (by decide) ?_
              refine v_goto (tgt := 5) dX10_letterDays_83 (by decide) ?_
              rw [← nI_succ]
              refine ih (l + 1) _ _ _ (by omega) ?_
              simp only [dupz] at hQ
              first
                | (have e1 : F (168 + 3 * l) = m := hc44; have e2 : F (169 + 3 * l) = o := hc50; rw [if_pos (by simp only [ltp, e1, e2, hl6, decide_true, Bool.true_and, Bool.true_or])] at hQ; exact hQ)
                | (have e1 : F (168 + 3 * l) = o := hc56; have e2 : F (169 + 3 * l) = m := hc62; rw [if_pos (by simp only [ltp, e1, e2, hl6, decide_true, Bool.and_self, Bool.or_true])] at hQ; exact hQ)
                | (have e1 : ¬ F (168 + 3 * l) = m := hc44; have e2 : ¬ F (168 + 3 * l) = o := hc56; rw [if_neg (by simp only [ltp, e1, e2, decide_false, Bool.false_and, Bool.or_self, Bool.and_false]; decide)] at hQ; exact hQ)
                | (have e1 : ¬ F (168 + 3 * l) = m := hc44; have e2 : ¬ F (169 + 3 * l) = m := hc62; rw [if_neg (by simp only [ltp, e1, e2, decide_false, Bool.false_and, Bool.and_false, Bool.or_self]; decide)] at hQ; exact hQ)
                | (have e1 : ¬ F (169 + 3 * l) = o := hc50; have e2 : ¬ F (168 + 3 * l) = o := hc56; rw [if_neg (by simp only [ltp, e1, e2, decide_false, Bool.false_and, Bool.and_false, Bool.or_self]; decide)] at hQ; exact hQ)
                | (have e1 : ¬ F (169 + 3 * l) = o := hc50; have e2 : ¬ F (169 + 3 * l) = m := hc62; rw [if_neg (by simp only [ltp, e1, e2, decide_false, Bool.false_and, Bool.and_false, Bool.or_self]; decide)] at hQ; exact hQ)
            · (try rw [nI_eq (by omega) (by omega)] at hc62)
              refine v_iload_3 dX10_letterDays_65 ?_
              refine v_iconst (v := nI 1) dX10_letterDays_66 (by decide) ?_
              refine v_aload_0 dX10_letterDays_67 ?_
              refine u_getR dX10_letterDays_68 gf_X10_31 (by first | assumption | rfl | exact led_1 (by assumption) | exact led_2 (by assumption) | exact bk_m (by assumption) (by first | assumption | omega) | exact bk_p (by assumption) (by first | assumption | omega) | exact bk_o (by assumption) (by first | assumption | omega) | exact bk_s (by assumption) (by first | assumption | omega) | exact bk_1 (by assumption) | exact bk_2 (by assumption) | exact bk_3 (by assumption) | exact bk_4 (by assumption) | exact bk_5 (by assumption) | exact bk_6 (by assumption) | exact bk_7 (by assumption) | exact bk_8 (by assumption) | exact sh_ring _ (by first | assumption | omega) | exact sh_imgs _ (by first | assumption | omega)) (by assumption) ?_
              refine u_getR dX10_letterDays_71 gf_X10_159 (by first | assumption | rfl | exact led_1 (by assumption) | exact led_2 (by assumption) | exact bk_m (by assumption) (by first | assumption | omega) | exact bk_p (by assumption) (by first | assumption | omega) | exact bk_o (by assumption) (by first | assumption | omega) | exact bk_s (by assumption) (by first | assumption | omega) | exact bk_1 (by assumption) | exact bk_2 (by assumption) | exact bk_3 (by assumption) | exact bk_4 (by assumption) | exact bk_5 (by assumption) | exact bk_6 (by assumption) | exact bk_7 (by assumption) | exact bk_8 (by assumption) | exact sh_ring _ (by first | assumption | omega) | exact sh_imgs _ (by first | assumption | omega)) (ro_X0_13 (by assumption) (by assumption)) ?_
              refine v_iload_4 dX10_letterDays_74 ?_
              refine u_iald dX10_letterDays_76 (by first | assumption | rfl | exact led_1 (by assumption) | exact led_2 (by assumption) | exact bk_m (by assumption) (by first | assumption | omega) | exact bk_p (by assumption) (by first | assumption | omega) | exact bk_o (by assumption) (by first | assumption | omega) | exact bk_s (by assumption) (by first | assumption | omega) | exact bk_1 (by assumption) | exact bk_2 (by assumption) | exact bk_3 (by assumption) | exact bk_4 (by assumption) | exact bk_5 (by assumption) | exact bk_6 (by assumption) | exact bk_7 (by assumption) | exact bk_8 (by assumption) | exact sh_ring _ (by first | assumption | omega) | exact sh_imgs _ (by first | assumption | omega)) (by first | with_reducible rfl | (simp only [nlit, nI_add, pk_mul]; with_reducible rfl) | rfl) (by first | assumption | omega) (by first | assumption | decide) ?_
              rw [(hF.2.2.2.2.2 l (by omega)).2.2]
              refine v_ishl dX10_letterDays_77 ?_
              rw [one_shl (by omega)]
              refine v_ior dX10_letterDays_78 ?_
              rw [nx_or]
              refine v_istore_3 rfl dX10_letterDays_79 ?_
              refine v_iinc_4 (v := 1) rfl dX10_letterDays_80 (by decide) ?_
              refine v_goto (tgt := 5) dX10_letterDays_83 (by decide) ?_
              rw [← nI_succ]
              refine ih (l + 1) _ _ _ (by omega) ?_
              simp only [dupz] at hQ
              first
                | (have e1 : F (168 + 3 * l) = m := hc44; have e2 : F (169 + 3 * l) = o := hc50; rw [if_pos (by simp only [ltp, e1, e2, hl6, decide_true, Bool.true_and, Bool.true_or])] at hQ; exact hQ)
                | (have e1 : F (168 + 3 * l) = o := hc56; have e2 : F (169 + 3 * l) = m := hc62; rw [if_pos (by simp only [ltp, e1, e2, hl6, decide_true, Bool.and_self, Bool.or_true])] at hQ; exact hQ)
                | (have e1 : ¬ F (168 + 3 * l) = m := hc44; have e2 : ¬ F (168 + 3 * l) = o := hc56; rw [if_neg (by simp only [ltp, e1, e2, decide_false, Bool.false_and, Bool.or_self, Bool.and_false]; decide)] at hQ; exact hQ)
                | (have e1 : ¬ F (168 + 3 * l) = m := hc44; have e2 : ¬ F (169 + 3 * l) = m := hc62; rw [if_neg (by simp only [ltp, e1, e2, decide_false, Bool.false_and, Bool.and_false, Bool.or_self]; decide)] at hQ; exact hQ)
                | (have e1 : ¬ F (169 + 3 * l) = o := hc50; have e2 : ¬ F (168 + 3 * l) = o := hc56; rw [if_neg (by simp only [ltp, e1, e2, decide_false, Bool.false_and, Bool.and_false, Bool.or_self]; decide)] at hQ; exact hQ)
                | (have e1 : ¬ F (169 + 3 * l) = o := hc50; have e2 : ¬ F (169 + 3 * l) = m := hc62; rw [if_neg (by simp only [ltp, e1, e2, decide_false, Bool.false_and, Bool.and_false, Bool.or_self]; decide)] at hQ; exact hQ)
        · (try rw [nI_eq (by omega) (by omega)] at hc44)
          refine v_iload_6 dX10_letterDays_47 ?_
          refine v_iload_2 dX10_letterDays_49 ?_
          refine v_icmp_eq (tgt := 65) dX10_letterDays_50 (by decide) (fun hc50 => ?_) (fun hc50 => ?_)
          · (try rw [nI_eq (by omega) (by omega)] at hc50)
            refine v_iload_3 dX10_letterDays_65 ?_
            refine v_iconst (v := nI 1) dX10_letterDays_66 (by decide) ?_
            refine v_aload_0 dX10_letterDays_67 ?_
            refine u_getR dX10_letterDays_68 gf_X10_31 (by first | assumption | rfl | exact led_1 (by assumption) | exact led_2 (by assumption) | exact bk_m (by assumption) (by first | assumption | omega) | exact bk_p (by assumption) (by first | assumption | omega) | exact bk_o (by assumption) (by first | assumption | omega) | exact bk_s (by assumption) (by first | assumption | omega) | exact bk_1 (by assumption) | exact bk_2 (by assumption) | exact bk_3 (by assumption) | exact bk_4 (by assumption) | exact bk_5 (by assumption) | exact bk_6 (by assumption) | exact bk_7 (by assumption) | exact bk_8 (by assumption) | exact sh_ring _ (by first | assumption | omega) | exact sh_imgs _ (by first | assumption | omega)) (by assumption) ?_
            refine u_getR dX10_letterDays_71 gf_X10_159 (by first | assumption | rfl | exact led_1 (by assumption) | exact led_2 (by assumption) | exact bk_m (by assumption) (by first | assumption | omega) | exact bk_p (by assumption) (by first | assumption | omega) | exact bk_o (by assumption) (by first | assumption | omega) | exact bk_s (by assumption) (by first | assumption | omega) | exact bk_1 (by assumption) | exact bk_2 (by assumption) | exact bk_3 (by assumption) | exact bk_4 (by assumption) | exact bk_5 (by assumption) | exact bk_6 (by assumption) | exact bk_7 (by assumption) | exact bk_8 (by assumption) | exact sh_ring _ (by first | assumption | omega) | exact sh_imgs _ (by first | assumption | omega)) (ro_X0_13 (by assumption) (by assumption)) ?_
            refine v_iload_4 dX10_letterDays_74 ?_
            refine u_iald dX10_letterDays_76 (by first | assumption | rfl | exact led_1 (by assumption) | exact led_2 (by assumption) | exact bk_m (by assumption) (by first | assumption | omega) | exact bk_p (by assumption) (by first | assumption | omega) | exact bk_o (by assumption) (by first | assumption | omega) | exact bk_s (by assumption) (by first | assumption | omega) | exact bk_1 (by assumption) | exact bk_2 (by assumption) | exact bk_3 (by assumption) | exact bk_4 (by assumption) | exact bk_5 (by assumption) | exact bk_6 (by assumption) | exact bk_7 (by assumption) | exact bk_8 (by assumption) | exact sh_ring _ (by first | assumption | omega) | exact sh_imgs _ (by first | assumption | omega)) (by first | with_reducible rfl | (simp only [nlit, nI_add, pk_mul]; with_reducible rfl) | rfl) (by first | assumption | omega) (by first | assumption | decide) ?_
            rw [(hF.2.2.2.2.2 l (by omega)).2.2]
            refine v_ishl dX10_letterDays_77 ?_
            rw [one_shl (by omega)]
            refine v_ior dX10_letterDays_78 ?_
            rw [nx_or]
            refine v_istore_3 rfl dX10_letterDays_79 ?_
            refine v_iinc_4 (v := 1) rfl dX10_letterDays_80 (by decide) ?_
            refine v_goto (tgt := 5) dX10_letterDays_83 (by decide) ?_
            rw [← nI_succ]
            refine ih (l + 1) _ _ _ (by omega) ?_
            simp only [dupz] at hQ
            first
              | (have e1 : F (168 + 3 * l) = m := hc44; have e2 : F (169 + 3 * l) = o := hc50; rw [if_pos (by simp only [ltp, e1, e2, hl6, decide_true, Bool.true_and, Bool.true_or])] at hQ; exact hQ)
              | (have e1 : F (168 + 3 * l) = o := hc56; have e2 : F (169 + 3 * l) = m := hc62; rw [if_pos (by simp only [ltp, e1, e2, hl6, decide_true, Bool.and_self, Bool.or_true])] at hQ; exact hQ)
              | (have e1 : ¬ F (168 + 3 * l) = m := hc44; have e2 : ¬ F (168 + 3 * l) = o := hc56; rw [if_neg (by simp only [ltp, e1, e2, decide_false, Bool.false_and, Bool.or_self, Bool.and_false]; decide)] at hQ; exact hQ)
              | (have e1 : ¬ F (168 + 3 * l) = m := hc44; have e2 : ¬ F (169 + 3 * l) = m := hc62; rw [if_neg (by simp only [ltp, e1, e2, decide_false, Bool.false_and, Bool.and_false, Bool.or_self]; decide)] at hQ; exact hQ)
              | (have e1 : ¬ F (169 + 3 * l) = o := hc50; have e2 : ¬ F (168 + 3 * l) = o := hc56; rw [if_neg (by simp only [ltp, e1, e2, decide_false, Bool.false_and, Bool.and_false, Bool.or_self]; decide)] at hQ; exact hQ)
              | (have e1 : ¬ F (169 + 3 * l) = o := hc50; have e2 : ¬ F (169 + 3 * l) = m := hc62; rw [if_neg (by simp only [ltp, e1, e2, decide_false, Bool.false_and, Bool.and_false, Bool.or_self]; decide)] at hQ; exact hQ)
          · (try rw [nI_eq (by omega) (by omega)] at hc50)
            refine v_iload_5 dX10_letterDays_53 ?_
            refine v_iload_2 dX10_letterDays_55 ?_
            refine v_icmp_ne (tgt := 80) dX10_letterDays_56 (by decide) (fun hc56 => ?_) (fun hc56 => ?_)
            · (try rw [nI_eq (by omega) (by omega)] at hc56)
              refine v_iinc_4 (v := 1) rfl dX10_letterDays_80 (by decide) ?_
              refine v_goto (tgt := 5) dX10_letterDays_83 (by decide) ?_
              rw [← nI_succ]
              refine ih (l + 1) _ _ _ (by omega) ?_
              simp only [dupz] at hQ
              first
                | (have e1 : F (168 + 3 * l) = m := hc44; have e2 : F (169 + 3 * l) = o := hc50; rw [if_pos (by simp only [ltp, e1, e2, hl6, decide_true, Bool.true_and, Bool.true_or])] at hQ; exact hQ)
                | (have e1 : F (168 + 3 * l) = o := hc56; have e2 : F (169 + 3 * l) = m := hc62; rw [if_pos (by simp only [ltp, e1, e2, hl6, decide_true, Bool.and_self, Bool.or_true])] at hQ; exact hQ)
                | (have e1 : ¬ F (168 + 3 * l) = m := hc44; have e2 : ¬ F (168 + 3 * l) = o := hc56; rw [if_neg (by simp only [ltp, e1, e2, decide_false, Bool.false_and, Bool.or_self, Bool.and_false]; decide)] at hQ; exact hQ)
                | (have e1 : ¬ F (168 + 3 * l) = m := hc44; have e2 : ¬ F (169 + 3 * l) = m := hc62; rw [if_neg (by simp only [ltp, e1, e2, decide_false, Bool.false_and, Bool.and_false, Bool.or_self]; decide)] at hQ; exact hQ)
                | (have e1 : ¬ F (169 + 3 * l) = o := hc50; have e2 : ¬ F (168 + 3 * l) = o := hc56; rw [if_neg (by simp only [ltp, e1, e2, decide_false, Bool.false_and, Bool.and_false, Bool.or_self]; decide)] at hQ; exact hQ)
                | (have e1 : ¬ F (169 + 3 * l) = o := hc50; have e2 : ¬ F (169 + 3 * l) = m := hc62; rw [if_neg (by simp only [ltp, e1, e2, decide_false, Bool.false_and, Bool.and_false, Bool.or_self]; decide)] at hQ; exact hQ)
            · (try rw [nI_eq (by omega) (by omega)] at hc56)
              refine v_iload_6 dX10_letterDays_59 ?_
              refine v_iload_1 dX10_letterDays_61 ?_
              refine v_icmp_ne (tgt := 80) dX10_letterDays_62 (by decide) (fun hc62 => ?_) (fun hc62 => ?_)
              · (try rw [nI_eq (by omega) (by omega)] at hc62)
                refine v_iinc_4 (v := 1) rfl dX10_letterDays_80 (by decide) ?_
                refine v_goto (tgt := 5) dX10_letterDays_83 (by decide) ?_
                rw [← nI_succ]
                refine ih (l + 1) _ _ _ (by omega) ?_
                simp only [dupz] at hQ
                first
                  | (have e1 : F (168 + 3 * l) = m := hc44; have e2 : F (169 + 3 * l) = o := hc50; rw [if_pos (by simp only [ltp, e1, e2, hl6, decide_true, Bool.true_and, Bool.true_or])] at hQ; exact hQ)
                  | (have e1 : F (168 + 3 * l) = o := hc56; have e2 : F (169 + 3 * l) = m := hc62; rw [if_pos (by simp only [ltp, e1, e2, hl6, decide_true, Bool.and_self, Bool.or_true])] at hQ; exact hQ)
                  | (have e1 : ¬ F (168 + 3 * l) = m := hc44; have e2 : ¬ F (168 + 3 * l) = o := hc56; rw [if_neg (by simp only [ltp, e1, e2, decide_false, Bool.false_and, Bool.or_self, Bool.and_false]; decide)] at hQ; exact hQ)
                  | (have e1 : ¬ F (168 + 3 * l) = m := hc44; have e2 : ¬ F (169 + 3 * l) = m := hc62; rw [if_neg (by simp only [ltp, e1, e2, decide_false, Bool.false_and, Bool.and_false, Bool.or_self]; decide)] at hQ; exact hQ)
                  | (have e1 : ¬ F (169 + 3 * l) = o := hc50; have e2 : ¬ F (168 + 3 * l) = o := hc56; rw [if_neg (by simp only [ltp, e1, e2, decide_false, Bool.false_and, Bool.and_false, Bool.or_self]; decide)] at hQ; exact hQ)
                  | (have e1 : ¬ F (169 + 3 * l) = o := hc50; have e2 : ¬ F (169 + 3 * l) = m := hc62; rw [if_neg (by simp only [ltp, e1, e2, decide_false, Bool.false_and, Bool.and_false, Bool.or_self]; decide)] at hQ; exact hQ)
              · (try rw [nI_eq (by omega) (by omega)] at hc62)
                refine v_iload_3 dX10_letterDays_65 ?_
                refine v_iconst (v := nI 1) dX10_letterDays_66 (by decide) ?_
                refine v_aload_0 dX10_letterDays_67 ?_
                refine u_getR dX10_letterDays_68 gf_X10_31 (by first | assumption | rfl | exact led_1 (by assumption) | exact led_2 (by assumption) | exact bk_m (by assumption) (by first | assumption | omega) | exact bk_p (by assumption) (by first | assumption | omega) | exact bk_o (by assumption) (by first | assumption | omega) | exact bk_s (by assumption) (by first | assumption | omega) | exact bk_1 (by assumption) | exact bk_2 (by assumption) | exact bk_3 (by assumption) | exact bk_4 (by assumption) | exact bk_5 (by assumption) | exact bk_6 (by assumption) | exact bk_7 (by assumption) | exact bk_8 (by assumption) | exact sh_ring _ (by first | assumption | omega) | exact sh_imgs _ (by first | assumption | omega)) (by assumption) ?_
                refine u_getR dX10_letterDays_71 gf_X10_159 (by first | assumption | rfl | exact led_1 (by assumption) | exact led_2 (by assumption) | exact bk_m (by assumption) (by first | assumption | omega) | exact bk_p (by assumption) (by first | assumption | omega) | exact bk_o (by assumption) (by first | assumption | omega) | exact bk_s (by assumption) (by first | assumption | omega) | exact bk_1 (by assumption) | exact bk_2 (by assumption) | exact bk_3 (by assumption) | exact bk_4 (by assumption) | exact bk_5 (by assumption) | exact bk_6 (by assumption) | exact bk_7 (by assumption) | exact bk_8 (by assumption) | exact sh_ring _ (by first | assumption | omega) | exact sh_imgs _ (by first | assumption | omega)) (ro_X0_13 (by assumption) (by assumption)) ?_
                refine v_iload_4 dX10_letterDays_74 ?_
                refine u_iald dX10_letterDays_76 (by first | assumption | rfl | exact led_1 (by assumption) | exact led_2 (by assumption) | exact bk_m (by assumption) (by first | assumption | omega) | exact bk_p (by assumption) (by first | assumption | omega) | exact bk_o (by assumption) (by first | assumption | omega) | exact bk_s (by assumption) (by first | assumption | omega) | exact bk_1 (by assumption) | exact bk_2 (by assumption) | exact bk_3 (by assumption) | exact bk_4 (by assumption) | exact bk_5 (by assumption) | exact bk_6 (by assumption) | exact bk_7 (by assumption) | exact bk_8 (by assumption) | exact sh_ring _ (by first | assumption | omega) | exact sh_imgs _ (by first | assumption | omega)) (by first | with_reducible rfl | (simp only [nlit, nI_add, pk_mul]; with_reducible rfl) | rfl) (by first | assumption | omega) (by first | assumption | decide) ?_
                rw [(hF.2.2.2.2.2 l (by omega)).2.2]
                refine v_ishl dX10_letterDays_77 ?_
                rw [one_shl (by omega)]
                refine v_ior dX10_letterDays_78 ?_
                rw [nx_or]
                refine v_istore_3 rfl dX10_letterDays_79 ?_
                refine v_iinc_4 (v := 1) rfl dX10_letterDays_80 (by decide) ?_
                refine v_goto (tgt := 5) dX10_letterDays_83 (by decide) ?_
                rw [← nI_succ]
                refine ih (l + 1) _ _ _ (by omega) ?_
                simp only [dupz] at hQ
                first
                  | (have e1 : F (168 + 3 * l) = m := hc44; have e2 : F (169 + 3 * l) = o := hc50; rw [if_pos (by simp only [ltp, e1, e2, hl6, decide_true, Bool.true_and, Bool.true_or])] at hQ; exact hQ)
                  | (have e1 : F (168 + 3 * l) = o := hc56; have e2 : F (169 + 3 * l) = m := hc62; rw [if_pos (by simp only [ltp, e1, e2, hl6, decide_true, Bool.and_self, Bool.or_true])] at hQ; exact hQ)
                  | (have e1 : ¬ F (168 + 3 * l) = m := hc44; have e2 : ¬ F (168 + 3 * l) = o := hc56; rw [if_neg (by simp only [ltp, e1, e2, decide_false, Bool.false_and, Bool.or_self, Bool.and_false]; decide)] at hQ; exact hQ)
                  | (have e1 : ¬ F (168 + 3 * l) = m := hc44; have e2 : ¬ F (169 + 3 * l) = m := hc62; rw [if_neg (by simp only [ltp, e1, e2, decide_false, Bool.false_and, Bool.and_false, Bool.or_self]; decide)] at hQ; exact hQ)
                  | (have e1 : ¬ F (169 + 3 * l) = o := hc50; have e2 : ¬ F (168 + 3 * l) = o := hc56; rw [if_neg (by simp only [ltp, e1, e2, decide_false, Bool.false_and, Bool.and_false, Bool.or_self]; decide)] at hQ; exact hQ)
                  | (have e1 : ¬ F (169 + 3 * l) = o := hc50; have e2 : ¬ F (169 + 3 * l) = m := hc62; rw [if_neg (by simp only [ltp, e1, e2, decide_false, Bool.false_and, Bool.and_false, Bool.or_self]; decide)] at hQ; exact hQ)
  refine v_iconst (v := nI 0) dX10_letterDays_0 (by decide) ?_
  refine v_istore_3 rfl dX10_letterDays_1 ?_
  refine v_iconst (v := nI 0) dX10_letterDays_2 (by decide) ?_
  refine v_istore_4 rfl dX10_letterDays_3 ?_
  exact loop (F 6) 0 0 none none (by omega) hQ
theorem c_X10_keepPartners {m o : Nat} {pt : Nat → Nat} (hR : RO R) (hB : SH B = .inl 0) (hb : R 150 0 = some B) (hF : BkI I B F) (hO : FOK F) (hW : WcI I (F 2) pg c) (hf : ∃ z : Nat, z < 2 ^ 31 ∧ I 150 1 = nI z) (hm : m < F 2) (ho : o < F 2) (hpt : ∀ q, q < F 3 → I 156 q = nI (pt q)) (hQ : ∀ J, WcI J (F 2) pg c → (∀ q, q < F 3 → J 156 q = nI (kpp F pg c m o pt q)) → (∀ x, x ≠ 154 → x ≠ 156 → J x = I x) → Q none SH J L R) : KK 9 mX10_keepPartners b ad [.ref (b + 150), .int (nI m), .int (nI o)] I L R Q := by
  obtain ⟨k0, k1, k2, k3, k4, k5, k6, -⟩ := id hO
  have hc64 := (hW.2 m hm).2
  have hF0 := hF
  refine K.of (M := mX10_keepPartners) (lv := [some (.ref (b + 150)), some (.int (nI m)), some (.int (nI o)), none, none]) (by decide) (Nat.le_of_ble_eq_true rfl) rfl ?_
  have loop : ∀ (j p : Nat) (J : HI), p + j = F 3 → (∀ x, x < F 2 → J 155 x = bI (pg x)) → (∀ x, x < F 2 → x ≠ m → J 154 x = nI (c x)) → (∀ q, q < p → J 156 q = nI (kpp F pg c m o pt q)) → (∀ q, p ≤ q → q < F 3 → J 156 q = nI (pt q)) → (∀ x, x ≠ 154 → x ≠ 156 → J x = I x) → VV yX10_keepPartners cX10_keepPartners 5 none 9 Q b ad 10 [some (.ref (b + 150)), some (.int (nI m)), some (.int (nI o)), some (.int (nI (c m))), some (.int (nI p))] [] J L R := by
    intro j
    induction j with
    | zero =>
      intro p J hij h155 h154 hlo hhi hfr
      have hF := BkI.fr hB hF0 hO (J := J) (fun x hx => hfr x (by omega) (by omega))
      refine v_iload_4 dX10_keepPartners_10 ?_
      refine v_aload_0 dX10_keepPartners_12 ?_
      refine u_getR dX10_keepPartners_13 gf_X10_31 (by first | assumption | rfl | exact led_1 (by assumption) | exact led_2 (by assumption) | exact bk_m (by assumption) (by first | assumption | omega) | exact bk_p (by assumption) (by first | assumption | omega) | exact bk_o (by assumption) (by first | assumption | omega) | exact bk_s (by assumption) (by first | assumption | omega) | exact bk_1 (by assumption) | exact bk_2 (by assumption) | exact bk_3 (by assumption) | exact bk_4 (by assumption) | exact bk_5 (by assumption) | exact bk_6 (by assumption) | exact bk_7 (by assumption) | exact bk_8 (by assumption) | exact sh_ring _ (by first | assumption | omega) | exact sh_imgs _ (by first | assumption | omega)) (by assumption) ?_
      refine u_getI dX10_keepPartners_16 gf_X10_90 (by first | assumption | rfl | exact led_1 (by assumption) | exact led_2 (by assumption) | exact bk_m (by assumption) (by first | assumption | omega) | exact bk_p (by assumption) (by first | assumption | omega) | exact bk_o (by assumption) (by first | assumption | omega) | exact bk_s (by assumption) (by first | assumption | omega) | exact bk_1 (by assumption) | exact bk_2 (by assumption) | exact bk_3 (by assumption) | exact bk_4 (by assumption) | exact bk_5 (by assumption) | exact bk_6 (by assumption) | exact bk_7 (by assumption) | exact bk_8 (by assumption) | exact sh_ring _ (by first | assumption | omega) | exact sh_imgs _ (by first | assumption | omega)) ?_
      (try rw [bx3 hF])
      refine v_icmp_ge (tgt := 82) dX10_keepPartners_19 (by decide) (fun hc19 => ?_) (fun hc19 => ?_)
      · (try rw [nI_leI (by omega) (by omega)] at hc19)
        refine v_aload_0 dX10_keepPartners_82 ?_
        refine u_getR dX10_keepPartners_83 gf_X10_21 (by first | assumption | rfl | exact led_1 (by assumption) | exact led_2 (by assumption) | exact bk_m (by assumption) (by first | assumption | omega) | exact bk_p (by assumption) (by first | assumption | omega) | exact bk_o (by assumption) (by first | assumption | omega) | exact bk_s (by assumption) (by first | assumption | omega) | exact bk_1 (by assumption) | exact bk_2 (by assumption) | exact bk_3 (by assumption) | exact bk_4 (by assumption) | exact bk_5 (by assumption) | exact bk_6 (by assumption) | exact bk_7 (by assumption) | exact bk_8 (by assumption) | exact sh_ring _ (by first | assumption | omega) | exact sh_imgs _ (by first | assumption | omega)) (ro_X10_6 (by assumption)) ?_
        refine v_iload_1 dX10_keepPartners_86 ?_
        refine v_iload_3 dX10_keepPartners_87 ?_
        refine u_iast dX10_keepPartners_88 (by first | assumption | rfl | exact led_1 (by assumption) | exact led_2 (by assumption) | exact bk_m (by assumption) (by first | assumption | omega) | exact bk_p (by assumption) (by first | assumption | omega) | exact bk_o (by assumption) (by first | assumption | omega) | exact bk_s (by assumption) (by first | assumption | omega) | exact bk_1 (by assumption) | exact bk_2 (by assumption) | exact bk_3 (by assumption) | exact bk_4 (by assumption) | exact bk_5 (by assumption) | exact bk_6 (by assumption) | exact bk_7 (by assumption) | exact bk_8 (by assumption) | exact sh_ring _ (by first | assumption | omega) | exact sh_imgs _ (by first | assumption | omega)) (by first | with_reducible rfl | (simp only [nlit, nI_add, pk_mul]; with_reducible rfl) | rfl) (by first | assumption | omega) (by first | assumption | decide) ?_
        refine v_vret dX10_keepPartners_89 rfl rfl rfl rfl ?_
        have e : p = F 3 := by omega
        subst e
        refine hQ _ ⟨fun x hx => by rw [ui_ne (by decide)]; exact h155 x hx, fun x hx => ?_⟩ (fun q hq => by rw [ui_ne (by decide)]; exact hlo q hq) (fun x x1 x2 => by rw [ui_ne x1]; exact hfr x x1 x2)
        by_cases e : x = m
        · subst e; rw [ui_s]; exact ⟨rfl, hc64⟩
        · rw [ui_o e]; exact ⟨h154 x hx e, (hW.2 x hx).2⟩
      · (try rw [nI_leI (by omega) (by omega)] at hc19)
        exfalso; omega
    | succ j ih =>
      intro p J hij h155 h154 hlo hhi hfr
      have hF := BkI.fr hB hF0 hO (J := J) (fun x hx => hfr x (by omega) (by omega))
      refine v_iload_4 dX10_keepPartners_10 ?_
      refine v_aload_0 dX10_keepPartners_12 ?_
      refine u_getR dX10_keepPartners_13 gf_X10_31 (by first | assumption | rfl | exact led_1 (by assumption) | exact led_2 (by assumption) | exact bk_m (by assumption) (by first | assumption | omega) | exact bk_p (by assumption) (by first | assumption | omega) | exact bk_o (by assumption) (by first | assumption | omega) | exact bk_s (by assumption) (by first | assumption | omega) | exact bk_1 (by assumption) | exact bk_2 (by assumption) | exact bk_3 (by assumption) | exact bk_4 (by assumption) | exact bk_5 (by assumption) | exact bk_6 (by assumption) | exact bk_7 (by assumption) | exact bk_8 (by assumption) | exact sh_ring _ (by first | assumption | omega) | exact sh_imgs _ (by first | assumption | omega)) (by assumption) ?_
      refine u_getI dX10_keepPartners_16 gf_X10_90 (by first | assumption | rfl | exact led_1 (by assumption) | exact led_2 (by assumption) | exact bk_m (by assumption) (by first | assumption | omega) | exact bk_p (by assumption) (by first | assumption | omega) | exact bk_o (by assumption) (by first | assumption | omega) | exact bk_s (by assumption) (by first | assumption | omega) | exact bk_1 (by assumption) | exact bk_2 (by assumption) | exact bk_3 (by assumption) | exact bk_4 (by assumption) | exact bk_5 (by assumption) | exact bk_6 (by assumption) | exact bk_7 (by assumption) | exact bk_8 (by assumption) | exact sh_ring _ (by first | assumption | omega) | exact sh_imgs _ (by first | assumption | omega)) ?_
      (try rw [bx3 hF])
      refine v_icmp_ge (tgt := 82) dX10_keepPartners_19 (by decide) (fun hc19 => ?_) (fun hc19 => ?_)
      · (try rw [nI_leI (by omega) (by omega)] at hc19)
        exfalso; omega
      · (try rw [nI_leI (by omega) (by omega)] at hc19)
        refine v_aload_0 dX10_keepPartners_22 ?_
        refine u_getR dX10_keepPartners_23 gf_X10_24 (by first | assumption | rfl | exact led_1 (by assumption) | exact led_2 (by assumption) | exact bk_m (by assumption) (by first | assumption | omega) | exact bk_p (by assumption) (by first | assumption | omega) | exact bk_o (by assumption) (by first | assumption | omega) | exact bk_s (by assumption) (by first | assumption | omega) | exact bk_1 (by assumption) | exact bk_2 (by assumption) | exact bk_3 (by assumption) | exact bk_4 (by assumption) | exact bk_5 (by assumption) | exact bk_6 (by assumption) | exact bk_7 (by assumption) | exact bk_8 (by assumption) | exact sh_ring _ (by first | assumption | omega) | exact sh_imgs _ (by first | assumption | omega)) (ro_X10_7 (by assumption)) ?_
        refine v_iload_1 dX10_keepPartners_26 ?_
        first | refine u_bald dX10_keepPartners_27 (by first | assumption | rfl | exact led_1 (by assumption) | exact led_2 (by assumption) | exact bk_m (by assumption) (by first | assumption | omega) | exact bk_p (by assumption) (by first | assumption | omega) | exact bk_o (by assumption) (by first | assumption | omega) | exact bk_s (by assumption) (by first | assumption | omega) | exact bk_1 (by assumption) | exact bk_2 (by assumption) | exact bk_3 (by assumption) | exact bk_4 (by assumption) | exact bk_5 (by assumption) | exact bk_6 (by assumption) | exact bk_7 (by assumption) | exact bk_8 (by assumption) | exact sh_ring _ (by first | assumption | omega) | exact sh_imgs _ (by first | assumption | omega)) (by first | with_reducible rfl | (simp only [nlit, nI_add, pk_mul]; with_reducible rfl) | rfl) (by first | assumption | omega) (by first | assumption | decide) ?_ | refine u_zald dX10_keepPartners_27 (by first | assumption | rfl | exact led_1 (by assumption) | exact led_2 (by assumption) | exact bk_m (by assumption) (by first | assumption | omega) | exact bk_p (by assumption) (by first | assumption | omega) | exact bk_o (by assumption) (by first | assumption | omega) | exact bk_s (by assumption) (by first | assumption | omega) | exact bk_1 (by assumption) | exact bk_2 (by assumption) | exact bk_3 (by assumption) | exact bk_4 (by assumption) | exact bk_5 (by assumption) | exact bk_6 (by assumption) | exact bk_7 (by assumption) | exact bk_8 (by assumption) | exact sh_ring _ (by first | assumption | omega) | exact sh_imgs _ (by first | assumption | omega)) (by first | with_reducible rfl | (simp only [nlit, nI_add, pk_mul]; with_reducible rfl) | rfl) (by first | assumption | omega) (by first | assumption | decide) ?_
        rw [h155 m hm]
        refine v_if_ne (tgt := 40) dX10_keepPartners_28 (by decide) (fun hc28 => ?_) (fun hc28 => ?_)
        · (first | rw [bI_0, Bool.not_eq_false] at hc28 | rw [bI_0] at hc28 | rw [show (0 : Int32) = nI 0 from rfl, nI_eq (by omega) (by omega)] at hc28 | skip)
          refine v_aload_0 dX10_keepPartners_40 ?_
          refine u_getR dX10_keepPartners_41 gf_X10_28 (by first | assumption | rfl | exact led_1 (by assumption) | exact led_2 (by assumption) | exact bk_m (by assumption) (by first | assumption | omega) | exact bk_p (by assumption) (by first | assumption | omega) | exact bk_o (by assumption) (by first | assumption | omega) | exact bk_s (by assumption) (by first | assumption | omega) | exact bk_1 (by assumption) | exact bk_2 (by assumption) | exact bk_3 (by assumption) | exact bk_4 (by assumption) | exact bk_5 (by assumption) | exact bk_6 (by assumption) | exact bk_7 (by assumption) | exact bk_8 (by assumption) | exact sh_ring _ (by first | assumption | omega) | exact sh_imgs _ (by first | assumption | omega)) (ro_X10_8 (by assumption)) ?_
          refine v_iload_4 dX10_keepPartners_44 ?_
          refine v_iconst (v := nI 0) dX10_keepPartners_46 (by decide) ?_
          refine u_iast dX10_keepPartners_47 (by first | assumption | rfl | exact led_1 (by assumption) | exact led_2 (by assumption) | exact bk_m (by assumption) (by first | assumption | omega) | exact bk_p (by assumption) (by first | assumption | omega) | exact bk_o (by assumption) (by first | assumption | omega) | exact bk_s (by assumption) (by first | assumption | omega) | exact bk_1 (by assumption) | exact bk_2 (by assumption) | exact bk_3 (by assumption) | exact bk_4 (by assumption) | exact bk_5 (by assumption) | exact bk_6 (by assumption) | exact bk_7 (by assumption) | exact bk_8 (by assumption) | exact sh_ring _ (by first | assumption | omega) | exact sh_imgs _ (by first | assumption | omega)) (by first | with_reducible rfl | (simp only [nlit, nI_add, pk_mul]; with_reducible rfl) | rfl) (by first | assumption | omega) (by first | assumption | decide) ?_
          refine v_goto (tgt := 76) dX10_keepPartners_48 (by decide) ?_
          refine v_iinc_4 (v := 1) rfl dX10_keepPartners_76 (by decide) ?_
          refine v_goto (tgt := 10) dX10_keepPartners_79 (by decide) ?_
          rw [← nI_succ]
          refine ih (p + 1) _ (by omega) (fun x hx => by rw [ui_ne (by decide)]; exact h155 x hx) (fun x hx hn => by rw [ui_ne (by decide)]; exact h154 x hx hn) (fun q hq => ?_) (fun q h1 h2 => by rw [ui_o (by omega)]; exact hhi q (by omega) h2) (fun x x1 x2 => by rw [ui_ne x2]; exact hfr x x1 x2)
          by_cases e : q = p
          · subst e; rw [ui_s]
            first
              | (have e1 : pg m = true := hc28; simp only [kpp, if_pos e1]; done)
              | (have e1 : pg m = false := hc28; have e2 : (c m).testBit q = false := hc37; simp only [kpp, e1, e2]; rfl)
          · rw [ui_o e]; exact hlo q (by omega)
        · (first | rw [bI_0, Bool.not_eq_false] at hc28 | rw [bI_0] at hc28 | rw [show (0 : Int32) = nI 0 from rfl, nI_eq (by omega) (by omega)] at hc28 | skip)
          refine v_iload_3 dX10_keepPartners_31 ?_
          refine v_iload_4 dX10_keepPartners_32 ?_
          refine v_ishr dX10_keepPartners_34 ?_
          refine v_iconst (v := nI 1) dX10_keepPartners_35 (by decide) ?_
          refine v_iand dX10_keepPartners_36 ?_
          rw [bit_b (by omega) (by omega)]
          refine v_if_ne (tgt := 51) dX10_keepPartners_37 (by decide) (fun hc37 => ?_) (fun hc37 => ?_)
          · (first | rw [bI_0, Bool.not_eq_false] at hc37 | rw [bI_0] at hc37 | rw [show (0 : Int32) = nI 0 from rfl, nI_eq (by omega) (by omega)] at hc37 | skip)
            refine v_aload_0 dX10_keepPartners_51 ?_
            refine u_getR dX10_keepPartners_52 gf_X10_21 (by first | assumption | rfl | exact led_1 (by assumption) | exact led_2 (by assumption) | exact bk_m (by assumption) (by first | assumption | omega) | exact bk_p (by assumption) (by first | assumption | omega) | exact bk_o (by assumption) (by first | assumption | omega) | exact bk_s (by assumption) (by first | assumption | omega) | exact bk_1 (by assumption) | exact bk_2 (by assumption) | exact bk_3 (by assumption) | exact bk_4 (by assumption) | exact bk_5 (by assumption) | exact bk_6 (by assumption) | exact bk_7 (by assumption) | exact bk_8 (by assumption) | exact sh_ring _ (by first | assumption | omega) | exact sh_imgs _ (by first | assumption | omega)) (ro_X10_6 (by assumption)) ?_
            refine v_iload_1 dX10_keepPartners_55 ?_
            refine v_iconst (v := nI 1) dX10_keepPartners_56 (by decide) ?_
            refine v_iload_4 dX10_keepPartners_57 ?_
            refine v_ishl dX10_keepPartners_59 ?_
            rw [one_shl (by omega)]
            refine u_iast dX10_keepPartners_60 (by first | assumption | rfl | exact led_1 (by assumption) | exact led_2 (by assumption) | exact bk_m (by assumption) (by first | assumption | omega) | exact bk_p (by assumption) (by first | assumption | omega) | exact bk_o (by assumption) (by first | assumption | omega) | exact bk_s (by assumption) (by first | assumption | omega) | exact bk_1 (by assumption) | exact bk_2 (by assumption) | exact bk_3 (by assumption) | exact bk_4 (by assumption) | exact bk_5 (by assumption) | exact bk_6 (by assumption) | exact bk_7 (by assumption) | exact bk_8 (by assumption) | exact sh_ring _ (by first | assumption | omega) | exact sh_imgs _ (by first | assumption | omega)) (by first | with_reducible rfl | (simp only [nlit, nI_add, pk_mul]; with_reducible rfl) | rfl) (by first | assumption | omega) (by first | assumption | decide) ?_
            have hF2 := BkI.fr hB hF hO (J := ui J 154 m (nI (2 ^ p))) (fun x hx => ui_ne (by omega))
            have hW2 : WcI (ui J 154 m (nI (2 ^ p))) (F 2) pg (upc c m (2 ^ p)) := ⟨fun x hx => by rw [ui_ne (by decide)]; exact h155 x hx, fun x hx => by
                by_cases e : x = m
                · subst e; rw [ui_s]; simp only [upc, if_true]; exact ⟨trivial, p2lt (by omega)⟩
                · rw [ui_o e]; simp only [upc, if_neg e]; exact ⟨h154 x hx e, (hW.2 x hx).2⟩⟩
            have hf2 : ∃ z : Nat, z < 2 ^ 31 ∧ ui J 154 m (nI (2 ^ p)) 150 1 = nI z := by rw [ui_ne (by decide), hfr 150 (by decide) (by decide)]; exact hf
            refine v_aload_0 dX10_keepPartners_61 ?_
            refine u_getR dX10_keepPartners_62 gf_X10_28 (by first | assumption | rfl | exact led_1 (by assumption) | exact led_2 (by assumption) | exact bk_m (by assumption) (by first | assumption | omega) | exact bk_p (by assumption) (by first | assumption | omega) | exact bk_o (by assumption) (by first | assumption | omega) | exact bk_s (by assumption) (by first | assumption | omega) | exact bk_1 (by assumption) | exact bk_2 (by assumption) | exact bk_3 (by assumption) | exact bk_4 (by assumption) | exact bk_5 (by assumption) | exact bk_6 (by assumption) | exact bk_7 (by assumption) | exact bk_8 (by assumption) | exact sh_ring _ (by first | assumption | omega) | exact sh_imgs _ (by first | assumption | omega)) (ro_X10_8 (by assumption)) ?_
            refine v_iload_4 dX10_keepPartners_65 ?_
            refine v_dup2 dX10_keepPartners_67 rfl rfl ?_
            refine u_iald dX10_keepPartners_68 (by first | assumption | rfl | exact led_1 (by assumption) | exact led_2 (by assumption) | exact bk_m (by assumption) (by first | assumption | omega) | exact bk_p (by assumption) (by first | assumption | omega) | exact bk_o (by assumption) (by first | assumption | omega) | exact bk_s (by assumption) (by first | assumption | omega) | exact bk_1 (by assumption) | exact bk_2 (by assumption) | exact bk_3 (by assumption) | exact bk_4 (by assumption) | exact bk_5 (by assumption) | exact bk_6 (by assumption) | exact bk_7 (by assumption) | exact bk_8 (by assumption) | exact sh_ring _ (by first | assumption | omega) | exact sh_imgs _ (by first | assumption | omega)) (by first | with_reducible rfl | (simp only [nlit, nI_add, pk_mul]; with_reducible rfl) | rfl) (by first | assumption | omega) (by first | assumption | decide) ?_
            rw [ui_ne (by decide), hhi p (Nat.le_refl _) (by omega)]
            refine v_aload_0 dX10_keepPartners_69 ?_
            refine v_iload_2 dX10_keepPartners_70 ?_
            refine u_callV_1 dX10_keepPartners_71 ml_X10_162 mv_X10_personsIn (by first | assumption | rfl | exact led_1 (by assumption) | exact led_2 (by assumption) | exact bk_m (by assumption) (by first | assumption | omega) | exact bk_p (by assumption) (by first | assumption | omega) | exact bk_o (by assumption) (by first | assumption | omega) | exact bk_s (by assumption) (by first | assumption | omega) | exact bk_1 (by assumption) | exact bk_2 (by assumption) | exact bk_3 (by assumption) | exact bk_4 (by assumption) | exact bk_5 (by assumption) | exact bk_6 (by assumption) | exact bk_7 (by assumption) | exact bk_8 (by assumption) | exact sh_ring _ (by first | assumption | omega) | exact sh_imgs _ (by first | assumption | omega)) (by decide) rfl (by decide) (Nat.le_of_ble_eq_true rfl) (c_X10_personsIn hR hB hb hF2 hO hW2 hf2 ho ?_)
            refine v_iand dX10_keepPartners_74 ?_
            rw [nx_and2]
            refine u_iast dX10_keepPartners_75 (by first | assumption | rfl | exact led_1 (by assumption) | exact led_2 (by assumption) | exact bk_m (by assumption) (by first | assumption | omega) | exact bk_p (by assumption) (by first | assumption | omega) | exact bk_o (by assumption) (by first | assumption | omega) | exact bk_s (by assumption) (by first | assumption | omega) | exact bk_1 (by assumption) | exact bk_2 (by assumption) | exact bk_3 (by assumption) | exact bk_4 (by assumption) | exact bk_5 (by assumption) | exact bk_6 (by assumption) | exact bk_7 (by assumption) | exact bk_8 (by assumption) | exact sh_ring _ (by first | assumption | omega) | exact sh_imgs _ (by first | assumption | omega)) (by first | with_reducible rfl | (simp only [nlit, nI_add, pk_mul]; with_reducible rfl) | rfl) (by first | assumption | omega) (by first | assumption | decide) ?_
            refine v_iinc_4 (v := 1) rfl dX10_keepPartners_76 (by decide) ?_
            refine v_goto (tgt := 10) dX10_keepPartners_79 (by decide) ?_
            rw [← nI_succ]
            refine ih (p + 1) _ (by omega) (fun x hx => by rw [ui_ne (by decide), ui_ne (by decide)]; exact h155 x hx) (fun x hx hn => by rw [ui_ne (by decide), ui_o hn]; exact h154 x hx hn) (fun q hq => ?_) (fun q h1 h2 => by rw [ui_o (by omega), ui_ne (by decide)]; exact hhi q (by omega) h2) (fun x x1 x2 => by rw [ui_ne x2, ui_ne x1]; exact hfr x x1 x2)
            by_cases e : q = p
            · subst e; rw [ui_s]
              have e1 : pg m = false := hc28
              have e2 : (c m).testBit q = true := hc37
              simp only [kpp, e1, e2]; rfl
            · rw [ui_o e, ui_ne (by decide)]; exact hlo q (by omega)
          · (first | rw [bI_0, Bool.not_eq_false] at hc37 | rw [bI_0] at hc37 | rw [show (0 : Int32) = nI 0 from rfl, nI_eq (by omega) (by omega)] at hc37 | skip)
            refine v_aload_0 dX10_keepPartners_40 ?_
            refine u_getR dX10_keepPartners_41 gf_X10_28 (by first | assumption | rfl | exact led_1 (by assumption) | exact led_2 (by assumption) | exact bk_m (by assumption) (by first | assumption | omega) | exact bk_p (by assumption) (by first | assumption | omega) | exact bk_o (by assumption) (by first | assumption | omega) | exact bk_s (by assumption) (by first | assumption | omega) | exact bk_1 (by assumption) | exact bk_2 (by assumption) | exact bk_3 (by assumption) | exact bk_4 (by assumption) | exact bk_5 (by assumption) | exact bk_6 (by assumption) | exact bk_7 (by assumption) | exact bk_8 (by assumption) | exact sh_ring _ (by first | assumption | omega) | exact sh_imgs _ (by first | assumption | omega)) (ro_X10_8 (by assumption)) ?_
            refine v_iload_4 dX10_keepPartners_44 ?_
            refine v_iconst (v := nI 0) dX10_keepPartners_46 (by decide) ?_
            refine u_iast dX10_keepPartners_47 (by first | assumption | rfl | exact led_1 (by assumption) | exact led_2 (by assumption) | exact bk_m (by assumption) (by first | assumption | omega) | exact bk_p (by assumption) (by first | assumption | omega) | exact bk_o (by assumption) (by first | assumption | omega) | exact bk_s (by assumption) (by first | assumption | omega) | exact bk_1 (by assumption) | exact bk_2 (by assumption) | exact bk_3 (by assumption) | exact bk_4 (by assumption) | exact bk_5 (by assumption) | exact bk_6 (by assumption) | exact bk_7 (by assumption) | exact bk_8 (by assumption) | exact sh_ring _ (by first | assumption | omega) | exact sh_imgs _ (by first | assumption | omega)) (by first | with_reducible rfl | (simp only [nlit, nI_add, pk_mul]; with_reducible rfl) | rfl) (by first | assumption | omega) (by first | assumption | decide) ?_
            refine v_goto (tgt := 76) dX10_keepPartners_48 (by decide) ?_
            refine v_iinc_4 (v := 1) rfl dX10_keepPartners_76 (by decide) ?_
            refine v_goto (tgt := 10) dX10_keepPartners_79 (by decide) ?_
            rw [← nI_succ]
            refine ih (p + 1) _ (by omega) (fun x hx => by rw [ui_ne (by decide)]; exact h155 x hx) (fun x hx hn => by rw [ui_ne (by decide)]; exact h154 x hx hn) (fun q hq => ?_) (fun q h1 h2 => by rw [ui_o (by omega)]; exact hhi q (by omega) h2) (fun x x1 x2 => by rw [ui_ne x2]; exact hfr x x1 x2)
            by_cases e : q = p
            · subst e; rw [ui_s]
              first
                | (have e1 : pg m = true := hc28; simp only [kpp, if_pos e1]; done)
                | (have e1 : pg m = false := hc28; have e2 : (c m).testBit q = false := hc37; simp only [kpp, e1, e2]; rfl)
            · rw [ui_o e]; exact hlo q (by omega)
  refine v_aload_0 dX10_keepPartners_0 ?_
  refine u_getR dX10_keepPartners_1 gf_X10_21 (by first | assumption | rfl | exact led_1 (by assumption) | exact led_2 (by assumption) | exact bk_m (by assumption) (by first | assumption | omega) | exact bk_p (by assumption) (by first | assumption | omega) | exact bk_o (by assumption) (by first | assumption | omega) | exact bk_s (by assumption) (by first | assumption | omega) | exact bk_1 (by assumption) | exact bk_2 (by assumption) | exact bk_3 (by assumption) | exact bk_4 (by assumption) | exact bk_5 (by assumption) | exact bk_6 (by assumption) | exact bk_7 (by assumption) | exact bk_8 (by assumption) | exact sh_ring _ (by first | assumption | omega) | exact sh_imgs _ (by first | assumption | omega)) (ro_X10_6 (by assumption)) ?_
  refine v_iload_1 dX10_keepPartners_4 ?_
  refine u_iald dX10_keepPartners_5 (by first | assumption | rfl | exact led_1 (by assumption) | exact led_2 (by assumption) | exact bk_m (by assumption) (by first | assumption | omega) | exact bk_p (by assumption) (by first | assumption | omega) | exact bk_o (by assumption) (by first | assumption | omega) | exact bk_s (by assumption) (by first | assumption | omega) | exact bk_1 (by assumption) | exact bk_2 (by assumption) | exact bk_3 (by assumption) | exact bk_4 (by assumption) | exact bk_5 (by assumption) | exact bk_6 (by assumption) | exact bk_7 (by assumption) | exact bk_8 (by assumption) | exact sh_ring _ (by first | assumption | omega) | exact sh_imgs _ (by first | assumption | omega)) (by first | with_reducible rfl | (simp only [nlit, nI_add, pk_mul]; with_reducible rfl) | rfl) (by first | assumption | omega) (by first | assumption | decide) ?_
  rw [(hW.2 m hm).1]
  refine v_istore_3 rfl dX10_keepPartners_6 ?_
  refine v_iconst (v := nI 0) dX10_keepPartners_7 (by decide) ?_
  refine v_istore_4 rfl dX10_keepPartners_8 ?_
  exact loop (F 3) 0 I (by omega) (fun x hx => hW.1 x hx) (fun x hx _ => (hW.2 x hx).1) (fun q hq => by omega) (fun q _ hq => hpt q hq) (fun x _ _ => rfl)
end
