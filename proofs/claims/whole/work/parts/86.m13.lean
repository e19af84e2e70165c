section
variable {b : Nat} {ad : Nat → Nat} {I J : HI} {L M : HL} {R : HR} {Q : QT} {F : bkF} {s : LSt} {a o : Nat}
theorem l_terms {w : Option Value} (hR : RO R) (hr : RfI I F s) (hQ : Q (some (.int (ldp F s.1 s.2.1 0 (F 4) 0))) SH I L R) : VV yX12_terms cX12_terms 4 (some .int) 8 Q b ad 21 [some (.ref (b + 157)), some (.int (nI 0)), some (.int (nI 0)), w] [] I L R := by
  have hO := hr.1.2.2.1
  have o2 := hO.2.2.1
  have o3 := hO.2.2.2.1
  have o4 := hO.2.2.2.2.1
  have o0 := hO.1
  have hF := hr.1.1.2
  have hS := hr.2.1
  have hK := hr.2.2
  have hn20 := hK.1
  have hok : ∀ i, i < s.1 → ok4 (s.2.1 i) := fun i hi => (hK.2.1 i hi).1
  have loop : ∀ (j i a : Nat) (w : Option Value), i + j = F 4 → a < 100 → ldp F s.1 s.2.1 i j a = ldp F s.1 s.2.1 0 (F 4) 0 → VV yX12_terms cX12_terms 4 (some .int) 8 Q b ad 21 [some (.ref (b + 157)), some (.int (nI a)), some (.int (nI i)), w] [] I L R := by
    intro j
    induction j with
    | zero =>
      intro i a w hi ha he
      have hi : i = F 4 := hi
      have he : nI a = _ := he
      rw [← he] at hQ
      refine v_iload_2 dX12_terms_21 ?_
      refine v_aload_0 dX12_terms_22 ?_
      refine u_getR dX12_terms_23 gf_X12_20 (by first | assumption | rfl | exact led_1 (by assumption) | exact led_2 (by assumption) | exact bk_m (by assumption) (by first | assumption | omega) | exact bk_p (by assumption) (by first | assumption | omega) | exact bk_o (by assumption) (by first | assumption | omega) | exact bk_s (by assumption) (by first | assumption | omega) | exact bk_1 (by assumption) | exact bk_2 (by assumption) | exact bk_3 (by assumption) | exact bk_4 (by assumption) | exact bk_5 (by assumption) | exact bk_6 (by assumption) | exact bk_7 (by assumption) | exact bk_8 (by assumption) | exact sh_ring _ (by first | assumption | omega) | exact sh_imgs _ (by first | assumption | omega)) (ro_X12_15 (by assumption)) ?_
      refine v_iconst (v := nI 4) dX12_terms_26 (by decide) ?_
      refine u_iald dX12_terms_27 (by first | assumption | rfl | exact led_1 (by assumption) | exact led_2 (by assumption) | exact bk_m (by assumption) (by first | assumption | omega) | exact bk_p (by assumption) (by first | assumption | omega) | exact bk_o (by assumption) (by first | assumption | omega) | exact bk_s (by assumption) (by first | assumption | omega) | exact bk_1 (by assumption) | exact bk_2 (by assumption) | exact bk_3 (by assumption) | exact bk_4 (by assumption) | exact bk_5 (by assumption) | exact bk_6 (by assumption) | exact bk_7 (by assumption) | exact bk_8 (by assumption) | exact sh_ring _ (by first | assumption | omega) | exact sh_imgs _ (by first | assumption | omega)) (by first | with_reducible rfl | (simp only [nlit, nI_add, pk_mul]; with_reducible rfl) | rfl) (by first | assumption | omega) (by first | assumption | decide) ?_
      rw [hF 4 (by decide)]
      refine v_icmp_ge (tgt := 156) dX12_terms_28 (by decide) (fun hc28 => ?_) (fun hc28 => ?_)
      · (try rw [nI_leI (by omega) (by omega)] at hc28)
        refine v_iload_1 dX12_terms_156 ?_
        refine v_iret dX12_terms_157 rfl rfl rfl rfl ?_
        exact hQ
      · exact absurd (nI_le (by omega) (by omega)) hc28
    | succ j ih =>
      intro i a w hij ha he
      have hi : i < F 4 := by omega
      have he : (if befV F s.1 s.2.1 i = true then if F (60 + 6 * i) < F (61 + 6 * i) then -2 else ldp F s.1 s.2.1 (i + 1) j (if a < F (61 + 6 * i) then F (61 + 6 * i) else a) else ldp F s.1 s.2.1 (i + 1) j a) = ldp F s.1 s.2.1 0 (F 4) 0 := he
      obtain ⟨y1, y2, y3, y4, y5, y6, y7⟩ := fk_o hO hi
      refine v_iload_2 dX12_terms_21 ?_
      refine v_aload_0 dX12_terms_22 ?_
      refine u_getR dX12_terms_23 gf_X12_20 (by first | assumption | rfl | exact led_1 (by assumption) | exact led_2 (by assumption) | exact bk_m (by assumption) (by first | assumption | omega) | exact bk_p (by assumption) (by first | assumption | omega) | exact bk_o (by assumption) (by first | assumption | omega) | exact bk_s (by assumption) (by first | assumption | omega) | exact bk_1 (by assumption) | exact bk_2 (by assumption) | exact bk_3 (by assumption) | exact bk_4 (by assumption) | exact bk_5 (by assumption) | exact bk_6 (by assumption) | exact bk_7 (by assumption) | exact bk_8 (by assumption) | exact sh_ring _ (by first | assumption | omega) | exact sh_imgs _ (by first | assumption | omega)) (ro_X12_15 (by assumption)) ?_
      refine v_iconst (v := nI 4) dX12_terms_26 (by decide) ?_
      refine u_iald dX12_terms_27 (by first | assumption | rfl | exact led_1 (by assumption) | exact led_2 (by assumption) | exact bk_m (by assumption) (by first | assumption | omega) | exact bk_p (by assumption) (by first | assumption | omega) | exact bk_o (by assumption) (by first | assumption | omega) | exact bk_s (by assumption) (by first | assumption | omega) | exact bk_1 (by assumption) | exact bk_2 (by assumption) | exact bk_3 (by assumption) | exact bk_4 (by assumption) | exact bk_5 (by assumption) | exact bk_6 (by assumption) | exact bk_7 (by assumption) | exact bk_8 (by assumption) | exact sh_ring _ (by first | assumption | omega) | exact sh_imgs _ (by first | assumption | omega)) (by first | with_reducible rfl | (simp only [nlit, nI_add, pk_mul]; with_reducible rfl) | rfl) (by first | assumption | omega) (by first | assumption | decide) ?_
      rw [hF 4 (by decide)]
      refine v_icmp_ge (tgt := 156) dX12_terms_28 (by decide) (fun hc28 => ?_) (fun hc28 => ?_)
      · exact absurd hc28 (nI_ge (by omega) (by omega))
      · (try rw [nI_leI (by omega) (by omega)] at hc28)
        refine v_aload_0 dX12_terms_31 ?_
        refine u_getR dX12_terms_32 gf_X12_26 (by first | assumption | rfl | exact led_1 (by assumption) | exact led_2 (by assumption) | exact bk_m (by assumption) (by first | assumption | omega) | exact bk_p (by assumption) (by first | assumption | omega) | exact bk_o (by assumption) (by first | assumption | omega) | exact bk_s (by assumption) (by first | assumption | omega) | exact bk_1 (by assumption) | exact bk_2 (by assumption) | exact bk_3 (by assumption) | exact bk_4 (by assumption) | exact bk_5 (by assumption) | exact bk_6 (by assumption) | exact bk_7 (by assumption) | exact bk_8 (by assumption) | exact sh_ring _ (by first | assumption | omega) | exact sh_imgs _ (by first | assumption | omega)) (ro_X12_17 (by assumption)) ?_
        refine v_aload_0 dX12_terms_35 ?_
        refine v_iload_2 dX12_terms_36 ?_
        refine v_iconst (v := nI 0) dX12_terms_37 (by decide) ?_
        refine u_callV_2 dX12_terms_38 ml_X12_319 mv_X12_own (by first | assumption | rfl | exact led_1 (by assumption) | exact led_2 (by assumption) | exact bk_m (by assumption) (by first | assumption | omega) | exact bk_p (by assumption) (by first | assumption | omega) | exact bk_o (by assumption) (by first | assumption | omega) | exact bk_s (by assumption) (by first | assumption | omega) | exact bk_1 (by assumption) | exact bk_2 (by assumption) | exact bk_3 (by assumption) | exact bk_4 (by assumption) | exact bk_5 (by assumption) | exact bk_6 (by assumption) | exact bk_7 (by assumption) | exact bk_8 (by assumption) | exact sh_ring _ (by first | assumption | omega) | exact sh_imgs _ (by first | assumption | omega)) (by decide) rfl (by decide) (Nat.le_of_ble_eq_true rfl) (c_X12_own (k := 56 + 6 * i) hR hr.1.1 (by omega) (by decide) (by omega) ?_)
        refine v_aload_0 dX12_terms_41 ?_
        refine v_iload_2 dX12_terms_42 ?_
        refine v_iconst (v := nI 2) dX12_terms_43 (by decide) ?_
        refine u_callV_2 dX12_terms_44 ml_X12_319 mv_X12_own (by first | assumption | rfl | exact led_1 (by assumption) | exact led_2 (by assumption) | exact bk_m (by assumption) (by first | assumption | omega) | exact bk_p (by assumption) (by first | assumption | omega) | exact bk_o (by assumption) (by first | assumption | omega) | exact bk_s (by assumption) (by first | assumption | omega) | exact bk_1 (by assumption) | exact bk_2 (by assumption) | exact bk_3 (by assumption) | exact bk_4 (by assumption) | exact bk_5 (by assumption) | exact bk_6 (by assumption) | exact bk_7 (by assumption) | exact bk_8 (by assumption) | exact sh_ring _ (by first | assumption | omega) | exact sh_imgs _ (by first | assumption | omega)) (by decide) rfl (by decide) (Nat.le_of_ble_eq_true rfl) (c_X12_own (k := 58 + 6 * i) hR hr.1.1 (by omega) (by decide) (by omega) ?_)
        refine u_callS_3 dX12_terms_47 ml_X12_304 ms_X12_lendingOf (by decide) (Nat.le_of_ble_eq_true rfl) (c_X12_lendingOf (s := s) rfl hS hn20 hok (by omega) (by omega) ?_)
        refine v_istore_3 rfl dX12_terms_50 ?_
        cases hf : fup (hitm s.2.1 (F (56 + 6 * i)) (F (58 + 6 * i)) (F (58 + 6 * i))) 0 s.1 with
        | none =>
          have hb : befV F s.1 s.2.1 i = false := by unfold befV oweI; rw [hf]
          rw [hb, if_neg (by decide)] at he
          show VV yX12_terms cX12_terms 4 (some .int) 8 Q b ad _ [some (.ref (b + 157)), some (.int (nI a)), some (.int (nI i)), (some (.int (-1)))] [] I L R
          refine v_iload_3 dX12_terms_51 ?_
          refine v_if_lt (tgt := 150) dX12_terms_52 (by decide) (fun hc52 => ?_) (fun hc52 => ?_)
          · (first | rw [show (0 : Int32) = nI 0 from rfl, nI_ltI (by omega) (by omega)] at hc52 | rw [show (0 : Int32) = nI 0 from rfl, nI_leI (by omega) (by omega)] at hc52 | skip)
            refine v_iinc_2 (v := 1) rfl dX12_terms_150 (by decide) ?_
            rw [show nI i + 1 = nI (i + 1) from nI_1 i]
            refine v_goto (tgt := 21) dX12_terms_153 (by decide) ?_
            exact ih (i + 1) a _ (by omega) ha he
          · exact absurd (by decide) hc52
        | some k =>
          have hk : k < s.1 := by have := fup_some hf; omega
          obtain ⟨v1, v2, v3, v4, v5⟩ := hok k hk
          have z5 := (fk_p hO (hK.2.1 k hk).2.2.1).2.2.2.2
          have hb : befV F s.1 s.2.1 i = (decide ((s.2.1 k).2.2.2 = F (58 + 6 * i)) && couldV F (some (s.2.1 k).2.1) i) := by unfold befV oweI; rw [hf]
          show VV yX12_terms cX12_terms 4 (some .int) 8 Q b ad _ [some (.ref (b + 157)), some (.int (nI a)), some (.int (nI i)), (some (.int (nI k)))] [] I L R
          refine v_iload_3 dX12_terms_51 ?_
          refine v_if_lt (tgt := 150) dX12_terms_52 (by decide) (fun hc52 => ?_) (fun hc52 => ?_)
          · exact absurd (nI_pos2 (by omega)) (Int32.not_le.mpr hc52)
          · (first | rw [show (0 : Int32) = nI 0 from rfl, nI_ltI (by omega) (by omega)] at hc52 | rw [show (0 : Int32) = nI 0 from rfl, nI_leI (by omega) (by omega)] at hc52 | skip)
            refine v_aload_0 dX12_terms_55 ?_
            refine u_getR dX12_terms_56 gf_X12_26 (by first | assumption | rfl | exact led_1 (by assumption) | exact led_2 (by assumption) | exact bk_m (by assumption) (by first | assumption | omega) | exact bk_p (by assumption) (by first | assumption | omega) | exact bk_o (by assumption) (by first | assumption | omega) | exact bk_s (by assumption) (by first | assumption | omega) | exact bk_1 (by assumption) | exact bk_2 (by assumption) | exact bk_3 (by assumption) | exact bk_4 (by assumption) | exact bk_5 (by assumption) | exact bk_6 (by assumption) | exact bk_7 (by assumption) | exact bk_8 (by assumption) | exact sh_ring _ (by first | assumption | omega) | exact sh_imgs _ (by first | assumption | omega)) (ro_X12_17 (by assumption)) ?_
            refine v_iconst (v := nI 1) dX12_terms_59 (by decide) ?_
            refine v_iconst (v := nI 4) dX12_terms_60 (by decide) ?_
            refine v_iload_3 dX12_terms_61 ?_
            refine v_imul dX12_terms_62 ?_
            refine v_iadd dX12_terms_63 ?_
            refine v_iconst (v := nI 3) dX12_terms_64 (by decide) ?_
            refine v_iadd dX12_terms_65 ?_
            refine u_iald dX12_terms_66 (by first | assumption | rfl | exact led_1 (by assumption) | exact led_2 (by assumption) | exact bk_m (by assumption) (by first | assumption | omega) | exact bk_p (by assumption) (by first | assumption | omega) | exact bk_o (by assumption) (by first | assumption | omega) | exact bk_s (by assumption) (by first | assumption | omega) | exact bk_1 (by assumption) | exact bk_2 (by assumption) | exact bk_3 (by assumption) | exact bk_4 (by assumption) | exact bk_5 (by assumption) | exact bk_6 (by assumption) | exact bk_7 (by assumption) | exact bk_8 (by assumption) | exact sh_ring _ (by first | assumption | omega) | exact sh_imgs _ (by first | assumption | omega)) (by first | with_reducible rfl | (simp only [nlit, nI_add, pk_mul]; with_reducible rfl) | rfl) (by first | assumption | omega) (by first | assumption | decide) ?_
            rw [hS.u hk (by omega)]
            refine v_aload_0 dX12_terms_67 ?_
            refine v_iload_2 dX12_terms_68 ?_
            refine v_iconst (v := nI 2) dX12_terms_69 (by decide) ?_
            refine u_callV_2 dX12_terms_70 ml_X12_319 mv_X12_own (by first | assumption | rfl | exact led_1 (by assumption) | exact led_2 (by assumption) | exact bk_m (by assumption) (by first | assumption | omega) | exact bk_p (by assumption) (by first | assumption | omega) | exact bk_o (by assumption) (by first | assumption | omega) | exact bk_s (by assumption) (by first | assumption | omega) | exact bk_1 (by assumption) | exact bk_2 (by assumption) | exact bk_3 (by assumption) | exact bk_4 (by assumption) | exact bk_5 (by assumption) | exact bk_6 (by assumption) | exact bk_7 (by assumption) | exact bk_8 (by assumption) | exact sh_ring _ (by first | assumption | omega) | exact sh_imgs _ (by first | assumption | omega)) (by decide) rfl (by decide) (Nat.le_of_ble_eq_true rfl) (c_X12_own (k := 58 + 6 * i) hR hr.1.1 (by omega) (by decide) (by omega) ?_)
            refine v_icmp_ne (tgt := 150) dX12_terms_73 (by decide) (fun hc73 => ?_) (fun hc73 => ?_)
            · (try rw [nI_eq (by omega) (by omega)] at hc73)
              refine v_iinc_2 (v := 1) rfl dX12_terms_150 (by decide) ?_
              rw [show nI i + 1 = nI (i + 1) from nI_1 i]
              refine v_goto (tgt := 21) dX12_terms_153 (by decide) ?_
              first
                | (rw [hb, decide_eq_false hc73, Bool.false_and, if_neg (by decide)] at he; exact ih (i + 1) a _ (by omega) ha he)
                | (rw [hb, show couldV F (some (s.2.1 k).2.1) i = false from hc105, Bool.and_false, if_neg (by decide)] at he; exact ih (i + 1) a _ (by omega) ha he)
                | (rw [hb, decide_eq_true hc73, show couldV F (some (s.2.1 k).2.1) i = true from hc105, if_pos (by decide), if_neg (by omega), if_pos (by omega)] at he; exact ih (i + 1) _ _ (by omega) (by omega) he)
                | (rw [hb, decide_eq_true hc73, show couldV F (some (s.2.1 k).2.1) i = true from hc105, if_pos (by decide), if_neg (by omega), if_neg (by omega)] at he; exact ih (i + 1) _ _ (by omega) (by omega) he)
            · (try rw [nI_eq (by omega) (by omega)] at hc73)
              refine v_aload_0 dX12_terms_76 ?_
              refine u_getR dX12_terms_77 gf_X12_20 (by first | assumption | rfl | exact led_1 (by assumption) | exact led_2 (by assumption) | exact bk_m (by assumption) (by first | assumption | omega) | exact bk_p (by assumption) (by first | assumption | omega) | exact bk_o (by assumption) (by first | assumption | omega) | exact bk_s (by assumption) (by first | assumption | omega) | exact bk_1 (by assumption) | exact bk_2 (by assumption) | exact bk_3 (by assumption) | exact bk_4 (by assumption) | exact bk_5 (by assumption) | exact bk_6 (by assumption) | exact bk_7 (by assumption) | exact bk_8 (by assumption) | exact sh_ring _ (by first | assumption | omega) | exact sh_imgs _ (by first | assumption | omega)) (ro_X12_15 (by assumption)) ?_
              refine v_bipush (v := nI 50) dX12_terms_80 (by decide) ?_
              refine v_aload_0 dX12_terms_82 ?_
              refine u_getR dX12_terms_83 gf_X12_26 (by first | assumption | rfl | exact led_1 (by assumption) | exact led_2 (by assumption) | exact bk_m (by assumption) (by first | assumption | omega) | exact bk_p (by assumption) (by first | assumption | omega) | exact bk_o (by assumption) (by first | assumption | omega) | exact bk_s (by assumption) (by first | assumption | omega) | exact bk_1 (by assumption) | exact bk_2 (by assumption) | exact bk_3 (by assumption) | exact bk_4 (by assumption) | exact bk_5 (by assumption) | exact bk_6 (by assumption) | exact bk_7 (by assumption) | exact bk_8 (by assumption) | exact sh_ring _ (by first | assumption | omega) | exact sh_imgs _ (by first | assumption | omega)) (ro_X12_17 (by assumption)) ?_
              refine v_iconst (v := nI 1) dX12_terms_86 (by decide) ?_
              refine v_iconst (v := nI 4) dX12_terms_87 (by decide) ?_
              refine v_iload_3 dX12_terms_88 ?_
              refine v_imul dX12_terms_89 ?_
              refine v_iadd dX12_terms_90 ?_
              refine v_iconst (v := nI 1) dX12_terms_91 (by decide) ?_
              refine v_iadd dX12_terms_92 ?_
              refine u_iald dX12_terms_93 (by first | assumption | rfl | exact led_1 (by assumption) | exact led_2 (by assumption) | exact bk_m (by assumption) (by first | assumption | omega) | exact bk_p (by assumption) (by first | assumption | omega) | exact bk_o (by assumption) (by first | assumption | omega) | exact bk_s (by assumption) (by first | assumption | omega) | exact bk_1 (by assumption) | exact bk_2 (by assumption) | exact bk_3 (by assumption) | exact bk_4 (by assumption) | exact bk_5 (by assumption) | exact bk_6 (by assumption) | exact bk_7 (by assumption) | exact bk_8 (by assumption) | exact sh_ring _ (by first | assumption | omega) | exact sh_imgs _ (by first | assumption | omega)) (by first | with_reducible rfl | (simp only [nlit, nI_add, pk_mul]; with_reducible rfl) | rfl) (by first | assumption | omega) (by first | assumption | decide) ?_
              rw [hS.p hk (by omega)]
              refine v_iadd dX12_terms_94 ?_
              refine u_iald dX12_terms_95 (by first | assumption | rfl | exact led_1 (by assumption) | exact led_2 (by assumption) | exact bk_m (by assumption) (by first | assumption | omega) | exact bk_p (by assumption) (by first | assumption | omega) | exact bk_o (by assumption) (by first | assumption | omega) | exact bk_s (by assumption) (by first | assumption | omega) | exact bk_1 (by assumption) | exact bk_2 (by assumption) | exact bk_3 (by assumption) | exact bk_4 (by assumption) | exact bk_5 (by assumption) | exact bk_6 (by assumption) | exact bk_7 (by assumption) | exact bk_8 (by assumption) | exact sh_ring _ (by first | assumption | omega) | exact sh_imgs _ (by first | assumption | omega)) (by first | with_reducible rfl | (simp only [nlit, nI_add, pk_mul]; with_reducible rfl) | rfl) (by first | assumption | omega) (by first | assumption | decide) ?_
              rw [hF _ (by omega)]
              refine v_aload_0 dX12_terms_96 ?_
              refine v_iload_2 dX12_terms_97 ?_
              refine v_iconst (v := nI 1) dX12_terms_98 (by decide) ?_
              refine u_callV_2 dX12_terms_99 ml_X12_319 mv_X12_own (by first | assumption | rfl | exact led_1 (by assumption) | exact led_2 (by assumption) | exact bk_m (by assumption) (by first | assumption | omega) | exact bk_p (by assumption) (by first | assumption | omega) | exact bk_o (by assumption) (by first | assumption | omega) | exact bk_s (by assumption) (by first | assumption | omega) | exact bk_1 (by assumption) | exact bk_2 (by assumption) | exact bk_3 (by assumption) | exact bk_4 (by assumption) | exact bk_5 (by assumption) | exact bk_6 (by assumption) | exact bk_7 (by assumption) | exact bk_8 (by assumption) | exact sh_ring _ (by first | assumption | omega) | exact sh_imgs _ (by first | assumption | omega)) (by decide) rfl (by decide) (Nat.le_of_ble_eq_true rfl) (c_X12_own (k := 57 + 6 * i) hR hr.1.1 (by omega) (by decide) (by omega) ?_)
              refine u_callS_2 dX12_terms_102 ml_X12_158 ms_X12_has (by decide) (Nat.le_of_ble_eq_true rfl) (c_X12_has (by omega) (by omega) ?_)
              refine v_if_ne (tgt := 111) dX12_terms_105 (by decide) (fun hc105 => ?_) (fun hc105 => ?_)
              · (first | rw [bI_0, Bool.not_eq_false] at hc105 | rw [bI_0] at hc105 | rw [show (0 : Int32) = nI 0 from rfl, nI_eq (by omega) (by omega)] at hc105 | skip)
                refine v_aload_0 dX12_terms_111 ?_
                refine v_iload_2 dX12_terms_112 ?_
                refine v_iconst (v := nI 5) dX12_terms_113 (by decide) ?_
                refine u_callV_2 dX12_terms_114 ml_X12_319 mv_X12_own (by first | assumption | rfl | exact led_1 (by assumption) | exact led_2 (by assumption) | exact bk_m (by assumption) (by first | assumption | omega) | exact bk_p (by assumption) (by first | assumption | omega) | exact bk_o (by assumption) (by first | assumption | omega) | exact bk_s (by assumption) (by first | assumption | omega) | exact bk_1 (by assumption) | exact bk_2 (by assumption) | exact bk_3 (by assumption) | exact bk_4 (by assumption) | exact bk_5 (by assumption) | exact bk_6 (by assumption) | exact bk_7 (by assumption) | exact bk_8 (by assumption) | exact sh_ring _ (by first | assumption | omega) | exact sh_imgs _ (by first | assumption | omega)) (by decide) rfl (by decide) (Nat.le_of_ble_eq_true rfl) (c_X12_own (k := 61 + 6 * i) hR hr.1.1 (by omega) (by decide) (by omega) ?_)
                refine v_aload_0 dX12_terms_117 ?_
                refine v_iload_2 dX12_terms_118 ?_
                refine v_iconst (v := nI 4) dX12_terms_119 (by decide) ?_
                refine u_callV_2 dX12_terms_120 ml_X12_319 mv_X12_own (by first | assumption | rfl | exact led_1 (by assumption) | exact led_2 (by assumption) | exact bk_m (by assumption) (by first | assumption | omega) | exact bk_p (by assumption) (by first | assumption | omega) | exact bk_o (by assumption) (by first | assumption | omega) | exact bk_s (by assumption) (by first | assumption | omega) | exact bk_1 (by assumption) | exact bk_2 (by assumption) | exact bk_3 (by assumption) | exact bk_4 (by assumption) | exact bk_5 (by assumption) | exact bk_6 (by assumption) | exact bk_7 (by assumption) | exact bk_8 (by assumption) | exact sh_ring _ (by first | assumption | omega) | exact sh_imgs _ (by first | assumption | omega)) (by decide) rfl (by decide) (Nat.le_of_ble_eq_true rfl) (c_X12_own (k := 60 + 6 * i) hR hr.1.1 (by omega) (by decide) (by omega) ?_)
                refine v_icmp_le (tgt := 129) dX12_terms_123 (by decide) (fun hc123 => ?_) (fun hc123 => ?_)
                · (try rw [nI_leI (by omega) (by omega)] at hc123)
                  refine v_aload_0 dX12_terms_129 ?_
                  refine v_iload_2 dX12_terms_130 ?_
                  refine v_iconst (v := nI 5) dX12_terms_131 (by decide) ?_
                  refine u_callV_2 dX12_terms_132 ml_X12_319 mv_X12_own (by first | assumption | rfl | exact led_1 (by assumption) | exact led_2 (by assumption) | exact bk_m (by assumption) (by first | assumption | omega) | exact bk_p (by assumption) (by first | assumption | omega) | exact bk_o (by assumption) (by first | assumption | omega) | exact bk_s (by assumption) (by first | assumption | omega) | exact bk_1 (by assumption) | exact bk_2 (by assumption) | exact bk_3 (by assumption) | exact bk_4 (by assumption) | exact bk_5 (by assumption) | exact bk_6 (by assumption) | exact bk_7 (by assumption) | exact bk_8 (by assumption) | exact sh_ring _ (by first | assumption | omega) | exact sh_imgs _ (by first | assumption | omega)) (by decide) rfl (by decide) (Nat.le_of_ble_eq_true rfl) (c_X12_own (k := 61 + 6 * i) hR hr.1.1 (by omega) (by decide) (by omega) ?_)
                  refine v_iload_1 dX12_terms_135 ?_
                  refine v_icmp_le (tgt := 148) dX12_terms_136 (by decide) (fun hc136 => ?_) (fun hc136 => ?_)
                  · (try rw [nI_leI (by omega) (by omega)] at hc136)
                    refine v_iload_1 dX12_terms_148 ?_
                    refine v_istore_1 rfl dX12_terms_149 ?_
                    refine v_iinc_2 (v := 1) rfl dX12_terms_150 (by decide) ?_
                    rw [show nI i + 1 = nI (i + 1) from nI_1 i]
                    refine v_goto (tgt := 21) dX12_terms_153 (by decide) ?_
                    first
                      | (rw [hb, decide_eq_false hc73, Bool.false_and, if_neg (by decide)] at he; exact ih (i + 1) a _ (by omega) ha he)
                      | (rw [hb, show couldV F (some (s.2.1 k).2.1) i = false from hc105, Bool.and_false, if_neg (by decide)] at he; exact ih (i + 1) a _ (by omega) ha he)
                      | (rw [hb, decide_eq_true hc73, show couldV F (some (s.2.1 k).2.1) i = true from hc105, if_pos (by decide), if_neg (by omega), if_pos (by omega)] at he; exact ih (i + 1) _ _ (by omega) (by omega) he)
                      | (rw [hb, decide_eq_true hc73, show couldV F (some (s.2.1 k).2.1) i = true from hc105, if_pos (by decide), if_neg (by omega), if_neg (by omega)] at he; exact ih (i + 1) _ _ (by omega) (by omega) he)
                  · (try rw [nI_leI (by omega) (by omega)] at hc136)
                    refine v_aload_0 dX12_terms_139 ?_
                    refine v_iload_2 dX12_terms_140 ?_
                    refine v_iconst (v := nI 5) dX12_terms_141 (by decide) ?_
                    refine u_callV_2 dX12_terms_142 ml_X12_319 mv_X12_own (by first | assumption | rfl | exact led_1 (by assumption) | exact led_2 (by assumption) | exact bk_m (by assumption) (by first | assumption | omega) | exact bk_p (by assumption) (by first | assumption | omega) | exact bk_o (by assumption) (by first | assumption | omega) | exact bk_s (by assumption) (by first | assumption | omega) | exact bk_1 (by assumption) | exact bk_2 (by assumption) | exact bk_3 (by assumption) | exact bk_4 (by assumption) | exact bk_5 (by assumption) | exact bk_6 (by assumption) | exact bk_7 (by assumption) | exact bk_8 (by assumption) | exact sh_ring _ (by first | assumption | omega) | exact sh_imgs _ (by first | assumption | omega)) (by decide) rfl (by decide) (Nat.le_of_ble_eq_true rfl) (c_X12_own (k := 61 + 6 * i) hR hr.1.1 (by omega) (by decide) (by omega) ?_)
                    refine v_goto (tgt := 149) dX12_terms_145 (by decide) ?_
                    refine v_istore_1 rfl dX12_terms_149 ?_
                    refine v_iinc_2 (v := 1) rfl dX12_terms_150 (by decide) ?_
                    rw [show nI i + 1 = nI (i + 1) from nI_1 i]
                    refine v_goto (tgt := 21) dX12_terms_153 (by decide) ?_
                    first
                      | (rw [hb, decide_eq_false hc73, Bool.false_and, if_neg (by decide)] at he; exact ih (i + 1) a _ (by omega) ha he)
                      | (rw [hb, show couldV F (some (s.2.1 k).2.1) i = false from hc105, Bool.and_false, if_neg (by decide)] at he; exact ih (i + 1) a _ (by omega) ha he)
                      | (rw [hb, decide_eq_true hc73, show couldV F (some (s.2.1 k).2.1) i = true from hc105, if_pos (by decide), if_neg (by omega), if_pos (by omega)] at he; exact ih (i + 1) _ _ (by omega) (by omega) he)
                      | (rw [hb, decide_eq_true hc73, show couldV F (some (s.2.1 k).2.1) i = true from hc105, if_pos (by decide), if_neg (by omega), if_neg (by omega)] at he; exact ih (i + 1) _ _ (by omega) (by omega) he)
                · (try rw [nI_leI (by omega) (by omega)] at hc123)
                  refine v_bipush (v := -2) dX12_terms_126 (by decide) ?_
                  refine v_iret dX12_terms_128 rfl rfl rfl rfl ?_
                  rw [hb, decide_eq_true hc73, show couldV F (some (s.2.1 k).2.1) i = true from hc105, if_pos (by decide), if_pos (by omega)] at he
                  rw [← he] at hQ
                  exact hQ
              · (first | rw [bI_0, Bool.not_eq_false] at hc105 | rw [bI_0] at hc105 | rw [show (0 : Int32) = nI 0 from rfl, nI_eq (by omega) (by omega)] at hc105 | skip)
                refine v_goto (tgt := 150) dX12_terms_108 (by decide) ?_
                refine v_iinc_2 (v := 1) rfl dX12_terms_150 (by decide) ?_
                rw [show nI i + 1 = nI (i + 1) from nI_1 i]
                refine v_goto (tgt := 21) dX12_terms_153 (by decide) ?_
                first
                  | (rw [hb, decide_eq_false hc73, Bool.false_and, if_neg (by decide)] at he; exact ih (i + 1) a _ (by omega) ha he)
                  | (rw [hb, show couldV F (some (s.2.1 k).2.1) i = false from hc105, Bool.and_false, if_neg (by decide)] at he; exact ih (i + 1) a _ (by omega) ha he)
                  | (rw [hb, decide_eq_true hc73, show couldV F (some (s.2.1 k).2.1) i = true from hc105, if_pos (by decide), if_neg (by omega), if_pos (by omega)] at he; exact ih (i + 1) _ _ (by omega) (by omega) he)
                  | (rw [hb, decide_eq_true hc73, show couldV F (some (s.2.1 k).2.1) i = true from hc105, if_pos (by decide), if_neg (by omega), if_neg (by omega)] at he; exact ih (i + 1) _ _ (by omega) (by omega) he)
  exact loop (F 4) 0 0 w (by omega) (by decide) rfl
end
section
variable {b : Nat} {ad : Nat → Nat} {I J : HI} {L M : HL} {R : HR} {Q : QT} {tp : Nat → Nat} {nt tr fa pl : Nat} {F : bkF} {S : Nat → LSt} {u r : Nat} {im : Nat → LSt} {ic : Nat}
theorem r_terms  (hR : RO R) (h : RefB I tp nt tr fa pl F S u r im ic) (hQ : YQ I L R tp nt (t_terms F (S 0) ) fa pl F S u r im ic (a_terms F (S 0) ) Q) : KK 8 mX12_terms b ad [.ref (b + 157)] I L R Q := by
  have hO := h.2.2.1.1.2.2.1
  have o0 := hO.1
  have o1 := hO.2.1
  have o2 := hO.2.2.1
  have o3 := hO.2.2.2.1
  have o4 := hO.2.2.2.2.1
  have o5 := hO.2.2.2.2.2.1
  have o6 := hO.2.2.2.2.2.2.1
  have hK := h.2.2.1.2.2
  have hn20 := hK.1
  have hok : ∀ i, i < (S 0).1 → ok4 ((S 0).2.1 i) := fun i hi => (hK.2.1 i hi).1
  refine K.of (M := mX12_terms) (lv := [some (.ref (b + 157)), none, none, none]) (by decide) (Nat.le_of_ble_eq_true rfl) rfl ?_
  refine v_aload_0 dX12_terms_0 ?_
  refine u_callV_0 dX12_terms_1 ml_X12_173 mv_X12_good (by first | assumption | rfl | exact led_1 (by assumption) | exact led_2 (by assumption) | exact bk_m (by assumption) (by first | assumption | omega) | exact bk_p (by assumption) (by first | assumption | omega) | exact bk_o (by assumption) (by first | assumption | omega) | exact bk_s (by assumption) (by first | assumption | omega) | exact bk_1 (by assumption) | exact bk_2 (by assumption) | exact bk_3 (by assumption) | exact bk_4 (by assumption) | exact bk_5 (by assumption) | exact bk_6 (by assumption) | exact bk_7 (by assumption) | exact bk_8 (by assumption) | exact sh_ring _ (by first | assumption | omega) | exact sh_imgs _ (by first | assumption | omega)) (by decide) rfl (by decide) (Nat.le_of_ble_eq_true rfl) (c_X12_good ?_)
  have h := rf_good h
  have hr : RfI _ F (S 0) := h.2.2.1
  have hS := hr.2.1
  refine v_aload_0 dX12_terms_4 ?_
  refine u_getI dX12_terms_5 gf_X12_186 (by first | assumption | rfl | exact led_1 (by assumption) | exact led_2 (by assumption) | exact bk_m (by assumption) (by first | assumption | omega) | exact bk_p (by assumption) (by first | assumption | omega) | exact bk_o (by assumption) (by first | assumption | omega) | exact bk_s (by assumption) (by first | assumption | omega) | exact bk_1 (by assumption) | exact bk_2 (by assumption) | exact bk_3 (by assumption) | exact bk_4 (by assumption) | exact bk_5 (by assumption) | exact bk_6 (by assumption) | exact bk_7 (by assumption) | exact bk_8 (by assumption) | exact sh_ring _ (by first | assumption | omega) | exact sh_imgs _ (by first | assumption | omega)) ?_
  rw [show _ = bI (decide (0 < F 0)) from hr.1.2.1]
  refine v_if_ne (tgt := 17) dX12_terms_8 (by decide) (fun hc8 => ?_) (fun hc8 => ?_)
  · (first | rw [bI_0, Bool.not_eq_false] at hc8 | rw [bI_0] at hc8 | rw [show (0 : Int32) = nI 0 from rfl, nI_eq (by omega) (by omega)] at hc8 | skip)
    refine v_iconst (v := nI 0) dX12_terms_17 (by decide) ?_
    refine v_istore_1 rfl dX12_terms_18 ?_
    refine v_iconst (v := nI 0) dX12_terms_19 (by decide) ?_
    refine v_istore_2 rfl dX12_terms_20 ?_
    refine l_terms (s := S 0) hR hr ?_
    exact hQ.fin h (fun x hx => by simp only [ui_ne (show x ≠ 157 by omega)]) (fun _ _ => rfl) (by rw [t_terms, show decide (0 < F 0) = true from hc8]; rfl) (by rw [a_terms, show decide (0 < F 0) = true from hc8]; rfl)
  · (first | rw [bI_0, Bool.not_eq_false] at hc8 | rw [bI_0] at hc8 | rw [show (0 : Int32) = nI 0 from rfl, nI_eq (by omega) (by omega)] at hc8 | skip)
    refine v_aload_0 dX12_terms_11 ?_
    refine v_iconst (v := nI 1) dX12_terms_12 (by decide) ?_
    refine u_callV_1 dX12_terms_13 ml_X12_176 mv_X12_no (by first | assumption | rfl | exact led_1 (by assumption) | exact led_2 (by assumption) | exact bk_m (by assumption) (by first | assumption | omega) | exact bk_p (by assumption) (by first | assumption | omega) | exact bk_o (by assumption) (by first | assumption | omega) | exact bk_s (by assumption) (by first | assumption | omega) | exact bk_1 (by assumption) | exact bk_2 (by assumption) | exact bk_3 (by assumption) | exact bk_4 (by assumption) | exact bk_5 (by assumption) | exact bk_6 (by assumption) | exact bk_7 (by assumption) | exact bk_8 (by assumption) | exact sh_ring _ (by first | assumption | omega) | exact sh_imgs _ (by first | assumption | omega)) (by decide) rfl (by decide) (Nat.le_of_ble_eq_true rfl) (c_X12_no (k := 1) ?_)
    refine v_iret dX12_terms_16 rfl rfl rfl rfl ?_
    exact hQ.fin (rf_tr h (by decide)) (fun x hx => by simp only [ui_ne (show x ≠ 157 by omega)]) (fun _ _ => rfl) (by rw [t_terms, show decide (0 < F 0) = false from hc8]; rfl) (by rw [a_terms, show decide (0 < F 0) = false from hc8]; rfl)
theorem r_size {x : Int32} (hR : RO R) (h : RefB I tp nt tr fa pl F S u r im ic) (hQ : YQ I L R tp nt tr fa pl F S u r im ic (a_size F (S 0) u r ic nt x) Q) : KK 8 mX12_size b ad [.ref (b + 157), .int x] I L R Q := by
  have hO := h.2.2.1.1.2.2.1
  have o0 := hO.1
  have o1 := hO.2.1
  have o2 := hO.2.2.1
  have o3 := hO.2.2.2.1
  have o4 := hO.2.2.2.2.1
  have o5 := hO.2.2.2.2.2.1
  have o6 := hO.2.2.2.2.2.2.1
  have hK := h.2.2.1.2.2
  have hn20 := hK.1
  have hok : ∀ i, i < (S 0).1 → ok4 ((S 0).2.1 i) := fun i hi => (hK.2.1 i hi).1
  have h1 := rf_th (v := nI 0) h
  have hr : RfI _ F (S 0) := h1.2.2.1
  have hF := hr.1.1.2
  have h6 := h.2.2.2.2.2
  have h7 := hr.1.2.2.2
  have none0 : decide (0 < F 0) = false → F 0 = 0 ∧ (F 1 = 0 ∧ F 2 = 0 ∧ F 3 = 0 ∧ F 4 = 0 ∧ F 5 = 0 ∧ F 6 = 0) ∧ (u = 0 ∧ r = 0 ∧ ic = 0) ∧ (S 0).1 = 0 := fun q => by
    have q := of_decide_eq_false q
    exact ⟨by omega, h7 (by omega), h6 (by omega), no_lend hK q⟩
  refine K.of (M := mX12_size) (lv := [some (.ref (b + 157)), some (.int x)]) (by decide) (Nat.le_of_ble_eq_true rfl) rfl ?_
  by_cases hk0 : inb x 12 = true
  · obtain ⟨k, rfl, hk⟩ := inb_ex (by decide) hk0
    have ek : tN (nI k) = k := tN_nI (by omega)
    have hk2 : k = 0 ∨ k = 1 ∨ k = 2 ∨ k = 3 ∨ k = 4 ∨ k = 5 ∨ k = 6 ∨ k = 7 ∨ k = 8 ∨ k = 9 ∨ k = 10 ∨ k = 11 := by omega
    rcases hk2 with rfl | rfl | rfl | rfl | rfl | rfl | rfl | rfl | rfl | rfl | rfl | rfl
    · refine v_aload_0 dX12_size_0 ?_
      refine v_iconst (v := nI 0) dX12_size_1 (by decide) ?_
      refine u_putI dX12_size_2 gf_X12_54 (by first | assumption | rfl | exact led_1 (by assumption) | exact led_2 (by assumption) | exact bk_m (by assumption) (by first | assumption | omega) | exact bk_p (by assumption) (by first | assumption | omega) | exact bk_o (by assumption) (by first | assumption | omega) | exact bk_s (by assumption) (by first | assumption | omega) | exact bk_1 (by assumption) | exact bk_2 (by assumption) | exact bk_3 (by assumption) | exact bk_4 (by assumption) | exact bk_5 (by assumption) | exact bk_6 (by assumption) | exact bk_7 (by assumption) | exact bk_8 (by assumption) | exact sh_ring _ (by first | assumption | omega) | exact sh_imgs _ (by first | assumption | omega)) rfl rfl rfl ?_
      refine v_iload_1 dX12_size_5 ?_
      refine v_bipush (v := nI 11) dX12_size_6 (by decide) ?_
      refine v_icmp_ne (tgt := 16) dX12_size_8 (by decide) (fun hc8 => ?_) (fun hc8 => ?_)
      · (try rw [nI_eq (by omega) (by omega)] at hc8)
        refine v_aload_0 dX12_size_16 ?_
        refine u_getI dX12_size_17 gf_X12_186 (by first | assumption | rfl | exact led_1 (by assumption) | exact led_2 (by assumption) | exact bk_m (by assumption) (by first | assumption | omega) | exact bk_p (by assumption) (by first | assumption | omega) | exact bk_o (by assumption) (by first | assumption | omega) | exact bk_s (by assumption) (by first | assumption | omega) | exact bk_1 (by assumption) | exact bk_2 (by assumption) | exact bk_3 (by assumption) | exact bk_4 (by assumption) | exact bk_5 (by assumption) | exact bk_6 (by assumption) | exact bk_7 (by assumption) | exact bk_8 (by assumption) | exact sh_ring _ (by first | assumption | omega) | exact sh_imgs _ (by first | assumption | omega)) ?_
        rw [hr.1.2.1]
        refine v_if_ne (tgt := 39) dX12_size_20 (by decide) (fun hc20 => ?_) (fun hc20 => ?_)
        · (first | rw [bI_0, Bool.not_eq_false] at hc20 | rw [bI_0] at hc20 | rw [show (0 : Int32) = nI 0 from rfl, nI_eq (by omega) (by omega)] at hc20 | skip)
          refine v_iload_1 dX12_size_39 ?_
          refine v_tableIn (off := 60) (tgt := 100) dX12_size_40 (by decide) (by decide) rfl (by decide) ?_
          refine v_aload_0 dX12_size_100 ?_
          refine u_getR dX12_size_101 gf_X12_20 (by first | assumption | rfl | exact led_1 (by assumption) | exact led_2 (by assumption) | exact bk_m (by assumption) (by first | assumption | omega) | exact bk_p (by assumption) (by first | assumption | omega) | exact bk_o (by assumption) (by first | assumption | omega) | exact bk_s (by assumption) (by first | assumption | omega) | exact bk_1 (by assumption) | exact bk_2 (by assumption) | exact bk_3 (by assumption) | exact bk_4 (by assumption) | exact bk_5 (by assumption) | exact bk_6 (by assumption) | exact bk_7 (by assumption) | exact bk_8 (by assumption) | exact sh_ring _ (by first | assumption | omega) | exact sh_imgs _ (by first | assumption | omega)) (ro_X12_15 (by assumption)) ?_
          refine v_iconst (v := nI 2) dX12_size_104 (by decide) ?_
          refine u_iald dX12_size_105 (by first | assumption | rfl | exact led_1 (by assumption) | exact led_2 (by assumption) | exact bk_m (by assumption) (by first | assumption | omega) | exact bk_p (by assumption) (by first | assumption | omega) | exact bk_o (by assumption) (by first | assumption | omega) | exact bk_s (by assumption) (by first | assumption | omega) | exact bk_1 (by assumption) | exact bk_2 (by assumption) | exact bk_3 (by assumption) | exact bk_4 (by assumption) | exact bk_5 (by assumption) | exact bk_6 (by assumption) | exact bk_7 (by assumption) | exact bk_8 (by assumption) | exact sh_ring _ (by first | assumption | omega) | exact sh_imgs _ (by first | assumption | omega)) (by first | with_reducible rfl | (simp only [nlit, nI_add, pk_mul]; with_reducible rfl) | rfl) (by first | assumption | omega) (by first | assumption | decide) ?_
          rw [hF 2 (by decide)]
          refine v_iret dX12_size_106 rfl rfl rfl rfl ?_
          exact hQ.fin h1 (fun x hx => by simp only [ui_ne (show x ≠ 157 by omega)]) (fun _ _ => rfl) rfl (by rw [a_size, if_pos hk0, ek] <;> rfl)
        · (first | rw [bI_0, Bool.not_eq_false] at hc20 | rw [bI_0] at hc20 | rw [show (0 : Int32) = nI 0 from rfl, nI_eq (by omega) (by omega)] at hc20 | skip)
          refine v_iload_1 dX12_size_23 ?_
          refine v_iconst (v := nI 0) dX12_size_24 (by decide) ?_
          refine v_bipush (v := nI 10) dX12_size_25 (by decide) ?_
          refine u_callS_3 dX12_size_27 ml_X12_154 ms_X12_within (by decide) (Nat.le_of_ble_eq_true rfl) (c_X12_within ?_)
          refine v_if_eq (tgt := 37) dX12_size_30 (by decide) (fun hc30 => ?_) (fun hc30 => ?_)
          · exact absurd hc30 (by decide)
          · (first | rw [bI_0, Bool.not_eq_false] at hc30 | rw [bI_0] at hc30 | rw [show (0 : Int32) = nI 0 from rfl, nI_eq (by omega) (by omega)] at hc30 | skip)
            refine v_iconst (v := nI 0) dX12_size_33 (by decide) ?_
            refine v_goto (tgt := 38) dX12_size_34 (by decide) ?_
            refine v_iret dX12_size_38 rfl rfl rfl rfl ?_
            have n0 := none0 hc20
            exact hQ.fin h1 (fun x hx => by simp only [ui_ne (show x ≠ 157 by omega)]) (fun _ _ => rfl) rfl (by rw [a_size, if_pos hk0, ek]; simp only [szf]; first | rw [n0.1] | rw [n0.2.1.1] | rw [n0.2.1.2.1] | rw [n0.2.1.2.2.1] | rw [n0.2.1.2.2.2.1] | rw [n0.2.1.2.2.2.2.1] | rw [n0.2.1.2.2.2.2.2] | rw [n0.2.2.1.1] | rw [n0.2.2.1.2.1] | rw [n0.2.2.1.2.2] | rw [n0.2.2.2])
      · exact absurd hc8 (by decide)
    · refine v_aload_0 dX12_size_0 ?_
      refine v_iconst (v := nI 0) dX12_size_1 (by decide) ?_
      refine u_putI dX12_size_2 gf_X12_54 (by first | assumption | rfl | exact led_1 (by assumption) | exact led_2 (by assumption) | exact bk_m (by assumption) (by first | assumption | omega) | exact bk_p (by assumption) (by first | assumption | omega) | exact bk_o (by assumption) (by first | assumption | omega) | exact bk_s (by assumption) (by first | assumption | omega) | exact bk_1 (by assumption) | exact bk_2 (by assumption) | exact bk_3 (by assumption) | exact bk_4 (by assumption) | exact bk_5 (by assumption) | exact bk_6 (by assumption) | exact bk_7 (by assumption) | exact bk_8 (by assumption) | exact sh_ring _ (by first | assumption | omega) | exact sh_imgs _ (by first | assumption | omega)) rfl rfl rfl ?_
      refine v_iload_1 dX12_size_5 ?_
      refine v_bipush (v := nI 11) dX12_size_6 (by decide) ?_
      refine v_icmp_ne (tgt := 16) dX12_size_8 (by decide) (fun hc8 => ?_) (fun hc8 => ?_)
      · (try rw [nI_eq (by omega) (by omega)] at hc8)
        refine v_aload_0 dX12_size_16 ?_
        refine u_getI dX12_size_17 gf_X12_186 (by first | assumption | rfl | exact led_1 (by assumption) | exact led_2 (by assumption) | exact bk_m (by assumption) (by first | assumption | omega) | exact bk_p (by assumption) (by first | assumption | omega) | exact bk_o (by assumption) (by first | assumption | omega) | exact bk_s (by assumption) (by first | assumption | omega) | exact bk_1 (by assumption) | exact bk_2 (by assumption) | exact bk_3 (by assumption) | exact bk_4 (by assumption) | exact bk_5 (by assumption) | exact bk_6 (by assumption) | exact bk_7 (by assumption) | exact bk_8 (by assumption) | exact sh_ring _ (by first | assumption | omega) | exact sh_imgs _ (by first | assumption | omega)) ?_
        rw [hr.1.2.1]
        refine v_if_ne (tgt := 39) dX12_size_20 (by decide) (fun hc20 => ?_) (fun hc20 => ?_)
        · (first | rw [bI_0, Bool.not_eq_false] at hc20 | rw [bI_0] at hc20 | rw [show (0 : Int32) = nI 0 from rfl, nI_eq (by omega) (by omega)] at hc20 | skip)
          refine v_iload_1 dX12_size_39 ?_
          refine v_tableIn (off := 67) (tgt := 107) dX12_size_40 (by decide) (by decide) rfl (by decide) ?_
          refine v_aload_0 dX12_size_107 ?_
          refine u_getR dX12_size_108 gf_X12_20 (by first | assumption | rfl | exact led_1 (by assumption) | exact led_2 (by assumption) | exact bk_m (by assumption) (by first | assumption | omega) | exact bk_p (by assumption) (by first | assumption | omega) | exact bk_o (by assumption) (by first | assumption | omega) | exact bk_s (by assumption) (by first | assumption | omega) | exact bk_1 (by assumption) | exact bk_2 (by assumption) | exact bk_3 (by assumption) | exact bk_4 (by assumption) | exact bk_5 (by assumption) | exact bk_6 (by assumption) | exact bk_7 (by assumption) | exact bk_8 (by assumption) | exact sh_ring _ (by first | assumption | omega) | exact sh_imgs _ (by first | assumption | omega)) (ro_X12_15 (by assumption)) ?_
          refine v_iconst (v := nI 3) dX12_size_111 (by decide) ?_
          refine u_iald dX12_size_112 (by first | assumption | rfl | exact led_1 (by assumption) | exact led_2 (by assumption) | exact bk_m (by assumption) (by first | assumption | omega) | exact bk_p (by assumption) (by first | assumption | omega) | exact bk_o (by assumption) (by first | assumption | omega) | exact bk_s (by assumption) (by first | assumption | omega) | exact bk_1 (by assumption) | exact bk_2 (by assumption) | exact bk_3 (by assumption) | exact bk_4 (by assumption) | exact bk_5 (by assumption) | exact bk_6 (by assumption) | exact bk_7 (by assumption) | exact bk_8 (by assumption) | exact sh_ring _ (by first | assumption | omega) | exact sh_imgs _ (by first | assumption | omega)) (by first | with_reducible rfl | (simp only [nlit, nI_add, pk_mul]; with_reducible rfl) | rfl) (by first | assumption | omega) (by first | assumption | decide) ?_
          rw [hF 3 (by decide)]
          refine v_iret dX12_size_113 rfl rfl rfl rfl ?_
          exact hQ.fin h1 (fun x hx => by simp only [ui_ne (show x ≠ 157 by omega)]) (fun _ _ => rfl) rfl (by rw [a_size, if_pos hk0, ek] <;> rfl)
        · (first | rw [bI_0, Bool.not_eq_false] at hc20 | rw [bI_0] at hc20 | rw [show (0 : Int32) = nI 0 from rfl, nI_eq (by omega) (by omega)] at hc20 | skip)
          refine v_iload_1 dX12_size_23 ?_
          refine v_iconst (v := nI 0) dX12_size_24 (by decide) ?_
          refine v_bipush (v := nI 10) dX12_size_25 (by decide) ?_
          refine u_callS_3 dX12_size_27 ml_X12_154 ms_X12_within (by decide) (Nat.le_of_ble_eq_true rfl) (c_X12_within ?_)
          refine v_if_eq (tgt := 37) dX12_size_30 (by decide) (fun hc30 => ?_) (fun hc30 => ?_)
          · exact absurd hc30 (by decide)
          · (first | rw [bI_0, Bool.not_eq_false] at hc30 | rw [bI_0] at hc30 | rw [show (0 : Int32) = nI 0 from rfl, nI_eq (by omega) (by omega)] at hc30 | skip)
            refine v_iconst (v := nI 0) dX12_size_33 (by decide) ?_
            refine v_goto (tgt := 38) dX12_size_34 (by decide) ?_
            refine v_iret dX12_size_38 rfl rfl rfl rfl ?_
            have n0 := none0 hc20
            exact hQ.fin h1 (fun x hx => by simp only [ui_ne (show x ≠ 157 by omega)]) (fun _ _ => rfl) rfl (by rw [a_size, if_pos hk0, ek]; simp only [szf]; first | rw [n0.1] | rw [n0.2.1.1] | rw [n0.2.1.2.1] | rw [n0.2.1.2.2.1] | rw [n0.2.1.2.2.2.1] | rw [n0.2.1.2.2.2.2.1] | rw [n0.2.1.2.2.2.2.2] | rw [n0.2.2.1.1] | rw [n0.2.2.1.2.1] | rw [n0.2.2.1.2.2] | rw [n0.2.2.2])
      · exact absurd hc8 (by decide)
    · refine v_aload_0 dX12_size_0 ?_
      refine v_iconst (v := nI 0) dX12_size_1 (by decide) ?_
      refine u_putI dX12_size_2 gf_X12_54 (by first | assumption | rfl | exact led_1 (by assumption) | exact led_2 (by assumption) | exact bk_m (by assumption) (by first | assumption | omega) | exact bk_p (by assumption) (by first | assumption | omega) | exact bk_o (by assumption) (by first | assumption | omega) | exact bk_s (by assumption) (by first | assumption | omega) | exact bk_1 (by assumption) | exact bk_2 (by assumption) | exact bk_3 (by assumption) | exact bk_4 (by assumption) | exact bk_5 (by assumption) | exact bk_6 (by assumption) | exact bk_7 (by assumption) | exact bk_8 (by assumption) | exact sh_ring _ (by first | assumption | omega) | exact sh_imgs _ (by first | assumption | omega)) rfl rfl rfl ?_
      refine v_iload_1 dX12_size_5 ?_
      refine v_bipush (v := nI 11) dX12_size_6 (by decide) ?_
      refine v_icmp_ne (tgt := 16) dX12_size_8 (by decide) (fun hc8 => ?_) (fun hc8 => ?_)
      · (try rw [nI_eq (by omega) (by omega)] at hc8)
        refine v_aload_0 dX12_size_16 ?_
        refine u_getI dX12_size_17 gf_X12_186 (by first | assumption | rfl | exact led_1 (by assumption) | exact led_2 (by assumption) | exact bk_m (by assumption) (by first | assumption | omega) | exact bk_p (by assumption) (by first | assumption | omega) | exact bk_o (by assumption) (by first | assumption | omega) | exact bk_s (by assumption) (by first | assumption | omega) | exact bk_1 (by assumption) | exact bk_2 (by assumption) | exact bk_3 (by assumption) | exact bk_4 (by assumption) | exact bk_5 (by assumption) | exact bk_6 (by assumption) | exact bk_7 (by assumption) | exact bk_8 (by assumption) | exact sh_ring _ (by first | assumption | omega) | exact sh_imgs _ (by first | assumption | omega)) ?_
        rw [hr.1.2.1]
        refine v_if_ne (tgt := 39) dX12_size_20 (by decide) (fun hc20 => ?_) (fun hc20 => ?_)
        · (first | rw [bI_0, Bool.not_eq_false] at hc20 | rw [bI_0] at hc20 | rw [show (0 : Int32) = nI 0 from rfl, nI_eq (by omega) (by omega)] at hc20 | skip)
          refine v_iload_1 dX12_size_39 ?_
          refine v_tableIn (off := 74) (tgt := 114) dX12_size_40 (by decide) (by decide) rfl (by decide) ?_
          refine v_aload_0 dX12_size_114 ?_
          refine u_getR dX12_size_115 gf_X12_20 (by first | assumption | rfl | exact led_1 (by assumption) | exact led_2 (by assumption) | exact bk_m (by assumption) (by first | assumption | omega) | exact bk_p (by assumption) (by first | assumption | omega) | exact bk_o (by assumption) (by first | assumption | omega) | exact bk_s (by assumption) (by first | assumption | omega) | exact bk_1 (by assumption) | exact bk_2 (by assumption) | exact bk_3 (by assumption) | exact bk_4 (by assumption) | exact bk_5 (by assumption) | exact bk_6 (by assumption) | exact bk_7 (by assumption) | exact bk_8 (by assumption) | exact sh_ring _ (by first | assumption | omega) | exact sh_imgs _ (by first | assumption | omega)) (ro_X12_15 (by assumption)) ?_
          refine v_iconst (v := nI 1) dX12_size_118 (by decide) ?_
          refine u_iald dX12_size_119 (by first | assumption | rfl | exact led_1 (by assumption) | exact led_2 (by assumption) | exact bk_m (by assumption) (by first | assumption | omega) | exact bk_p (by assumption) (by first | assumption | omega) | exact bk_o (by assumption) (by first | assumption | omega) | exact bk_s (by assumption) (by first | assumption | omega) | exact bk_1 (by assumption) | exact bk_2 (by assumption) | exact bk_3 (by assumption) | exact bk_4 (by assumption) | exact bk_5 (by assumption) | exact bk_6 (by assumption) | exact bk_7 (by assumption) | exact bk_8 (by assumption) | exact sh_ring _ (by first | assumption | omega) | exact sh_imgs _ (by first | assumption | omega)) (by first | with_reducible rfl | (simp only [nlit, nI_add, pk_mul]; with_reducible rfl) | rfl) (by first | assumption | omega) (by first | assumption | decide) ?_
          rw [hF 1 (by decide)]
          refine v_iret dX12_size_120 rfl rfl rfl rfl ?_
          exact hQ.fin h1 (fun x hx => by simp only [ui_ne (show x ≠ 157 by omega)]) (fun _ _ => rfl) rfl (by rw [a_size, if_pos hk0, ek] <;> rfl)
        · (first | rw [bI_0, Bool.not_eq_false] at hc20 | rw [bI_0] at hc20 | rw [show (0 : Int32) = nI 0 from rfl, nI_eq (by omega) (by omega)] at hc20 | skip)
          refine v_iload_1 dX12_size_23 ?_
          refine v_iconst (v := nI 0) dX12_size_24 (by decide) ?_
          refine v_bipush (v := nI 10) dX12_size_25 (by decide) ?_
          refine u_callS_3 dX12_size_27 ml_X12_154 ms_X12_within (by decide) (Nat.le_of_ble_eq_true rfl) (c_X12_within ?_)
          refine v_if_eq (tgt := 37) dX12_size_30 (by decide) (fun hc30 => ?_) (fun hc30 => ?_)
          · exact absurd hc30 (by decide)
          · (first | rw [bI_0, Bool.not_eq_false] at hc30 | rw [bI_0] at hc30 | rw [show (0 : Int32) = nI 0 from rfl, nI_eq (by omega) (by omega)] at hc30 | skip)
            refine v_iconst (v := nI 0) dX12_size_33 (by decide) ?_
            refine v_goto (tgt := 38) dX12_size_34 (by decide) ?_
            refine v_iret dX12_size_38 rfl rfl rfl rfl ?_
            have n0 := none0 hc20
            exact hQ.fin h1 (fun x hx => by simp only [ui_ne (show x ≠ 157 by omega)]) (fun _ _ => rfl) rfl (by rw [a_size, if_pos hk0, ek]; simp only [szf]; first | rw [n0.1] | rw [n0.2.1.1] | rw [n0.2.1.2.1] | rw [n0.2.1.2.2.1] | rw [n0.2.1.2.2.2.1] | rw [n0.2.1.2.2.2.2.1] | rw [n0.2.1.2.2.2.2.2] | rw [n0.2.2.1.1] | rw [n0.2.2.1.2.1] | rw [n0.2.2.1.2.2] | rw [n0.2.2.2])
      · exact absurd hc8 (by decide)
    · refine v_aload_0 dX12_size_0 ?_
      refine v_iconst (v := nI 0) dX12_size_1 (by decide) ?_
      refine u_putI dX12_size_2 gf_X12_54 (by first | assumption | rfl | exact led_1 (by assumption) | exact led_2 (by assumption) | exact bk_m (by assumption) (by first | assumption | omega) | exact bk_p (by assumption) (by first | assumption | omega) | exact bk_o (by assumption) (by first | assumption | omega) | exact bk_s (by assumption) (by first | assumption | omega) | exact bk_1 (by assumption) | exact bk_2 (by assumption) | exact bk_3 (by assumption) | exact bk_4 (by assumption) | exact bk_5 (by assumption) | exact bk_6 (by assumption) | exact bk_7 (by assumption) | exact bk_8 (by assumption) | exact sh_ring _ (by first | assumption | omega) | exact sh_imgs _ (by first | assumption | omega)) rfl rfl rfl ?_
      refine v_iload_1 dX12_size_5 ?_
      refine v_bipush (v := nI 11) dX12_size_6 (by decide) ?_
      refine v_icmp_ne (tgt := 16) dX12_size_8 (by decide) (fun hc8 => ?_) (fun hc8 => ?_)
      · (try rw [nI_eq (by omega) (by omega)] at hc8)
        refine v_aload_0 dX12_size_16 ?_
        refine u_getI dX12_size_17 gf_X12_186 (by first | assumption | rfl | exact led_1 (by assumption) | exact led_2 (by assumption) | exact bk_m (by assumption) (by first | assumption | omega) | exact bk_p (by assumption) (by first | assumption | omega) | exact bk_o (by assumption) (by first | assumption | omega) | exact bk_s (by assumption) (by first | assumption | omega) | exact bk_1 (by assumption) | exact bk_2 (by assumption) | exact bk_3 (by assumption) | exact bk_4 (by assumption) | exact bk_5 (by assumption) | exact bk_6 (by assumption) | exact bk_7 (by assumption) | exact bk_8 (by assumption) | exact sh_ring _ (by first | assumption | omega) | exact sh_imgs _ (by first | assumption | omega)) ?_
        rw [hr.1.2.1]
        refine v_if_ne (tgt := 39) dX12_size_20 (by decide) (fun hc20 => ?_) (fun hc20 => ?_)
        · (first | rw [bI_0, Bool.not_eq_false] at hc20 | rw [bI_0] at hc20 | rw [show (0 : Int32) = nI 0 from rfl, nI_eq (by omega) (by omega)] at hc20 | skip)
          refine v_iload_1 dX12_size_39 ?_
          refine v_tableIn (off := 81) (tgt := 121) dX12_size_40 (by decide) (by decide) rfl (by decide) ?_
          refine v_aload_0 dX12_size_121 ?_
          refine u_getR dX12_size_122 gf_X12_20 (by first | assumption | rfl | exact led_1 (by assumption) | exact led_2 (by assumption) | exact bk_m (by assumption) (by first | assumption | omega) | exact bk_p (by assumption) (by first | assumption | omega) | exact bk_o (by assumption) (by first | assumption | omega) | exact bk_s (by assumption) (by first | assumption | omega) | exact bk_1 (by assumption) | exact bk_2 (by assumption) | exact bk_3 (by assumption) | exact bk_4 (by assumption) | exact bk_5 (by assumption) | exact bk_6 (by assumption) | exact bk_7 (by assumption) | exact bk_8 (by assumption) | exact sh_ring _ (by first | assumption | omega) | exact sh_imgs _ (by first | assumption | omega)) (ro_X12_15 (by assumption)) ?_
          refine v_iconst (v := nI 4) dX12_size_125 (by decide) ?_
          refine u_iald dX12_size_126 (by first | assumption | rfl | exact led_1 (by assumption) | exact led_2 (by assumption) | exact bk_m (by assumption) (by first | assumption | omega) | exact bk_p (by assumption) (by first | assumption | omega) | exact bk_o (by assumption) (by first | assumption | omega) | exact bk_s (by assumption) (by first | assumption | omega) | exact bk_1 (by assumption) | exact bk_2 (by assumption) | exact bk_3 (by assumption) | exact bk_4 (by assumption) | exact bk_5 (by assumption) | exact bk_6 (by assumption) | exact bk_7 (by assumption) | exact bk_8 (by assumption) | exact sh_ring _ (by first | assumption | omega) | exact sh_imgs _ (by first | assumption | omega)) (by first | with_reducible rfl | (simp only [nlit, nI_add, pk_mul]; with_reducible rfl) | rfl) (by first | assumption | omega) (by first | assumption | decide) ?_
          rw [hF 4 (by decide)]
          refine v_iret dX12_size_127 rfl rfl rfl rfl ?_
          exact hQ.fin h1 (fun x hx => by simp only [ui_ne (show x ≠ 157 by omega)]) (fun _ _ => rfl) rfl (by rw [a_size, if_pos hk0, ek] <;> rfl)
        · (first | rw [bI_0, Bool.not_eq_false] at hc20 | rw [bI_0] at hc20 | rw [show (0 : Int32) = nI 0 from rfl, nI_eq (by omega) (by omega)] at hc20 | skip)
          refine v_iload_1 dX12_size_23 ?_
          refine v_iconst (v := nI 0) dX12_size_24 (by decide) ?_
          refine v_bipush (v := nI 10) dX12_size_25 (by decide) ?_
          refine u_callS_3 dX12_size_27 ml_X12_154 ms_X12_within (by decide) (Nat.le_of_ble_eq_true rfl) (c_X12_within ?_)
          refine v_if_eq (tgt := 37) dX12_size_30 (by decide) (fun hc30 => ?_) (fun hc30 => ?_)
          · exact absurd hc30 (by decide)
          · (first | rw [bI_0, Bool.not_eq_false] at hc30 | rw [bI_0] at hc30 | rw [show (0 : Int32) = nI 0 from rfl, nI_eq (by omega) (by omega)] at hc30 | skip)
            refine v_iconst (v := nI 0) dX12_size_33 (by decide) ?_
            refine v_goto (tgt := 38) dX12_size_34 (by decide) ?_
            refine v_iret dX12_size_38 rfl rfl rfl rfl ?_
            have n0 := none0 hc20
            exact hQ.fin h1 (fun x hx => by simp only [ui_ne (show x ≠ 157 by omega)]) (fun _ _ => rfl) rfl (by rw [a_size, if_pos hk0, ek]; simp only [szf]; first | rw [n0.1] | rw [n0.2.1.1] | rw [n0.2.1.2.1] | rw [n0.2.1.2.2.1] | rw [n0.2.1.2.2.2.1] | rw [n0.2.1.2.2.2.2.1] | rw [n0.2.1.2.2.2.2.2] | rw [n0.2.2.1.1] | rw [n0.2.2.1.2.1] | rw [n0.2.2.1.2.2] | rw [n0.2.2.2])
      · exact absurd hc8 (by decide)
    · refine v_aload_0 dX12_size_0 ?_
      refine v_iconst (v := nI 0) dX12_size_1 (by decide) ?_
      refine u_putI dX12_size_2 gf_X12_54 (by first | assumption | rfl | exact led_1 (by assumption) | exact led_2 (by assumption) | exact bk_m (by assumption) (by first | assumption | omega) | exact bk_p (by assumption) (by first | assumption | omega) | exact bk_o (by assumption) (by first | assumption | omega) | exact bk_s (by assumption) (by first | assumption | omega) | exact bk_1 (by assumption) | exact bk_2 (by assumption) | exact bk_3 (by assumption) | exact bk_4 (by assumption) | exact bk_5 (by assumption) | exact bk_6 (by assumption) | exact bk_7 (by assumption) | exact bk_8 (by assumption) | exact sh_ring _ (by first | assumption | omega) | exact sh_imgs _ (by first | assumption | omega)) rfl rfl rfl ?_
      refine v_iload_1 dX12_size_5 ?_
      refine v_bipush (v := nI 11) dX12_size_6 (by decide) ?_
      refine v_icmp_ne (tgt := 16) dX12_size_8 (by decide) (fun hc8 => ?_) (fun hc8 => ?_)
      · (try rw [nI_eq (by omega) (by omega)] at hc8)
        refine v_aload_0 dX12_size_16 ?_
        refine u_getI dX12_size_17 gf_X12_186 (by first | assumption | rfl | exact led_1 (by assumption) | exact led_2 (by assumption) | exact bk_m (by assumption) (by first | assumption | omega) | exact bk_p (by assumption) (by first | assumption | omega) | exact bk_o (by assumption) (by first | assumption | omega) | exact bk_s (by assumption) (by first | assumption | omega) | exact bk_1 (by assumption) | exact bk_2 (by assumption) | exact bk_3 (by assumption) | exact bk_4 (by assumption) | exact bk_5 (by assumption) | exact bk_6 (by assumption) | exact bk_7 (by assumption) | exact bk_8 (by assumption) | exact sh_ring _ (by first | assumption | omega) | exact sh_imgs _ (by first | assumption | omega)) ?_
        rw [hr.1.2.1]
        refine v_if_ne (tgt := 39) dX12_size_20 (by decide) (fun hc20 => ?_) (fun hc20 => ?_)
        · (first | rw [bI_0, Bool.not_eq_false] at hc20 | rw [bI_0] at hc20 | rw [show (0 : Int32) = nI 0 from rfl, nI_eq (by omega) (by omega)] at hc20 | skip)
          refine v_iload_1 dX12_size_39 ?_
          refine v_tableIn (off := 88) (tgt := 128) dX12_size_40 (by decide) (by decide) rfl (by decide) ?_
          refine v_aload_0 dX12_size_128 ?_
          refine u_getR dX12_size_129 gf_X12_26 (by first | assumption | rfl | exact led_1 (by assumption) | exact led_2 (by assumption) | exact bk_m (by assumption) (by first | assumption | omega) | exact bk_p (by assumption) (by first | assumption | omega) | exact bk_o (by assumption) (by first | assumption | omega) | exact bk_s (by assumption) (by first | assumption | omega) | exact bk_1 (by assumption) | exact bk_2 (by assumption) | exact bk_3 (by assumption) | exact bk_4 (by assumption) | exact bk_5 (by assumption) | exact bk_6 (by assumption) | exact bk_7 (by assumption) | exact bk_8 (by assumption) | exact sh_ring _ (by first | assumption | omega) | exact sh_imgs _ (by first | assumption | omega)) (ro_X12_17 (by assumption)) ?_
          refine v_iconst (v := nI 0) dX12_size_132 (by decide) ?_
          refine u_iald dX12_size_133 (by first | assumption | rfl | exact led_1 (by assumption) | exact led_2 (by assumption) | exact bk_m (by assumption) (by first | assumption | omega) | exact bk_p (by assumption) (by first | assumption | omega) | exact bk_o (by assumption) (by first | assumption | omega) | exact bk_s (by assumption) (by first | assumption | omega) | exact bk_1 (by assumption) | exact bk_2 (by assumption) | exact bk_3 (by assumption) | exact bk_4 (by assumption) | exact bk_5 (by assumption) | exact bk_6 (by assumption) | exact bk_7 (by assumption) | exact bk_8 (by assumption) | exact sh_ring _ (by first | assumption | omega) | exact sh_imgs _ (by first | assumption | omega)) (by first | with_reducible rfl | (simp only [nlit, nI_add, pk_mul]; with_reducible rfl) | rfl) (by first | assumption | omega) (by first | assumption | decide) ?_
          rw [hr.2.1.1]
          refine v_iret dX12_size_134 rfl rfl rfl rfl ?_
          exact hQ.fin h1 (fun x hx => by simp only [ui_ne (show x ≠ 157 by omega)]) (fun _ _ => rfl) rfl (by rw [a_size, if_pos hk0, ek] <;> rfl)
        · (first | rw [bI_0, Bool.not_eq_false] at hc20 | rw [bI_0] at hc20 | rw [show (0 : Int32) = nI 0 from rfl, nI_eq (by omega) (by omega)] at hc20 | skip)
          refine v_iload_1 dX12_size_23 ?_
          refine v_iconst (v := nI 0) dX12_size_24 (by decide) ?_
          refine v_bipush (v := nI 10) dX12_size_25 (by decide) ?_
          refine u_callS_3 dX12_size_27 ml_X12_154 ms_X12_within (by decide) (Nat.le_of_ble_eq_true rfl) (c_X12_within ?_)
          refine v_if_eq (tgt := 37) dX12_size_30 (by decide) (fun hc30 => ?_) (fun hc30 => ?_)
          · exact absurd hc30 (by decide)
          · (first | rw [bI_0, Bool.not_eq_false] at hc30 | rw [bI_0] at hc30 | rw [show (0 : Int32) = nI 0 from rfl, nI_eq (by omega) (by omega)] at hc30 | skip)
            refine v_iconst (v := nI 0) dX12_size_33 (by decide) ?_
            refine v_goto (tgt := 38) dX12_size_34 (by decide) ?_
            refine v_iret dX12_size_38 rfl rfl rfl rfl ?_
            have n0 := none0 hc20
            exact hQ.fin h1 (fun x hx => by simp only [ui_ne (show x ≠ 157 by omega)]) (fun _ _ => rfl) rfl (by rw [a_size, if_pos hk0, ek]; simp only [szf]; first | rw [n0.1] | rw [n0.2.1.1] | rw [n0.2.1.2.1] | rw [n0.2.1.2.2.1] | rw [n0.2.1.2.2.2.1] | rw [n0.2.1.2.2.2.2.1] | rw [n0.2.1.2.2.2.2.2] | rw [n0.2.2.1.1] | rw [n0.2.2.1.2.1] | rw [n0.2.2.1.2.2] | rw [n0.2.2.2])
      · exact absurd hc8 (by decide)
    · refine v_aload_0 dX12_size_0 ?_
      refine v_iconst (v := nI 0) dX12_size_1 (by decide) ?_
      refine u_putI dX12_size_2 gf_X12_54 (by first | assumption | rfl | exact led_1 (by assumption) | exact led_2 (by assumption) | exact bk_m (by assumption) (by first | assumption | omega) | exact bk_p (by assumption) (by first | assumption | omega) | exact bk_o (by assumption) (by first | assumption | omega) | exact bk_s (by assumption) (by first | assumption | omega) | exact bk_1 (by assumption) | exact bk_2 (by assumption) | exact bk_3 (by assumption) | exact bk_4 (by assumption) | exact bk_5 (by assumption) | exact bk_6 (by assumption) | exact bk_7 (by assumption) | exact bk_8 (by assumption) | exact sh_ring _ (by first | assumption | omega) | exact sh_imgs _ (by first | assumption | omega)) rfl rfl rfl ?_
      refine v_iload_1 dX12_size_5 ?_
      refine v_bipush (v := nI 11) dX12_size_6 (by decide) ?_
      refine v_icmp_ne (tgt := 16) dX12_size_8 (by decide) (fun hc8 => ?_) (fun hc8 => ?_)
      · (try rw [nI_eq (by omega) (by omega)] at hc8)
        refine v_aload_0 dX12_size_16 ?_
        refine u_getI dX12_size_17 gf_X12_186 (by first | assumption | rfl | exact led_1 (by assumption) | exact led_2 (by assumption) | exact bk_m (by assumption) (by first | assumption | omega) | exact bk_p (by assumption) (by first | assumption | omega) | exact bk_o (by assumption) (by first | assumption | omega) | exact bk_s (by assumption) (by first | assumption | omega) | exact bk_1 (by assumption) | exact bk_2 (by assumption) | exact bk_3 (by assumption) | exact bk_4 (by assumption) | exact bk_5 (by assumption) | exact bk_6 (by assumption) | exact bk_7 (by assumption) | exact bk_8 (by assumption) | exact sh_ring _ (by first | assumption | omega) | exact sh_imgs _ (by first | assumption | omega)) ?_
        rw [hr.1.2.1]
        refine v_if_ne (tgt := 39) dX12_size_20 (by decide) (fun hc20 => ?_) (fun hc20 => ?_)
        · (first | rw [bI_0, Bool.not_eq_false] at hc20 | rw [bI_0] at hc20 | rw [show (0 : Int32) = nI 0 from rfl, nI_eq (by omega) (by omega)] at hc20 | skip)
          refine v_iload_1 dX12_size_39 ?_
          refine v_tableIn (off := 95) (tgt := 135) dX12_size_40 (by decide) (by decide) rfl (by decide) ?_
          refine v_aload_0 dX12_size_135 ?_
          refine u_getR dX12_size_136 gf_X12_20 (by first | assumption | rfl | exact led_1 (by assumption) | exact led_2 (by assumption) | exact bk_m (by assumption) (by first | assumption | omega) | exact bk_p (by assumption) (by first | assumption | omega) | exact bk_o (by assumption) (by first | assumption | omega) | exact bk_s (by assumption) (by first | assumption | omega) | exact bk_1 (by assumption) | exact bk_2 (by assumption) | exact bk_3 (by assumption) | exact bk_4 (by assumption) | exact bk_5 (by assumption) | exact bk_6 (by assumption) | exact bk_7 (by assumption) | exact bk_8 (by assumption) | exact sh_ring _ (by first | assumption | omega) | exact sh_imgs _ (by first | assumption | omega)) (ro_X12_15 (by assumption)) ?_
          refine v_iconst (v := nI 5) dX12_size_139 (by decide) ?_
          refine u_iald dX12_size_140 (by first | assumption | rfl | exact led_1 (by assumption) | exact led_2 (by assumption) | exact bk_m (by assumption) (by first | assumption | omega) | exact bk_p (by assumption) (by first | assumption | omega) | exact bk_o (by assumption) (by first | assumption | omega) | exact bk_s (by assumption) (by first | assumption | omega) | exact bk_1 (by assumption) | exact bk_2 (by assumption) | exact bk_3 (by assumption) | exact bk_4 (by assumption) | exact bk_5 (by assumption) | exact bk_6 (by assumption) | exact bk_7 (by assumption) | exact bk_8 (by assumption) | exact sh_ring _ (by first | assumption | omega) | exact sh_imgs _ (by first | assumption | omega)) (by first | with_reducible rfl | (simp only [nlit, nI_add, pk_mul]; with_reducible rfl) | rfl) (by first | assumption | omega) (by first | assumption | decide) ?_
          rw [hF 5 (by decide)]
          refine v_iret dX12_size_141 rfl rfl rfl rfl ?_
          exact hQ.fin h1 (fun x hx => by simp only [ui_ne (show x ≠ 157 by omega)]) (fun _ _ => rfl) rfl (by rw [a_size, if_pos hk0, ek] <;> rfl)
        · (first | rw [bI_0, Bool.not_eq_false] at hc20 | rw [bI_0] at hc20 | rw [show (0 : Int32) = nI 0 from rfl, nI_eq (by omega) (by omega)] at hc20 | skip)
          refine v_iload_1 dX12_size_23 ?_
          refine v_iconst (v := nI 0) dX12_size_24 (by decide) ?_
          refine v_bipush (v := nI 10) dX12_size_25 (by decide) ?_
          refine u_callS_3 dX12_size_27 ml_X12_154 ms_X12_within (by decide) (Nat.le_of_ble_eq_true rfl) (c_X12_within ?_)
          refine v_if_eq (tgt := 37) dX12_size_30 (by decide) (fun hc30 => ?_) (fun hc30 => ?_)
          · exact absurd hc30 (by decide)
          · (first | rw [bI_0, Bool.not_eq_false] at hc30 | rw [bI_0] at hc30 | rw [show (0 : Int32) = nI 0 from rfl, nI_eq (by omega) (by omega)] at hc30 | skip)
            refine v_iconst (v := nI 0) dX12_size_33 (by decide) ?_
            refine v_goto (tgt := 38) dX12_size_34 (by decide) ?_
            refine v_iret dX12_size_38 rfl rfl rfl rfl ?_
            have n0 := none0 hc20
            exact hQ.fin h1 (fun x hx => by simp only [ui_ne (show x ≠ 157 by omega)]) (fun _ _ => rfl) rfl (by rw [a_size, if_pos hk0, ek]; simp only [szf]; first | rw [n0.1] | rw [n0.2.1.1] | rw [n0.2.1.2.1] | rw [n0.2.1.2.2.1] | rw [n0.2.1.2.2.2.1] | rw [n0.2.1.2.2.2.2.1] | rw [n0.2.1.2.2.2.2.2] | rw [n0.2.2.1.1] | rw [n0.2.2.1.2.1] | rw [n0.2.2.1.2.2] | rw [n0.2.2.2])
      · exact absurd hc8 (by decide)
    · refine v_aload_0 dX12_size_0 ?_
      refine v_iconst (v := nI 0) dX12_size_1 (by decide) ?_
      refine u_putI dX12_size_2 gf_X12_54 (by first | assumption | rfl | exact led_1 (by assumption) | exact led_2 (by assumption) | exact bk_m (by assumption) (by first | assumption | omega) | exact bk_p (by assumption) (by first | assumption | omega) | exact bk_o (by assumption) (by first | assumption | omega) | exact bk_s (by assumption) (by first | assumption | omega) | exact bk_1 (by assumption) | exact bk_2 (by assumption) | exact bk_3 (by assumption) | exact bk_4 (by assumption) | exact bk_5 (by assumption) | exact bk_6 (by assumption) | exact bk_7 (by assumption) | exact bk_8 (by assumption) | exact sh_ring _ (by first | assumption | omega) | exact sh_imgs _ (by first | assumption | omega)) rfl rfl rfl ?_
      refine v_iload_1 dX12_size_5 ?_
      refine v_bipush (v := nI 11) dX12_size_6 (by decide) ?_
      refine v_icmp_ne (tgt := 16) dX12_size_8 (by decide) (fun hc8 => ?_) (fun hc8 => ?_)
      · (try rw [nI_eq (by omega) (by omega)] at hc8)
        refine v_aload_0 dX12_size_16 ?_
        refine u_getI dX12_size_17 gf_X12_186 (by first | assumption | rfl | exact led_1 (by assumption) | exact led_2 (by assumption) | exact bk_m (by assumption) (by first | assumption | omega) | exact bk_p (by assumption) (by first | assumption | omega) | exact bk_o (by assumption) (by first | assumption | omega) | exact bk_s (by assumption) (by first | assumption | omega) | exact bk_1 (by assumption) | exact bk_2 (by assumption) | exact bk_3 (by assumption) | exact bk_4 (by assumption) | exact bk_5 (by assumption) | exact bk_6 (by assumption) | exact bk_7 (by assumption) | exact bk_8 (by assumption) | exact sh_ring _ (by first | assumption | omega) | exact sh_imgs _ (by first | assumption | omega)) ?_
        rw [hr.1.2.1]
        refine v_if_ne (tgt := 39) dX12_size_20 (by decide) (fun hc20 => ?_) (fun hc20 => ?_)
        · (first | rw [bI_0, Bool.not_eq_false] at hc20 | rw [bI_0] at hc20 | rw [show (0 : Int32) = nI 0 from rfl, nI_eq (by omega) (by omega)] at hc20 | skip)
          refine v_iload_1 dX12_size_39 ?_
          refine v_tableIn (off := 102) (tgt := 142) dX12_size_40 (by decide) (by decide) rfl (by decide) ?_
          refine v_aload_0 dX12_size_142 ?_
          refine u_getR dX12_size_143 gf_X12_20 (by first | assumption | rfl | exact led_1 (by assumption) | exact led_2 (by assumption) | exact bk_m (by assumption) (by first | assumption | omega) | exact bk_p (by assumption) (by first | assumption | omega) | exact bk_o (by assumption) (by first | assumption | omega) | exact bk_s (by assumption) (by first | assumption | omega) | exact bk_1 (by assumption) | exact bk_2 (by assumption) | exact bk_3 (by assumption) | exact bk_4 (by assumption) | exact bk_5 (by assumption) | exact bk_6 (by assumption) | exact bk_7 (by assumption) | exact bk_8 (by assumption) | exact sh_ring _ (by first | assumption | omega) | exact sh_imgs _ (by first | assumption | omega)) (ro_X12_15 (by assumption)) ?_
          refine v_bipush (v := nI 6) dX12_size_146 (by decide) ?_
          refine u_iald dX12_size_148 (by first | assumption | rfl | exact led_1 (by assumption) | exact led_2 (by assumption) | exact bk_m (by assumption) (by first | assumption | omega) | exact bk_p (by assumption) (by first | assumption | omega) | exact bk_o (by assumption) (by first | assumption | omega) | exact bk_s (by assumption) (by first | assumption | omega) | exact bk_1 (by assumption) | exact bk_2 (by assumption) | exact bk_3 (by assumption) | exact bk_4 (by assumption) | exact bk_5 (by assumption) | exact bk_6 (by assumption) | exact bk_7 (by assumption) | exact bk_8 (by assumption) | exact sh_ring _ (by first | assumption | omega) | exact sh_imgs _ (by first | assumption | omega)) (by first | with_reducible rfl | (simp only [nlit, nI_add, pk_mul]; with_reducible rfl) | rfl) (by first | assumption | omega) (by first | assumption | decide) ?_
          rw [hF 6 (by decide)]
          refine v_iret dX12_size_149 rfl rfl rfl rfl ?_
          exact hQ.fin h1 (fun x hx => by simp only [ui_ne (show x ≠ 157 by omega)]) (fun _ _ => rfl) rfl (by rw [a_size, if_pos hk0, ek] <;> rfl)
        · (first | rw [bI_0, Bool.not_eq_false] at hc20 | rw [bI_0] at hc20 | rw [show (0 : Int32) = nI 0 from rfl, nI_eq (by omega) (by omega)] at hc20 | skip)
          refine v_iload_1 dX12_size_23 ?_
          refine v_iconst (v := nI 0) dX12_size_24 (by decide) ?_
          refine v_bipush (v := nI 10) dX12_size_25 (by decide) ?_
          refine u_callS_3 dX12_size_27 ml_X12_154 ms_X12_within (by decide) (Nat.le_of_ble_eq_true rfl) (c_X12_within ?_)
          refine v_if_eq (tgt := 37) dX12_size_30 (by decide) (fun hc30 => ?_) (fun hc30 => ?_)
          · exact absurd hc30 (by decide)
          · (first | rw [bI_0, Bool.not_eq_false] at hc30 | rw [bI_0] at hc30 | rw [show (0 : Int32) = nI 0 from rfl, nI_eq (by omega) (by omega)] at hc30 | skip)
            refine v_iconst (v := nI 0) dX12_size_33 (by decide) ?_
            refine v_goto (tgt := 38) dX12_size_34 (by decide) ?_
            refine v_iret dX12_size_38 rfl rfl rfl rfl ?_
            have n0 := none0 hc20
            exact hQ.fin h1 (fun x hx => by simp only [ui_ne (show x ≠ 157 by omega)]) (fun _ _ => rfl) rfl (by rw [a_size, if_pos hk0, ek]; simp only [szf]; first | rw [n0.1] | rw [n0.2.1.1] | rw [n0.2.1.2.1] | rw [n0.2.1.2.2.1] | rw [n0.2.1.2.2.2.1] | rw [n0.2.1.2.2.2.2.1] | rw [n0.2.1.2.2.2.2.2] | rw [n0.2.2.1.1] | rw [n0.2.2.1.2.1] | rw [n0.2.2.1.2.2] | rw [n0.2.2.2])
      · exact absurd hc8 (by decide)
    · refine v_aload_0 dX12_size_0 ?_
      refine v_iconst (v := nI 0) dX12_size_1 (by decide) ?_
      refine u_putI dX12_size_2 gf_X12_54 (by first | assumption | rfl | exact led_1 (by assumption) | exact led_2 (by assumption) | exact bk_m (by assumption) (by first | assumption | omega) | exact bk_p (by assumption) (by first | assumption | omega) | exact bk_o (by assumption) (by first | assumption | omega) | exact bk_s (by assumption) (by first | assumption | omega) | exact bk_1 (by assumption) | exact bk_2 (by assumption) | exact bk_3 (by assumption) | exact bk_4 (by assumption) | exact bk_5 (by assumption) | exact bk_6 (by assumption) | exact bk_7 (by assumption) | exact bk_8 (by assumption) | exact sh_ring _ (by first | assumption | omega) | exact sh_imgs _ (by first | assumption | omega)) rfl rfl rfl ?_
      refine v_iload_1 dX12_size_5 ?_
      refine v_bipush (v := nI 11) dX12_size_6 (by decide) ?_
      refine v_icmp_ne (tgt := 16) dX12_size_8 (by decide) (fun hc8 => ?_) (fun hc8 => ?_)
      · (try rw [nI_eq (by omega) (by omega)] at hc8)
        refine v_aload_0 dX12_size_16 ?_
        refine u_getI dX12_size_17 gf_X12_186 (by first | assumption | rfl | exact led_1 (by assumption) | exact led_2 (by assumption) | exact bk_m (by assumption) (by first | assumption | omega) | exact bk_p (by assumption) (by first | assumption | omega) | exact bk_o (by assumption) (by first | assumption | omega) | exact bk_s (by assumption) (by first | assumption | omega) | exact bk_1 (by assumption) | exact bk_2 (by assumption) | exact bk_3 (by assumption) | exact bk_4 (by assumption) | exact bk_5 (by assumption) | exact bk_6 (by assumption) | exact bk_7 (by assumption) | exact bk_8 (by assumption) | exact sh_ring _ (by first | assumption | omega) | exact sh_imgs _ (by first | assumption | omega)) ?_
        rw [hr.1.2.1]
        refine v_if_ne (tgt := 39) dX12_size_20 (by decide) (fun hc20 => ?_) (fun hc20 => ?_)
        · (first | rw [bI_0, Bool.not_eq_false] at hc20 | rw [bI_0] at hc20 | rw [show (0 : Int32) = nI 0 from rfl, nI_eq (by omega) (by omega)] at hc20 | skip)
          refine v_iload_1 dX12_size_39 ?_
          refine v_tableIn (off := 110) (tgt := 150) dX12_size_40 (by decide) (by decide) rfl (by decide) ?_
          refine v_aload_0 dX12_size_150 ?_
          refine u_getR dX12_size_151 gf_X12_20 (by first | assumption | rfl | exact led_1 (by assumption) | exact led_2 (by assumption) | exact bk_m (by assumption) (by first | assumption | omega) | exact bk_p (by assumption) (by first | assumption | omega) | exact bk_o (by assumption) (by first | assumption | omega) | exact bk_s (by assumption) (by first | assumption | omega) | exact bk_1 (by assumption) | exact bk_2 (by assumption) | exact bk_3 (by assumption) | exact bk_4 (by assumption) | exact bk_5 (by assumption) | exact bk_6 (by assumption) | exact bk_7 (by assumption) | exact bk_8 (by assumption) | exact sh_ring _ (by first | assumption | omega) | exact sh_imgs _ (by first | assumption | omega)) (ro_X12_15 (by assumption)) ?_
          refine v_iconst (v := nI 0) dX12_size_154 (by decide) ?_
          refine u_iald dX12_size_155 (by first | assumption | rfl | exact led_1 (by assumption) | exact led_2 (by assumption) | exact bk_m (by assumption) (by first | assumption | omega) | exact bk_p (by assumption) (by first | assumption | omega) | exact bk_o (by assumption) (by first | assumption | omega) | exact bk_s (by assumption) (by first | assumption | omega) | exact bk_1 (by assumption) | exact bk_2 (by assumption) | exact bk_3 (by assumption) | exact bk_4 (by assumption) | exact bk_5 (by assumption) | exact bk_6 (by assumption) | exact bk_7 (by assumption) | exact bk_8 (by assumption) | exact sh_ring _ (by first | assumption | omega) | exact sh_imgs _ (by first | assumption | omega)) (by first | with_reducible rfl | (simp only [nlit, nI_add, pk_mul]; with_reducible rfl) | rfl) (by first | assumption | omega) (by first | assumption | decide) ?_
          rw [hF 0 (by decide)]
          refine v_iret dX12_size_156 rfl rfl rfl rfl ?_
          exact hQ.fin h1 (fun x hx => by simp only [ui_ne (show x ≠ 157 by omega)]) (fun _ _ => rfl) rfl (by rw [a_size, if_pos hk0, ek] <;> rfl)
        · (first | rw [bI_0, Bool.not_eq_false] at hc20 | rw [bI_0] at hc20 | rw [show (0 : Int32) = nI 0 from rfl, nI_eq (by omega) (by omega)] at hc20 | skip)
          refine v_iload_1 dX12_size_23 ?_
          refine v_iconst (v := nI 0) dX12_size_24 (by decide) ?_
          refine v_bipush (v := nI 10) dX12_size_25 (by decide) ?_
          refine u_callS_3 dX12_size_27 ml_X12_154 ms_X12_within (by decide) (Nat.le_of_ble_eq_true rfl) (c_X12_within ?_)
          refine v_if_eq (tgt := 37) dX12_size_30 (by decide) (fun hc30 => ?_) (fun hc30 => ?_)
          · exact absurd hc30 (by decide)
          · (first | rw [bI_0, Bool.not_eq_false] at hc30 | rw [bI_0] at hc30 | rw [show (0 : Int32) = nI 0 from rfl, nI_eq (by omega) (by omega)] at hc30 | skip)
            refine v_iconst (v := nI 0) dX12_size_33 (by decide) ?_
            refine v_goto (tgt := 38) dX12_size_34 (by decide) ?_
            refine v_iret dX12_size_38 rfl rfl rfl rfl ?_
            have n0 := none0 hc20
            exact hQ.fin h1 (fun x hx => by simp only [ui_ne (show x ≠ 157 by omega)]) (fun _ _ => rfl) rfl (by rw [a_size, if_pos hk0, ek]; simp only [szf]; first | rw [n0.1] | rw [n0.2.1.1] | rw [n0.2.1.2.1] | rw [n0.2.1.2.2.1] | rw [n0.2.1.2.2.2.1] | rw [n0.2.1.2.2.2.2.1] | rw [n0.2.1.2.2.2.2.2] | rw [n0.2.2.1.1] | rw [n0.2.2.1.2.1] | rw [n0.2.2.1.2.2] | rw [n0.2.2.2])
      · exact absurd hc8 (by decide)
    · refine v_aload_0 dX12_size_0 ?_
      refine v_iconst (v := nI 0) dX12_size_1 (by decide) ?_
      refine u_putI dX12_size_2 gf_X12_54 (by first | assumption | rfl | exact led_1 (by assumption) | exact led_2 (by assumption) | exact bk_m (by assumption) (by first | assumption | omega) | exact bk_p (by assumption) (by first | assumption | omega) | exact bk_o (by assumption) (by first | assumption | omega) | exact bk_s (by assumption) (by first | assumption | omega) | exact bk_1 (by assumption) | exact bk_2 (by assumption) | exact bk_3 (by assumption) | exact bk_4 (by assumption) | exact bk_5 (by assumption) | exact bk_6 (by assumption) | exact bk_7 (by assumption) | exact bk_8 (by assumption) | exact sh_ring _ (by first | assumption | omega) | exact sh_imgs _ (by first | assumption | omega)) rfl rfl rfl ?_
      refine v_iload_1 dX12_size_5 ?_
      refine v_bipush (v := nI 11) dX12_size_6 (by decide) ?_
      refine v_icmp_ne (tgt := 16) dX12_size_8 (by decide) (fun hc8 => ?_) (fun hc8 => ?_)
      · (try rw [nI_eq (by omega) (by omega)] at hc8)
        refine v_aload_0 dX12_size_16 ?_
        refine u_getI dX12_size_17 gf_X12_186 (by first | assumption | rfl | exact led_1 (by assumption) | exact led_2 (by assumption) | exact bk_m (by assumption) (by first | assumption | omega) | exact bk_p (by assumption) (by first | assumption | omega) | exact bk_o (by assumption) (by first | assumption | omega) | exact bk_s (by assumption) (by first | assumption | omega) | exact bk_1 (by assumption) | exact bk_2 (by assumption) | exact bk_3 (by assumption) | exact bk_4 (by assumption) | exact bk_5 (by assumption) | exact bk_6 (by assumption) | exact bk_7 (by assumption) | exact bk_8 (by assumption) | exact sh_ring _ (by first | assumption | omega) | exact sh_imgs _ (by first | assumption | omega)) ?_
        rw [hr.1.2.1]
        refine v_if_ne (tgt := 39) dX12_size_20 (by decide) (fun hc20 => ?_) (fun hc20 => ?_)
        · (first | rw [bI_0, Bool.not_eq_false] at hc20 | rw [bI_0] at hc20 | rw [show (0 : Int32) = nI 0 from rfl, nI_eq (by omega) (by omega)] at hc20 | skip)
          refine v_iload_1 dX12_size_39 ?_
          refine v_tableIn (off := 117) (tgt := 157) dX12_size_40 (by decide) (by decide) rfl (by decide) ?_
          refine v_aload_0 dX12_size_157 ?_
          refine u_getI dX12_size_158 gf_X12_189 (by first | assumption | rfl | exact led_1 (by assumption) | exact led_2 (by assumption) | exact bk_m (by assumption) (by first | assumption | omega) | exact bk_p (by assumption) (by first | assumption | omega) | exact bk_o (by assumption) (by first | assumption | omega) | exact bk_s (by assumption) (by first | assumption | omega) | exact bk_1 (by assumption) | exact bk_2 (by assumption) | exact bk_3 (by assumption) | exact bk_4 (by assumption) | exact bk_5 (by assumption) | exact bk_6 (by assumption) | exact bk_7 (by assumption) | exact bk_8 (by assumption) | exact sh_ring _ (by first | assumption | omega) | exact sh_imgs _ (by first | assumption | omega)) ?_
          rw [h1.2.2.2.1.1]
          refine v_iret dX12_size_161 rfl rfl rfl rfl ?_
          exact hQ.fin h1 (fun x hx => by simp only [ui_ne (show x ≠ 157 by omega)]) (fun _ _ => rfl) rfl (by rw [a_size, if_pos hk0, ek] <;> rfl)
        · (first | rw [bI_0, Bool.not_eq_false] at hc20 | rw [bI_0] at hc20 | rw [show (0 : Int32) = nI 0 from rfl, nI_eq (by omega) (by omega)] at hc20 | skip)
          refine v_iload_1 dX12_size_23 ?_
          refine v_iconst (v := nI 0) dX12_size_24 (by decide) ?_
          refine v_bipush (v := nI 10) dX12_size_25 (by decide) ?_
          refine u_callS_3 dX12_size_27 ml_X12_154 ms_X12_within (by decide) (Nat.le_of_ble_eq_true rfl) (c_X12_within ?_)
          refine v_if_eq (tgt := 37) dX12_size_30 (by decide) (fun hc30 => ?_) (fun hc30 => ?_)
          · exact absurd hc30 (by decide)
          · (first | rw [bI_0, Bool.not_eq_false] at hc30 | rw [bI_0] at hc30 | rw [show (0 : Int32) = nI 0 from rfl, nI_eq (by omega) (by omega)] at hc30 | skip)
            refine v_iconst (v := nI 0) dX12_size_33 (by decide) ?_
            refine v_goto (tgt := 38) dX12_size_34 (by decide) ?_
            refine v_iret dX12_size_38 rfl rfl rfl rfl ?_
            have n0 := none0 hc20
            exact hQ.fin h1 (fun x hx => by simp only [ui_ne (show x ≠ 157 by omega)]) (fun _ _ => rfl) rfl (by rw [a_size, if_pos hk0, ek]; simp only [szf]; first | rw [n0.1] | rw [n0.2.1.1] | rw [n0.2.1.2.1] | rw [n0.2.1.2.2.1] | rw [n0.2.1.2.2.2.1] | rw [n0.2.1.2.2.2.2.1] | rw [n0.2.1.2.2.2.2.2] | rw [n0.2.2.1.1] | rw [n0.2.2.1.2.1] | rw [n0.2.2.1.2.2] | rw [n0.2.2.2])
      · exact absurd hc8 (by decide)
    · refine v_aload_0 dX12_size_0 ?_
      refine v_iconst (v := nI 0) dX12_size_1 (by decide) ?_
      refine u_putI dX12_size_2 gf_X12_54 (by first | assumption | rfl | exact led_1 (by assumption) | exact led_2 (by assumption) | exact bk_m (by assumption) (by first | assumption | omega) | exact bk_p (by assumption) (by first | assumption | omega) | exact bk_o (by assumption) (by first | assumption | omega) | exact bk_s (by assumption) (by first | assumption | omega) | exact bk_1 (by assumption) | exact bk_2 (by assumption) | exact bk_3 (by assumption) | exact bk_4 (by assumption) | exact bk_5 (by assumption) | exact bk_6 (by assumption) | exact bk_7 (by assumption) | exact bk_8 (by assumption) | exact sh_ring _ (by first | assumption | omega) | exact sh_imgs _ (by first | assumption | omega)) rfl rfl rfl ?_
      refine v_iload_1 dX12_size_5 ?_
      refine v_bipush (v := nI 11) dX12_size_6 (by decide) ?_
      refine v_icmp_ne (tgt := 16) dX12_size_8 (by decide) (fun hc8 => ?_) (fun hc8 => ?_)
      · (try rw [nI_eq (by omega) (by omega)] at hc8)
        refine v_aload_0 dX12_size_16 ?_
        refine u_getI dX12_size_17 gf_X12_186 (by first | assumption | rfl | exact led_1 (by assumption) | exact led_2 (by assumption) | exact bk_m (by assumption) (by first | assumption | omega) | exact bk_p (by assumption) (by first | assumption | omega) | exact bk_o (by assumption) (by first | assumption | omega) | exact bk_s (by assumption) (by first | assumption | omega) | exact bk_1 (by assumption) | exact bk_2 (by assumption) | exact bk_3 (by assumption) | exact bk_4 (by assumption) | exact bk_5 (by assumption) | exact bk_6 (by assumption) | exact bk_7 (by assumption) | exact bk_8 (by assumption) | exact sh_ring _ (by first | assumption | omega) | exact sh_imgs _ (by first | assumption | omega)) ?_
        rw [hr.1.2.1]
        refine v_if_ne (tgt := 39) dX12_size_20 (by decide) (fun hc20 => ?_) (fun hc20 => ?_)
        · (first | rw [bI_0, Bool.not_eq_false] at hc20 | rw [bI_0] at hc20 | rw [show (0 : Int32) = nI 0 from rfl, nI_eq (by omega) (by omega)] at hc20 | skip)
          refine v_iload_1 dX12_size_39 ?_
          refine v_tableIn (off := 122) (tgt := 162) dX12_size_40 (by decide) (by decide) rfl (by decide) ?_
          refine v_aload_0 dX12_size_162 ?_
          refine u_getI dX12_size_163 gf_X12_192 (by first | assumption | rfl | exact led_1 (by assumption) | exact led_2 (by assumption) | exact bk_m (by assumption) (by first | assumption | omega) | exact bk_p (by assumption) (by first | assumption | omega) | exact bk_o (by assumption) (by first | assumption | omega) | exact bk_s (by assumption) (by first | assumption | omega) | exact bk_1 (by assumption) | exact bk_2 (by assumption) | exact bk_3 (by assumption) | exact bk_4 (by assumption) | exact bk_5 (by assumption) | exact bk_6 (by assumption) | exact bk_7 (by assumption) | exact bk_8 (by assumption) | exact sh_ring _ (by first | assumption | omega) | exact sh_imgs _ (by first | assumption | omega)) ?_
          rw [h1.2.2.2.1.2.1]
          refine v_iret dX12_size_166 rfl rfl rfl rfl ?_
          exact hQ.fin h1 (fun x hx => by simp only [ui_ne (show x ≠ 157 by omega)]) (fun _ _ => rfl) rfl (by rw [a_size, if_pos hk0, ek] <;> rfl)
        · (first | rw [bI_0, Bool.not_eq_false] at hc20 | rw [bI_0] at hc20 | rw [show (0 : Int32) = nI 0 from rfl, nI_eq (by omega) (by omega)] at hc20 | skip)
          refine v_iload_1 dX12_size_23 ?_
          refine v_iconst (v := nI 0) dX12_size_24 (by decide) ?_
          refine v_bipush (v := nI 10) dX12_size_25 (by decide) ?_
          refine u_callS_3 dX12_size_27 ml_X12_154 ms_X12_within (by decide) (Nat.le_of_ble_eq_true rfl) (c_X12_within ?_)
          refine v_if_eq (tgt := 37) dX12_size_30 (by decide) (fun hc30 => ?_) (fun hc30 => ?_)
          · exact absurd hc30 (by decide)
          · (first | rw [bI_0, Bool.not_eq_false] at hc30 | rw [bI_0] at hc30 | rw [show (0 : Int32) = nI 0 from rfl, nI_eq (by omega) (by omega)] at hc30 | skip)
            refine v_iconst (v := nI 0) dX12_size_33 (by decide) ?_
            refine v_goto (tgt := 38) dX12_size_34 (by decide) ?_
            refine v_iret dX12_size_38 rfl rfl rfl rfl ?_
            have n0 := none0 hc20
            exact hQ.fin h1 (fun x hx => by simp only [ui_ne (show x ≠ 157 by omega)]) (fun _ _ => rfl) rfl (by rw [a_size, if_pos hk0, ek]; simp only [szf]; first | rw [n0.1] | rw [n0.2.1.1] | rw [n0.2.1.2.1] | rw [n0.2.1.2.2.1] | rw [n0.2.1.2.2.2.1] | rw [n0.2.1.2.2.2.2.1] | rw [n0.2.1.2.2.2.2.2] | rw [n0.2.2.1.1] | rw [n0.2.2.1.2.1] | rw [n0.2.2.1.2.2] | rw [n0.2.2.2])
      · exact absurd hc8 (by decide)
    · refine v_aload_0 dX12_size_0 ?_
      refine v_iconst (v := nI 0) dX12_size_1 (by decide) ?_
      refine u_putI dX12_size_2 gf_X12_54 (by first | assumption | rfl | exact led_1 (by assumption) | exact led_2 (by assumption) | exact bk_m (by assumption) (by first | assumption | omega) | exact bk_p (by assumption) (by first | assumption | omega) | exact bk_o (by assumption) (by first | assumption | omega) | exact bk_s (by assumption) (by first | assumption | omega) | exact bk_1 (by assumption) | exact bk_2 (by assumption) | exact bk_3 (by assumption) | exact bk_4 (by assumption) | exact bk_5 (by assumption) | exact bk_6 (by assumption) | exact bk_7 (by assumption) | exact bk_8 (by assumption) | exact sh_ring _ (by first | assumption | omega) | exact sh_imgs _ (by first | assumption | omega)) rfl rfl rfl ?_
      refine v_iload_1 dX12_size_5 ?_
      refine v_bipush (v := nI 11) dX12_size_6 (by decide) ?_
      refine v_icmp_ne (tgt := 16) dX12_size_8 (by decide) (fun hc8 => ?_) (fun hc8 => ?_)
      · (try rw [nI_eq (by omega) (by omega)] at hc8)
        refine v_aload_0 dX12_size_16 ?_
        refine u_getI dX12_size_17 gf_X12_186 (by first | assumption | rfl | exact led_1 (by assumption) | exact led_2 (by assumption) | exact bk_m (by assumption) (by first | assumption | omega) | exact bk_p (by assumption) (by first | assumption | omega) | exact bk_o (by assumption) (by first | assumption | omega) | exact bk_s (by assumption) (by first | assumption | omega) | exact bk_1 (by assumption) | exact bk_2 (by assumption) | exact bk_3 (by assumption) | exact bk_4 (by assumption) | exact bk_5 (by assumption) | exact bk_6 (by assumption) | exact bk_7 (by assumption) | exact bk_8 (by assumption) | exact sh_ring _ (by first | assumption | omega) | exact sh_imgs _ (by first | assumption | omega)) ?_
        rw [hr.1.2.1]
        refine v_if_ne (tgt := 39) dX12_size_20 (by decide) (fun hc20 => ?_) (fun hc20 => ?_)
        · (first | rw [bI_0, Bool.not_eq_false] at hc20 | rw [bI_0] at hc20 | rw [show (0 : Int32) = nI 0 from rfl, nI_eq (by omega) (by omega)] at hc20 | skip)
          refine v_iload_1 dX12_size_39 ?_
          refine v_tableIn (off := 127) (tgt := 167) dX12_size_40 (by decide) (by decide) rfl (by decide) ?_
          refine v_aload_0 dX12_size_167 ?_
          refine u_getI dX12_size_168 gf_X12_195 (by first | assumption | rfl | exact led_1 (by assumption) | exact led_2 (by assumption) | exact bk_m (by assumption) (by first | assumption | omega) | exact bk_p (by assumption) (by first | assumption | omega) | exact bk_o (by assumption) (by first | assumption | omega) | exact bk_s (by assumption) (by first | assumption | omega) | exact bk_1 (by assumption) | exact bk_2 (by assumption) | exact bk_3 (by assumption) | exact bk_4 (by assumption) | exact bk_5 (by assumption) | exact bk_6 (by assumption) | exact bk_7 (by assumption) | exact bk_8 (by assumption) | exact sh_ring _ (by first | assumption | omega) | exact sh_imgs _ (by first | assumption | omega)) ?_
          rw [h1.2.2.2.2.1.1]
          refine v_iret dX12_size_171 rfl rfl rfl rfl ?_
          exact hQ.fin h1 (fun x hx => by simp only [ui_ne (show x ≠ 157 by omega)]) (fun _ _ => rfl) rfl (by rw [a_size, if_pos hk0, ek] <;> rfl)
        · (first | rw [bI_0, Bool.not_eq_false] at hc20 | rw [bI_0] at hc20 | rw [show (0 : Int32) = nI 0 from rfl, nI_eq (by omega) (by omega)] at hc20 | skip)
          refine v_iload_1 dX12_size_23 ?_
          refine v_iconst (v := nI 0) dX12_size_24 (by decide) ?_
          refine v_bipush (v := nI 10) dX12_size_25 (by decide) ?_
          refine u_callS_3 dX12_size_27 ml_X12_154 ms_X12_within (by decide) (Nat.le_of_ble_eq_true rfl) (c_X12_within ?_)
          refine v_if_eq (tgt := 37) dX12_size_30 (by decide) (fun hc30 => ?_) (fun hc30 => ?_)
          · exact absurd hc30 (by decide)
          · (first | rw [bI_0, Bool.not_eq_false] at hc30 | rw [bI_0] at hc30 | rw [show (0 : Int32) = nI 0 from rfl, nI_eq (by omega) (by omega)] at hc30 | skip)
            refine v_iconst (v := nI 0) dX12_size_33 (by decide) ?_
            refine v_goto (tgt := 38) dX12_size_34 (by decide) ?_
            refine v_iret dX12_size_38 rfl rfl rfl rfl ?_
            have n0 := none0 hc20
            exact hQ.fin h1 (fun x hx => by simp only [ui_ne (show x ≠ 157 by omega)]) (fun _ _ => rfl) rfl (by rw [a_size, if_pos hk0, ek]; simp only [szf]; first | rw [n0.1] | rw [n0.2.1.1] | rw [n0.2.1.2.1] | rw [n0.2.1.2.2.1] | rw [n0.2.1.2.2.2.1] | rw [n0.2.1.2.2.2.2.1] | rw [n0.2.1.2.2.2.2.2] | rw [n0.2.2.1.1] | rw [n0.2.2.1.2.1] | rw [n0.2.2.1.2.2] | rw [n0.2.2.2])
      · exact absurd hc8 (by decide)
    · refine v_aload_0 dX12_size_0 ?_
      refine v_iconst (v := nI 0) dX12_size_1 (by decide) ?_
      refine u_putI dX12_size_2 gf_X12_54 (by first | assumption | rfl | exact led_1 (by assumption) | exact led_2 (by assumption) | exact bk_m (by assumption) (by first | assumption | omega) | exact bk_p (by assumption) (by first | assumption | omega) | exact bk_o (by assumption) (by first | assumption | omega) | exact bk_s (by assumption) (by first | assumption | omega) | exact bk_1 (by assumption) | exact bk_2 (by assumption) | exact bk_3 (by assumption) | exact bk_4 (by assumption) | exact bk_5 (by assumption) | exact bk_6 (by assumption) | exact bk_7 (by assumption) | exact bk_8 (by assumption) | exact sh_ring _ (by first | assumption | omega) | exact sh_imgs _ (by first | assumption | omega)) rfl rfl rfl ?_
      refine v_iload_1 dX12_size_5 ?_
      refine v_bipush (v := nI 11) dX12_size_6 (by decide) ?_
      refine v_icmp_ne (tgt := 16) dX12_size_8 (by decide) (fun hc8 => ?_) (fun hc8 => ?_)
      · exact absurd rfl hc8
      · (try rw [nI_eq (by omega) (by omega)] at hc8)
        refine v_aload_0 dX12_size_11 ?_
        refine u_getI dX12_size_12 gf_X12_60 (by first | assumption | rfl | exact led_1 (by assumption) | exact led_2 (by assumption) | exact bk_m (by assumption) (by first | assumption | omega) | exact bk_p (by assumption) (by first | assumption | omega) | exact bk_o (by assumption) (by first | assumption | omega) | exact bk_s (by assumption) (by first | assumption | omega) | exact bk_1 (by assumption) | exact bk_2 (by assumption) | exact bk_3 (by assumption) | exact bk_4 (by assumption) | exact bk_5 (by assumption) | exact bk_6 (by assumption) | exact bk_7 (by assumption) | exact bk_8 (by assumption) | exact sh_ring _ (by first | assumption | omega) | exact sh_imgs _ (by first | assumption | omega)) ?_
        rw [h1.1.1]
        refine v_iret dX12_size_15 rfl rfl rfl rfl ?_
        exact hQ.fin h1 (fun x hx => by simp only [ui_ne (show x ≠ 157 by omega)]) (fun _ _ => rfl) rfl (by rw [a_size, if_pos hk0, ek] <;> rfl)
  · have hk1 : x.toInt < 0 ∨ 10 < x.toInt := by
      simp only [inb, Bool.and_eq_true, decide_eq_true_eq, Int32.le_iff_toInt_le, Int32.lt_iff_toInt_lt, show (nI 12).toInt = 12 from rfl, show (0 : Int32).toInt = 0 from rfl] at hk0
      omega
    refine v_aload_0 dX12_size_0 ?_
    refine v_iconst (v := nI 0) dX12_size_1 (by decide) ?_
    refine u_putI dX12_size_2 gf_X12_54 (by first | assumption | rfl | exact led_1 (by assumption) | exact led_2 (by assumption) | exact bk_m (by assumption) (by first | assumption | omega) | exact bk_p (by assumption) (by first | assumption | omega) | exact bk_o (by assumption) (by first | assumption | omega) | exact bk_s (by assumption) (by first | assumption | omega) | exact bk_1 (by assumption) | exact bk_2 (by assumption) | exact bk_3 (by assumption) | exact bk_4 (by assumption) | exact bk_5 (by assumption) | exact bk_6 (by assumption) | exact bk_7 (by assumption) | exact bk_8 (by assumption) | exact sh_ring _ (by first | assumption | omega) | exact sh_imgs _ (by first | assumption | omega)) rfl rfl rfl ?_
    refine v_iload_1 dX12_size_5 ?_
    refine v_bipush (v := nI 11) dX12_size_6 (by decide) ?_
    refine v_icmp_ne (tgt := 16) dX12_size_8 (by decide) (fun hc8 => ?_) (fun hc8 => ?_)
    · (try rw [nI_eq (by omega) (by omega)] at hc8)
      refine v_aload_0 dX12_size_16 ?_
      refine u_getI dX12_size_17 gf_X12_186 (by first | assumption | rfl | exact led_1 (by assumption) | exact led_2 (by assumption) | exact bk_m (by assumption) (by first | assumption | omega) | exact bk_p (by assumption) (by first | assumption | omega) | exact bk_o (by assumption) (by first | assumption | omega) | exact bk_s (by assumption) (by first | assumption | omega) | exact bk_1 (by assumption) | exact bk_2 (by assumption) | exact bk_3 (by assumption) | exact bk_4 (by assumption) | exact bk_5 (by assumption) | exact bk_6 (by assumption) | exact bk_7 (by assumption) | exact bk_8 (by assumption) | exact sh_ring _ (by first | assumption | omega) | exact sh_imgs _ (by first | assumption | omega)) ?_
      rw [hr.1.2.1]
      refine v_if_ne (tgt := 39) dX12_size_20 (by decide) (fun hc20 => ?_) (fun hc20 => ?_)
      · (first | rw [bI_0, Bool.not_eq_false] at hc20 | rw [bI_0] at hc20 | rw [show (0 : Int32) = nI 0 from rfl, nI_eq (by omega) (by omega)] at hc20 | skip)
        refine v_iload_1 dX12_size_39 ?_
        refine v_tableOut (tgt := 172) dX12_size_40 hk1 (by decide) ?_
        refine v_iconst (v := -1) dX12_size_172 (by decide) ?_
        refine v_iret dX12_size_173 rfl rfl rfl rfl ?_
        exact hQ.fin h1 (fun x hx => by simp only [ui_ne (show x ≠ 157 by omega)]) (fun _ _ => rfl) rfl (by rw [a_size, if_neg hk0] <;> rfl)
      · (first | rw [bI_0, Bool.not_eq_false] at hc20 | rw [bI_0] at hc20 | rw [show (0 : Int32) = nI 0 from rfl, nI_eq (by omega) (by omega)] at hc20 | skip)
        refine v_iload_1 dX12_size_23 ?_
        refine v_iconst (v := nI 0) dX12_size_24 (by decide) ?_
        refine v_bipush (v := nI 10) dX12_size_25 (by decide) ?_
        refine u_callS_3 dX12_size_27 ml_X12_154 ms_X12_within (by decide) (Nat.le_of_ble_eq_true rfl) (c_X12_within ?_)
        refine v_if_eq (tgt := 37) dX12_size_30 (by decide) (fun hc30 => ?_) (fun hc30 => ?_)
        · (first | rw [bI_0, Bool.not_eq_false] at hc30 | rw [bI_0] at hc30 | rw [show (0 : Int32) = nI 0 from rfl, nI_eq (by omega) (by omega)] at hc30 | skip)
          refine v_iconst (v := -1) dX12_size_37 (by decide) ?_
          refine v_iret dX12_size_38 rfl rfl rfl rfl ?_
          exact hQ.fin h1 (fun x hx => by simp only [ui_ne (show x ≠ 157 by omega)]) (fun _ _ => rfl) rfl (by rw [a_size, if_neg hk0] <;> rfl)
        · rw [bI_0, Bool.not_eq_false, Bool.and_eq_true, decide_eq_true_eq, decide_eq_true_eq, Int32.le_iff_toInt_le, Int32.le_iff_toInt_le, show (nI 10).toInt = 10 from rfl, show (nI 0).toInt = 0 from rfl] at hc30; omega
    · exact absurd (by rw [hc8]; decide) hk0
end
