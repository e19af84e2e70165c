section
variable {b : Nat} {ad : Nat → Nat} {I J : HI} {L M : HL} {R : HR} {Q : QT} {F : bkF} {s : LSt} {a o : Nat}
theorem cl_up {c w : Nat} (hc : c < 100) (hw : w < 100) : (¬ (nI c + nI w) ≤ nI 99 → (if 99 < c + w then 99 else c + w) = 99) ∧ (¬ (0 : Int32) ≤ (nI c + nI w) → (if 99 < c + w then 99 else c + w) = 0) ∧ ((0 : Int32) ≤ (nI c + nI w) → (nI c + nI w) ≤ nI 99 → (nI c + nI w) = nI (if 99 < c + w then 99 else c + w)) := by
  rw [nI_add]
  refine ⟨fun q => ?_, fun q => absurd (nI_pos2 (by omega)) q, fun _ q => ?_⟩
  · rw [nI_leI (by omega) (by decide)] at q; rw [if_pos (by omega)]
  · rw [nI_leI (by omega) (by decide)] at q; rw [if_neg (by omega)]
theorem cl_dn {c w : Nat} (hc : c < 100) (hw : w < 100) : (¬ (nI c + -nI w) ≤ nI 99 → (c - w) = 99) ∧ (¬ (0 : Int32) ≤ (nI c + -nI w) → (c - w) = 0) ∧ ((0 : Int32) ≤ (nI c + -nI w) → (nI c + -nI w) ≤ nI 99 → (nI c + -nI w) = nI (c - w)) := by
  have e : nI c + -nI w = nI c - nI w := by rw [Int32.sub_eq_add_neg]
  rw [e]
  by_cases h : w ≤ c
  · rw [pk_sub h]
    exact ⟨fun q => absurd ((nI_leI (by omega) (by decide)).mpr (by omega)) q, fun q => absurd (nI_pos2 (by omega)) q, fun _ _ => rfl⟩
  · have hn := pk_sneg (a := c) (b := w) (by omega) (by omega)
    refine ⟨fun q => absurd (Int32.le_of_lt (Int32.lt_trans hn (by decide))) q, fun _ => by omega, fun q => absurd (Int32.lt_of_le_of_lt q hn) Int32.lt_irrefl⟩
theorem l_credit {m e d c0 : Nat} (hR : RO R) (hr : RfI I F s) (hm : m < 2 ^ 31) (hd : d < 2 ^ 31) (hc0 : c0 < 100) (hQ : VV yX12_credit cX12_credit 6 (some .int) 8 Q b ad 148 [some (.ref (b + 157)), some (.int (nI m)), some (.int (nI e)), some (.int (nI (crl F s.1 s.2.1 s.2.2 m d 0 (F 4) c0))), some (.int (nI d)), some (.int (nI (F 4)))] [] I L R) : VV yX12_credit cX12_credit 6 (some .int) 8 Q b ad 54 [some (.ref (b + 157)), some (.int (nI m)), some (.int (nI e)), some (.int (nI c0)), some (.int (nI d)), some (.int (nI 0))] [] I L R := by
  have hO := hr.1.2.2.1
  have o2 := hO.2.2.1
  have o3 := hO.2.2.2.1
  have o4 := hO.2.2.2.2.1
  have o0 := hO.1
  have hF := hr.1.1.2
  have hS := hr.2.1
  have hK := hr.2.2
  have hn20 := hK.1
  have hok : ∀ i, i < s.1 → ok4 (s.2.1 i) := fun i hi => (hK.2.1 i hi).1
  have loop : ∀ (j i c : Nat), i + j = F 4 → c < 100 → crl F s.1 s.2.1 s.2.2 m d i j c = (crl F s.1 s.2.1 s.2.2 m d 0 (F 4) c0) → VV yX12_credit cX12_credit 6 (some .int) 8 Q b ad 54 [some (.ref (b + 157)), some (.int (nI m)), some (.int (nI e)), some (.int (nI c)), some (.int (nI d)), some (.int (nI i))] [] I L R := by
    intro j
    induction j with
    | zero =>
      intro i c hi hc he
      have hi : i = F 4 := hi
      have he : c = _ := he
      subst he; subst hi
      refine v_iload_5 dX12_credit_54 ?_
      refine v_aload_0 dX12_credit_56 ?_
      refine u_getR dX12_credit_57 gf_X12_20 (by first | assumption | rfl | exact led_1 (by assumption) | exact led_2 (by assumption) | exact bk_m (by assumption) (by first | assumption | omega) | exact bk_p (by assumption) (by first | assumption | omega) | exact bk_o (by assumption) (by first | assumption | omega) | exact bk_s (by assumption) (by first | assumption | omega) | exact bk_1 (by assumption) | exact bk_2 (by assumption) | exact bk_3 (by assumption) | exact bk_4 (by assumption) | exact bk_5 (by assumption) | exact bk_6 (by assumption) | exact bk_7 (by assumption) | exact bk_8 (by assumption) | exact sh_ring _ (by first | assumption | omega) | exact sh_imgs _ (by first | assumption | omega)) (ro_X12_15 (by assumption)) ?_
      refine v_iconst (v := nI 4) dX12_credit_60 (by decide) ?_
      refine u_iald dX12_credit_61 (by first | assumption | rfl | exact led_1 (by assumption) | exact led_2 (by assumption) | exact bk_m (by assumption) (by first | assumption | omega) | exact bk_p (by assumption) (by first | assumption | omega) | exact bk_o (by assumption) (by first | assumption | omega) | exact bk_s (by assumption) (by first | assumption | omega) | exact bk_1 (by assumption) | exact bk_2 (by assumption) | exact bk_3 (by assumption) | exact bk_4 (by assumption) | exact bk_5 (by assumption) | exact bk_6 (by assumption) | exact bk_7 (by assumption) | exact bk_8 (by assumption) | exact sh_ring _ (by first | assumption | omega) | exact sh_imgs _ (by first | assumption | omega)) (by first | with_reducible rfl | (simp only [nlit, nI_add, pk_mul]; with_reducible rfl) | rfl) (by first | assumption | omega) (by first | assumption | decide) ?_
      rw [hF 4 (by decide)]
      refine v_icmp_ge (tgt := 148) dX12_credit_62 (by decide) (fun hc62 => ?_) (fun hc62 => ?_)
      · (try rw [nI_leI (by omega) (by omega)] at hc62)
        exact hQ
      · exact absurd (nI_le (by omega) (by omega)) hc62
    | succ j ih =>
      intro i c hij hc he
      have hi : i < F 4 := by omega
      obtain ⟨y1, y2, y3, y4, y5, y6, y7⟩ := fk_o hO hi
      have step : ∀ c2, crs F s.1 s.2.1 s.2.2 m d i c = c2 → VV yX12_credit cX12_credit 6 (some .int) 8 Q b ad 54 [some (.ref (b + 157)), some (.int (nI m)), some (.int (nI e)), some (.int (nI c2)), some (.int (nI d)), some (.int (nI (i + 1)))] [] I L R := by
        intro c2 e2
        subst e2
        exact ih (i + 1) _ (by omega) (crs_lt hc) he
      have clamp : ∀ (v : Int32) (c2 : Nat), crs F s.1 s.2.1 s.2.2 m d i c = c2 → (¬ v ≤ nI 99 → c2 = 99) ∧ (¬ (0 : Int32) ≤ v → c2 = 0) ∧ ((0 : Int32) ≤ v → v ≤ nI 99 → v = nI c2) → VV yX12_credit cX12_credit 6 (some .int) 8 Q b ad 120 [some (.ref (b + 157)), some (.int (nI m)), some (.int (nI e)), some (.int (nI c)), some (.int (nI d)), some (.int (nI i))] [.int v] I L R := by
        intro v c2 ec ⟨H1, H2, H3⟩
        have st := step c2 ec
        refine v_istore_3 rfl dX12_credit_120 ?_
        refine v_iload_3 dX12_credit_121 ?_
        refine v_bipush (v := nI 99) dX12_credit_122 (by decide) ?_
        refine v_icmp_le (tgt := 132) dX12_credit_124 (by decide) (fun hc124 => ?_) (fun hc124 => ?_)
        · (try rw [nI_leI (by omega) (by omega)] at hc124)
          refine v_iload_3 dX12_credit_132 ?_
          refine v_if_ge (tgt := 140) dX12_credit_133 (by decide) (fun hc133 => ?_) (fun hc133 => ?_)
          · (first | rw [show (0 : Int32) = nI 0 from rfl, nI_ltI (by omega) (by omega)] at hc133 | rw [show (0 : Int32) = nI 0 from rfl, nI_leI (by omega) (by omega)] at hc133 | skip)
            refine v_iload_3 dX12_credit_140 ?_
            refine v_istore_3 rfl dX12_credit_141 ?_
            refine v_iinc_5 (v := 1) rfl dX12_credit_142 (by decide) ?_
            rw [show nI i + 1 = nI (i + 1) from nI_1 i]
            refine v_goto (tgt := 54) dX12_credit_145 (by decide) ?_
            first
              | (rw [H3 hc133 hc124]; exact st)
              | (rw [H2 hc133] at st; exact st)
              | (rw [H1 hc124] at st; exact st)
          · (first | rw [show (0 : Int32) = nI 0 from rfl, nI_ltI (by omega) (by omega)] at hc133 | rw [show (0 : Int32) = nI 0 from rfl, nI_leI (by omega) (by omega)] at hc133 | skip)
            refine v_iconst (v := nI 0) dX12_credit_136 (by decide) ?_
            refine v_goto (tgt := 141) dX12_credit_137 (by decide) ?_
            refine v_istore_3 rfl dX12_credit_141 ?_
            refine v_iinc_5 (v := 1) rfl dX12_credit_142 (by decide) ?_
            rw [show nI i + 1 = nI (i + 1) from nI_1 i]
            refine v_goto (tgt := 54) dX12_credit_145 (by decide) ?_
            first
              | (rw [H3 hc133 hc124]; exact st)
              | (rw [H2 hc133] at st; exact st)
              | (rw [H1 hc124] at st; exact st)
        · (try rw [nI_leI (by omega) (by omega)] at hc124)
          refine v_bipush (v := nI 99) dX12_credit_127 (by decide) ?_
          refine v_goto (tgt := 141) dX12_credit_129 (by decide) ?_
          refine v_istore_3 rfl dX12_credit_141 ?_
          refine v_iinc_5 (v := 1) rfl dX12_credit_142 (by decide) ?_
          rw [show nI i + 1 = nI (i + 1) from nI_1 i]
          refine v_goto (tgt := 54) dX12_credit_145 (by decide) ?_
          first
            | (rw [H3 hc133 hc124]; exact st)
            | (rw [H2 hc133] at st; exact st)
            | (rw [H1 hc124] at st; exact st)
      refine v_iload_5 dX12_credit_54 ?_
      refine v_aload_0 dX12_credit_56 ?_
      refine u_getR dX12_credit_57 gf_X12_20 (by first | assumption | rfl | exact led_1 (by assumption) | exact led_2 (by assumption) | exact bk_m (by assumption) (by first | assumption | omega) | exact bk_p (by assumption) (by first | assumption | omega) | exact bk_o (by assumption) (by first | assumption | omega) | exact bk_s (by assumption) (by first | assumption | omega) | exact bk_1 (by assumption) | exact bk_2 (by assumption) | exact bk_3 (by assumption) | exact bk_4 (by assumption) | exact bk_5 (by assumption) | exact bk_6 (by assumption) | exact bk_7 (by assumption) | exact bk_8 (by assumption) | exact sh_ring _ (by first | assumption | omega) | exact sh_imgs _ (by first | assumption | omega)) (ro_X12_15 (by assumption)) ?_
      refine v_iconst (v := nI 4) dX12_credit_60 (by decide) ?_
      refine u_iald dX12_credit_61 (by first | assumption | rfl | exact led_1 (by assumption) | exact led_2 (by assumption) | exact bk_m (by assumption) (by first | assumption | omega) | exact bk_p (by assumption) (by first | assumption | omega) | exact bk_o (by assumption) (by first | assumption | omega) | exact bk_s (by assumption) (by first | assumption | omega) | exact bk_1 (by assumption) | exact bk_2 (by assumption) | exact bk_3 (by assumption) | exact bk_4 (by assumption) | exact bk_5 (by assumption) | exact bk_6 (by assumption) | exact bk_7 (by assumption) | exact bk_8 (by assumption) | exact sh_ring _ (by first | assumption | omega) | exact sh_imgs _ (by first | assumption | omega)) (by first | with_reducible rfl | (simp only [nlit, nI_add, pk_mul]; with_reducible rfl) | rfl) (by first | assumption | omega) (by first | assumption | decide) ?_
      rw [hF 4 (by decide)]
      refine v_icmp_ge (tgt := 148) dX12_credit_62 (by decide) (fun hc62 => ?_) (fun hc62 => ?_)
      · exact absurd hc62 (nI_ge (by omega) (by omega))
      · (try rw [nI_leI (by omega) (by omega)] at hc62)
        refine v_aload_0 dX12_credit_65 ?_
        refine v_iload_5 dX12_credit_66 ?_
        refine v_iconst (v := nI 0) dX12_credit_68 (by decide) ?_
        refine u_callV_2 dX12_credit_69 ml_X12_319 mv_X12_own (by first | assumption | rfl | exact led_1 (by assumption) | exact led_2 (by assumption) | exact bk_m (by assumption) (by first | assumption | omega) | exact bk_p (by assumption) (by first | assumption | omega) | exact bk_o (by assumption) (by first | assumption | omega) | exact bk_s (by assumption) (by first | assumption | omega) | exact bk_1 (by assumption) | exact bk_2 (by assumption) | exact bk_3 (by assumption) | exact bk_4 (by assumption) | exact bk_5 (by assumption) | exact bk_6 (by assumption) | exact bk_7 (by assumption) | exact bk_8 (by assumption) | exact sh_ring _ (by first | assumption | omega) | exact sh_imgs _ (by first | assumption | omega)) (by decide) rfl (by decide) (Nat.le_of_ble_eq_true rfl) (c_X12_own (k := 56 + 6 * i) hR hr.1.1 (by omega) (by decide) (by omega) ?_)
        refine v_iload_1 dX12_credit_72 ?_
        refine v_icmp_ne (tgt := 142) dX12_credit_73 (by decide) (fun hc73 => ?_) (fun hc73 => ?_)
        · (try rw [nI_eq (by omega) (by omega)] at hc73)
          refine v_iinc_5 (v := 1) rfl dX12_credit_142 (by decide) ?_
          rw [show nI i + 1 = nI (i + 1) from nI_1 i]
          refine v_goto (tgt := 54) dX12_credit_145 (by decide) ?_
          refine step _ ?_
          unfold crs isOfV
          first
            | (rw [decide_eq_false hc73, Bool.false_and]; rfl)
            | (rw [decide_eq_false hc85, Bool.and_false]; rfl)
        · (try rw [nI_eq (by omega) (by omega)] at hc73)
          refine v_aload_0 dX12_credit_76 ?_
          refine v_iload_5 dX12_credit_77 ?_
          refine v_iconst (v := nI 2) dX12_credit_79 (by decide) ?_
          refine u_callV_2 dX12_credit_80 ml_X12_319 mv_X12_own (by first | assumption | rfl | exact led_1 (by assumption) | exact led_2 (by assumption) | exact bk_m (by assumption) (by first | assumption | omega) | exact bk_p (by assumption) (by first | assumption | omega) | exact bk_o (by assumption) (by first | assumption | omega) | exact bk_s (by assumption) (by first | assumption | omega) | exact bk_1 (by assumption) | exact bk_2 (by assumption) | exact bk_3 (by assumption) | exact bk_4 (by assumption) | exact bk_5 (by assumption) | exact bk_6 (by assumption) | exact bk_7 (by assumption) | exact bk_8 (by assumption) | exact sh_ring _ (by first | assumption | omega) | exact sh_imgs _ (by first | assumption | omega)) (by decide) rfl (by decide) (Nat.le_of_ble_eq_true rfl) (c_X12_own (k := 58 + 6 * i) hR hr.1.1 (by omega) (by decide) (by omega) ?_)
          refine v_iload_4 dX12_credit_83 ?_
          refine v_icmp_eq (tgt := 91) dX12_credit_85 (by decide) (fun hc85 => ?_) (fun hc85 => ?_)
          · (try rw [nI_eq (by omega) (by omega)] at hc85)
            refine v_iload_3 dX12_credit_91 ?_
            refine v_aload_0 dX12_credit_92 ?_
            refine v_iload_5 dX12_credit_93 ?_
            refine u_callV_1 dX12_credit_95 ml_X12_334 mv_X12_isDone (by first | assumption | rfl | exact led_1 (by assumption) | exact led_2 (by assumption) | exact bk_m (by assumption) (by first | assumption | omega) | exact bk_p (by assumption) (by first | assumption | omega) | exact bk_o (by assumption) (by first | assumption | omega) | exact bk_s (by assumption) (by first | assumption | omega) | exact bk_1 (by assumption) | exact bk_2 (by assumption) | exact bk_3 (by assumption) | exact bk_4 (by assumption) | exact bk_5 (by assumption) | exact bk_6 (by assumption) | exact bk_7 (by assumption) | exact bk_8 (by assumption) | exact sh_ring _ (by first | assumption | omega) | exact sh_imgs _ (by first | assumption | omega)) (by decide) rfl (by decide) (Nat.le_of_ble_eq_true rfl) (c_X12_isDone hR hr hi ?_)
            refine v_if_eq (tgt := 111) dX12_credit_98 (by decide) (fun hc98 => ?_) (fun hc98 => ?_)
            · (first | rw [bI_0, Bool.not_eq_false] at hc98 | rw [bI_0] at hc98 | rw [show (0 : Int32) = nI 0 from rfl, nI_eq (by omega) (by omega)] at hc98 | skip)
              refine v_aload_0 dX12_credit_111 ?_
              refine v_iload_5 dX12_credit_112 ?_
              refine v_iconst (v := nI 4) dX12_credit_114 (by decide) ?_
              refine u_callV_2 dX12_credit_115 ml_X12_319 mv_X12_own (by first | assumption | rfl | exact led_1 (by assumption) | exact led_2 (by assumption) | exact bk_m (by assumption) (by first | assumption | omega) | exact bk_p (by assumption) (by first | assumption | omega) | exact bk_o (by assumption) (by first | assumption | omega) | exact bk_s (by assumption) (by first | assumption | omega) | exact bk_1 (by assumption) | exact bk_2 (by assumption) | exact bk_3 (by assumption) | exact bk_4 (by assumption) | exact bk_5 (by assumption) | exact bk_6 (by assumption) | exact bk_7 (by assumption) | exact bk_8 (by assumption) | exact sh_ring _ (by first | assumption | omega) | exact sh_imgs _ (by first | assumption | omega)) (by decide) rfl (by decide) (Nat.le_of_ble_eq_true rfl) (c_X12_own (k := 60 + 6 * i) hR hr.1.1 (by omega) (by decide) (by omega) ?_)
              refine v_ineg dX12_credit_118 ?_
              refine v_iadd dX12_credit_119 ?_
              first
                | (refine clamp _ _ ?_ (cl_up hc y5); unfold crs isOfV; rw [decide_eq_true hc73, decide_eq_true hc85, hc98]; rfl)
                | (refine clamp _ _ ?_ (cl_dn hc y6); unfold crs isOfV; rw [decide_eq_true hc73, decide_eq_true hc85, hc98]; rfl)
            · (first | rw [bI_0, Bool.not_eq_false] at hc98 | rw [bI_0] at hc98 | rw [show (0 : Int32) = nI 0 from rfl, nI_eq (by omega) (by omega)] at hc98 | skip)
              refine v_aload_0 dX12_credit_101 ?_
              refine v_iload_5 dX12_credit_102 ?_
              refine v_iconst (v := nI 3) dX12_credit_104 (by decide) ?_
              refine u_callV_2 dX12_credit_105 ml_X12_319 mv_X12_own (by first | assumption | rfl | exact led_1 (by assumption) | exact led_2 (by assumption) | exact bk_m (by assumption) (by first | assumption | omega) | exact bk_p (by assumption) (by first | assumption | omega) | exact bk_o (by assumption) (by first | assumption | omega) | exact bk_s (by assumption) (by first | assumption | omega) | exact bk_1 (by assumption) | exact bk_2 (by assumption) | exact bk_3 (by assumption) | exact bk_4 (by assumption) | exact bk_5 (by assumption) | exact bk_6 (by assumption) | exact bk_7 (by assumption) | exact bk_8 (by assumption) | exact sh_ring _ (by first | assumption | omega) | exact sh_imgs _ (by first | assumption | omega)) (by decide) rfl (by decide) (Nat.le_of_ble_eq_true rfl) (c_X12_own (k := 59 + 6 * i) hR hr.1.1 (by omega) (by decide) (by omega) ?_)
              refine v_goto (tgt := 119) dX12_credit_108 (by decide) ?_
              refine v_iadd dX12_credit_119 ?_
              first
                | (refine clamp _ _ ?_ (cl_up hc y5); unfold crs isOfV; rw [decide_eq_true hc73, decide_eq_true hc85, hc98]; rfl)
                | (refine clamp _ _ ?_ (cl_dn hc y6); unfold crs isOfV; rw [decide_eq_true hc73, decide_eq_true hc85, hc98]; rfl)
          · (try rw [nI_eq (by omega) (by omega)] at hc85)
            refine v_goto (tgt := 142) dX12_credit_88 (by decide) ?_
            refine v_iinc_5 (v := 1) rfl dX12_credit_142 (by decide) ?_
            rw [show nI i + 1 = nI (i + 1) from nI_1 i]
            refine v_goto (tgt := 54) dX12_credit_145 (by decide) ?_
            refine step _ ?_
            unfold crs isOfV
            first
              | (rw [decide_eq_false hc73, Bool.false_and]; rfl)
              | (rw [decide_eq_false hc85, Bool.and_false]; rfl)
  exact loop (F 4) 0 c0 (by omega) hc0 rfl
theorem l_creditD {m e : Nat} (hR : RO R) (hr : RfI I F s) (hm : m < 2 ^ 31) (he : e ≤ 20) (hQ : ∀ c d w, c = crd F s.1 s.2.1 s.2.2 m 1 e (F (20 + m)) → VV yX12_credit cX12_credit 6 (some .int) 8 Q b ad 154 [some (.ref (b + 157)), some (.int (nI m)), some (.int (nI e)), some (.int (nI c)), some (.int (nI d)), some (.int (nI w))] [] I L R) (hQb : ∀ c d w, c = crd F s.1 s.2.1 s.2.2 m 1 e (F (20 + m)) → VV yX12_credit cX12_credit 6 (some .int) 8 Q b ad 154 [some (.ref (b + 157)), some (.int (nI m)), some (.int (nI e)), some (.int (nI c)), some (.int (nI d)), w] [] I L R) (h20 : F (20 + m) < 100) : VV yX12_credit cX12_credit 6 (some .int) 8 Q b ad 45 [some (.ref (b + 157)), some (.int (nI m)), some (.int (nI e)), some (.int (nI (F (20 + m)))), some (.int (nI 1)), none] [] I L R := by
  have hO := hr.1.2.2.1
  have o2 := hO.2.2.1
  have o3 := hO.2.2.2.1
  have o4 := hO.2.2.2.2.1
  have o0 := hO.1
  have hF := hr.1.1.2
  have hS := hr.2.1
  have hK := hr.2.2
  have hn20 := hK.1
  have hok : ∀ i, i < s.1 → ok4 (s.2.1 i) := fun i hi => (hK.2.1 i hi).1
  have loop : ∀ (j d c : Nat) (w : Option Value), d + j = e + 1 → c < 100 → crd F s.1 s.2.1 s.2.2 m d j c = crd F s.1 s.2.1 s.2.2 m 1 e (F (20 + m)) → VV yX12_credit cX12_credit 6 (some .int) 8 Q b ad 45 [some (.ref (b + 157)), some (.int (nI m)), some (.int (nI e)), some (.int (nI c)), some (.int (nI d)), w] [] I L R := by
    intro j
    induction j with
    | zero =>
      intro d c w hi hc hE
      have hi : d = e + 1 := hi
      have hE : c = _ := hE
      refine v_iload_4 dX12_credit_45 ?_
      refine v_iload_2 dX12_credit_47 ?_
      refine v_icmp_gt (tgt := 154) dX12_credit_48 (by decide) (fun hc48 => ?_) (fun hc48 => ?_)
      · (try rw [nI_ltI (by omega) (by omega)] at hc48)
        exact hQb _ _ _ hE
      · first | exact absurd ((nI_ltI (by omega) (by omega)).mpr (by omega)) hc48 | (rw [nI_leI (by omega) (by omega)] at hc48; omega) | omega
    | succ j ih =>
      intro d c w hij hc hE
      refine v_iload_4 dX12_credit_45 ?_
      refine v_iload_2 dX12_credit_47 ?_
      refine v_icmp_gt (tgt := 154) dX12_credit_48 (by decide) (fun hc48 => ?_) (fun hc48 => ?_)
      · first | (have q := (nI_ltI (by omega) (by omega)).mp hc48; omega) | omega
      · (try rw [nI_ltI (by omega) (by omega)] at hc48)
        refine v_iconst (v := nI 0) dX12_credit_51 (by decide) ?_
        refine v_istore_5 rfl dX12_credit_52 ?_
        refine l_credit hR hr hm (by omega) hc ?_
        refine v_iinc_4 (v := 1) rfl dX12_credit_148 (by decide) ?_
        rw [show nI d + 1 = nI (d + 1) from nI_1 d]
        refine v_goto (tgt := 45) dX12_credit_151 (by decide) ?_
        exact ih (d + 1) _ _ (by omega) (crl_lt _ _ _ hc) hE
  exact loop e 1 _ _ (by omega) h20 rfl
end
section
variable {b : Nat} {ad : Nat → Nat} {I J : HI} {L M : HL} {R : HR} {Q : QT} {tp : Nat → Nat} {nt tr fa pl : Nat} {F : bkF} {S : Nat → LSt} {u r : Nat} {im : Nat → LSt} {ic : Nat}
theorem r_credit {x : Int32} {y : Int32} (hR : RO R) (h : RefB I tp nt tr fa pl F S u r im ic) (hQ : YQ I L R tp nt (t_credit F (S 0) x y) fa pl F S u r im ic (a_credit F (S 0) x y) Q) : KK 8 mX12_credit b ad [.ref (b + 157), .int x, .int y] I L R Q := by
  have hO := h.2.2.1.1.2.2.1
  have o0 := hO.1
  have o1 := hO.2.1
  have o2 := hO.2.2.1
  have o3 := hO.2.2.2.1
  have o4 := hO.2.2.2.2.1
  have o5 := hO.2.2.2.2.2.1
  have o6 := hO.2.2.2.2.2.2.1
  have hK := h.2.2.1.2.2
  have hn20 := hK.1
  have hok : ∀ i, i < (S 0).1 → ok4 ((S 0).2.1 i) := fun i hi => (hK.2.1 i hi).1
  refine K.of (M := mX12_credit) (lv := [some (.ref (b + 157)), some (.int x), some (.int y), none, none, none]) (by decide) (Nat.le_of_ble_eq_true rfl) rfl ?_
  refine v_aload_0 dX12_credit_0 ?_
  refine u_callV_0 dX12_credit_1 ml_X12_173 mv_X12_good (by first | assumption | rfl | exact led_1 (by assumption) | exact led_2 (by assumption) | exact bk_m (by assumption) (by first | assumption | omega) | exact bk_p (by assumption) (by first | assumption | omega) | exact bk_o (by assumption) (by first | assumption | omega) | exact bk_s (by assumption) (by first | assumption | omega) | exact bk_1 (by assumption) | exact bk_2 (by assumption) | exact bk_3 (by assumption) | exact bk_4 (by assumption) | exact bk_5 (by assumption) | exact bk_6 (by assumption) | exact bk_7 (by assumption) | exact bk_8 (by assumption) | exact sh_ring _ (by first | assumption | omega) | exact sh_imgs _ (by first | assumption | omega)) (by decide) rfl (by decide) (Nat.le_of_ble_eq_true rfl) (c_X12_good ?_)
  have h := rf_good h
  have hr : RfI _ F (S 0) := h.2.2.1
  have hS := hr.2.1
  refine v_aload_0 dX12_credit_4 ?_
  refine v_iload_1 dX12_credit_5 ?_
  refine u_callV_1 dX12_credit_6 ml_X12_307 mv_X12_isMask (by first | assumption | rfl | exact led_1 (by assumption) | exact led_2 (by assumption) | exact bk_m (by assumption) (by first | assumption | omega) | exact bk_p (by assumption) (by first | assumption | omega) | exact bk_o (by assumption) (by first | assumption | omega) | exact bk_s (by assumption) (by first | assumption | omega) | exact bk_1 (by assumption) | exact bk_2 (by assumption) | exact bk_3 (by assumption) | exact bk_4 (by assumption) | exact bk_5 (by assumption) | exact bk_6 (by assumption) | exact bk_7 (by assumption) | exact bk_8 (by assumption) | exact sh_ring _ (by first | assumption | omega) | exact sh_imgs _ (by first | assumption | omega)) (by decide) rfl (by decide) (Nat.le_of_ble_eq_true rfl) (c_X12_isMask hR hr.1 ?_)
  refine v_if_ne (tgt := 18) dX12_credit_9 (by decide) (fun hc9 => ?_) (fun hc9 => ?_)
  · (first | rw [bI_0, Bool.not_eq_false] at hc9 | rw [bI_0] at hc9 | rw [show (0 : Int32) = nI 0 from rfl, nI_eq (by omega) (by omega)] at hc9 | skip)
    refine v_aload_0 dX12_credit_18 ?_
    refine v_iload_2 dX12_credit_19 ?_
    refine u_callV_1 dX12_credit_20 ml_X12_337 mv_X12_isDayOrNone (by first | assumption | rfl | exact led_1 (by assumption) | exact led_2 (by assumption) | exact bk_m (by assumption) (by first | assumption | omega) | exact bk_p (by assumption) (by first | assumption | omega) | exact bk_o (by assumption) (by first | assumption | omega) | exact bk_s (by assumption) (by first | assumption | omega) | exact bk_1 (by assumption) | exact bk_2 (by assumption) | exact bk_3 (by assumption) | exact bk_4 (by assumption) | exact bk_5 (by assumption) | exact bk_6 (by assumption) | exact bk_7 (by assumption) | exact bk_8 (by assumption) | exact sh_ring _ (by first | assumption | omega) | exact sh_imgs _ (by first | assumption | omega)) (by decide) rfl (by decide) (Nat.le_of_ble_eq_true rfl) (c_X12_isDayOrNone hR hr.1 ?_)
    refine v_if_ne (tgt := 32) dX12_credit_23 (by decide) (fun hc23 => ?_) (fun hc23 => ?_)
    · (first | rw [bI_0, Bool.not_eq_false] at hc23 | rw [bI_0] at hc23 | rw [show (0 : Int32) = nI 0 from rfl, nI_eq (by omega) (by omega)] at hc23 | skip)
      obtain ⟨m, rfl, hm⟩ := inb_ex (by omega) hc9
      have em : tN (nI m) = m := tN_nI (by omega)
      obtain ⟨e, rfl, he⟩ := indn_ex (by omega) hc23
      have ee : tN (nI e) = e := tN_nI (by omega)
      have h20 := (fk_m hO hm).2.2
      refine v_aload_0 dX12_credit_32 ?_
      refine u_getR dX12_credit_33 gf_X12_20 (by first | assumption | rfl | exact led_1 (by assumption) | exact led_2 (by assumption) | exact bk_m (by assumption) (by first | assumption | omega) | exact bk_p (by assumption) (by first | assumption | omega) | exact bk_o (by assumption) (by first | assumption | omega) | exact bk_s (by assumption) (by first | assumption | omega) | exact bk_1 (by assumption) | exact bk_2 (by assumption) | exact bk_3 (by assumption) | exact bk_4 (by assumption) | exact bk_5 (by assumption) | exact bk_6 (by assumption) | exact bk_7 (by assumption) | exact bk_8 (by assumption) | exact sh_ring _ (by first | assumption | omega) | exact sh_imgs _ (by first | assumption | omega)) (ro_X12_15 (by assumption)) ?_
      refine v_bipush (v := nI 20) dX12_credit_36 (by decide) ?_
      refine v_iload_1 dX12_credit_38 ?_
      refine v_iadd dX12_credit_39 ?_
      refine u_iald dX12_credit_40 (by first | assumption | rfl | exact led_1 (by assumption) | exact led_2 (by assumption) | exact bk_m (by assumption) (by first | assumption | omega) | exact bk_p (by assumption) (by first | assumption | omega) | exact bk_o (by assumption) (by first | assumption | omega) | exact bk_s (by assumption) (by first | assumption | omega) | exact bk_1 (by assumption) | exact bk_2 (by assumption) | exact bk_3 (by assumption) | exact bk_4 (by assumption) | exact bk_5 (by assumption) | exact bk_6 (by assumption) | exact bk_7 (by assumption) | exact bk_8 (by assumption) | exact sh_ring _ (by first | assumption | omega) | exact sh_imgs _ (by first | assumption | omega)) (by first | with_reducible rfl | (simp only [nlit, nI_add, pk_mul]; with_reducible rfl) | rfl) (by first | assumption | omega) (by first | assumption | decide) ?_
      rw [hr.1.1.2 _ (by omega)]
      refine v_istore_3 rfl dX12_credit_41 ?_
      refine v_iconst (v := nI 1) dX12_credit_42 (by decide) ?_
      refine v_istore_4 rfl dX12_credit_43 ?_
      refine l_creditD (s := S 0) hR hr (by omega) (by omega) (fun c d w ec => ?_) (fun c d w ec => ?_) h20
      ·
        refine v_iload_3 dX12_credit_154 ?_
        refine v_iret dX12_credit_155 rfl rfl rfl rfl ?_
        exact hQ.fin h (fun x hx => by simp only [ui_ne (show x ≠ 157 by omega)]) (fun _ _ => rfl) (by simp [t_credit, trc, hc9, hc23]) (by rw [a_credit, if_pos (by rw [hc9, hc23]; rfl), em, ee, ec])
      ·
        refine v_iload_3 dX12_credit_154 ?_
        refine v_iret dX12_credit_155 rfl rfl rfl rfl ?_
        exact hQ.fin h (fun x hx => by simp only [ui_ne (show x ≠ 157 by omega)]) (fun _ _ => rfl) (by simp [t_credit, trc, hc9, hc23]) (by rw [a_credit, if_pos (by rw [hc9, hc23]; rfl), em, ee, ec])
    · (first | rw [bI_0, Bool.not_eq_false] at hc23 | rw [bI_0] at hc23 | rw [show (0 : Int32) = nI 0 from rfl, nI_eq (by omega) (by omega)] at hc23 | skip)
      refine v_aload_0 dX12_credit_26 ?_
      refine v_iconst (v := nI 2) dX12_credit_27 (by decide) ?_
      refine u_callV_1 dX12_credit_28 ml_X12_176 mv_X12_no (by first | assumption | rfl | exact led_1 (by assumption) | exact led_2 (by assumption) | exact bk_m (by assumption) (by first | assumption | omega) | exact bk_p (by assumption) (by first | assumption | omega) | exact bk_o (by assumption) (by first | assumption | omega) | exact bk_s (by assumption) (by first | assumption | omega) | exact bk_1 (by assumption) | exact bk_2 (by assumption) | exact bk_3 (by assumption) | exact bk_4 (by assumption) | exact bk_5 (by assumption) | exact bk_6 (by assumption) | exact bk_7 (by assumption) | exact bk_8 (by assumption) | exact sh_ring _ (by first | assumption | omega) | exact sh_imgs _ (by first | assumption | omega)) (by decide) rfl (by decide) (Nat.le_of_ble_eq_true rfl) (c_X12_no (k := 2) ?_)
      refine v_iret dX12_credit_31 rfl rfl rfl rfl ?_
      first
        | exact hQ.fin h (fun x hx => by simp only [ui_ne (show x ≠ 157 by omega)]) (fun _ _ => rfl) (by simp [t_credit, trc, hc9, hc23] <;> rfl) (by simp [a_credit, hc9, hc23] <;> rfl)
        | exact hQ.fin (rf_tr h (by decide)) (fun x hx => by simp only [ui_ne (show x ≠ 157 by omega)]) (fun _ _ => rfl) (by simp [t_credit, trc, hc9, hc23] <;> rfl) (by simp [a_credit, hc9, hc23] <;> rfl)
  · (first | rw [bI_0, Bool.not_eq_false] at hc9 | rw [bI_0] at hc9 | rw [show (0 : Int32) = nI 0 from rfl, nI_eq (by omega) (by omega)] at hc9 | skip)
    refine v_aload_0 dX12_credit_12 ?_
    refine v_iconst (v := nI 1) dX12_credit_13 (by decide) ?_
    refine u_callV_1 dX12_credit_14 ml_X12_176 mv_X12_no (by first | assumption | rfl | exact led_1 (by assumption) | exact led_2 (by assumption) | exact bk_m (by assumption) (by first | assumption | omega) | exact bk_p (by assumption) (by first | assumption | omega) | exact bk_o (by assumption) (by first | assumption | omega) | exact bk_s (by assumption) (by first | assumption | omega) | exact bk_1 (by assumption) | exact bk_2 (by assumption) | exact bk_3 (by assumption) | exact bk_4 (by assumption) | exact bk_5 (by assumption) | exact bk_6 (by assumption) | exact bk_7 (by assumption) | exact bk_8 (by assumption) | exact sh_ring _ (by first | assumption | omega) | exact sh_imgs _ (by first | assumption | omega)) (by decide) rfl (by decide) (Nat.le_of_ble_eq_true rfl) (c_X12_no (k := 1) ?_)
    refine v_iret dX12_credit_17 rfl rfl rfl rfl ?_
    first
      | exact hQ.fin h (fun x hx => by simp only [ui_ne (show x ≠ 157 by omega)]) (fun _ _ => rfl) (by simp [t_credit, trc, hc9] <;> rfl) (by simp [a_credit, hc9] <;> rfl)
      | exact hQ.fin (rf_tr h (by decide)) (fun x hx => by simp only [ui_ne (show x ≠ 157 by omega)]) (fun _ _ => rfl) (by simp [t_credit, trc, hc9] <;> rfl) (by simp [a_credit, hc9] <;> rfl)
end
