section
variable {b : Nat} {ad : Nat → Nat} {I : HI} {L : HL} {R : HR} {Q : QT} {a : Nat}
theorem c_X2_maskAt {i : Nat} {q : q4} (hR : RO R) (ha : SH a = .inl 2) (hi : i < 20) (hw : I (a + 1) i = nI (pk4 q)) (ho : ok4 q) (hQ : Q (some (.int (nI q.1))) SH I L R) : KK 0 mX2_maskAt b ad [.ref (b + a), .int (nI i)] I L R Q := by
  refine K.of (M := mX2_maskAt) (lv := [some (.ref (b + a)), some (.int (nI i))]) (by decide) (Nat.le_of_ble_eq_true rfl) rfl ?_
  refine v_aload_0 dX2_maskAt_0 ?_
  refine u_getR dX2_maskAt_1 gf_X2_9 (by first | assumption | exact led_1 (by assumption) | exact led_2 (by assumption) | exact bk_m (by assumption) (by first | assumption | omega) | exact bk_p (by assumption) (by first | assumption | omega) | exact bk_o (by assumption) (by first | assumption | omega) | exact bk_s (by assumption) (by first | assumption | omega) | exact bk_1 (by assumption) | exact bk_2 (by assumption) | exact bk_3 (by assumption) | exact bk_4 (by assumption) | exact bk_5 (by assumption) | exact bk_6 (by assumption) | exact bk_7 (by assumption) | exact bk_8 (by assumption) | rfl) (ro_X2_1 (by assumption) (by assumption)) ?_
  refine v_iload_1 dX2_maskAt_4 ?_
  refine u_iald dX2_maskAt_5 (by first | assumption | exact led_1 (by assumption) | exact led_2 (by assumption) | exact bk_m (by assumption) (by first | assumption | omega) | exact bk_p (by assumption) (by first | assumption | omega) | exact bk_o (by assumption) (by first | assumption | omega) | exact bk_s (by assumption) (by first | assumption | omega) | exact bk_1 (by assumption) | exact bk_2 (by assumption) | exact bk_3 (by assumption) | exact bk_4 (by assumption) | exact bk_5 (by assumption) | exact bk_6 (by assumption) | exact bk_7 (by assumption) | exact bk_8 (by assumption) | rfl) (by first | rfl | (simp only [nlit, nI_add, pk_mul]; rfl)) (by first | assumption | omega) (by first | assumption | decide) ?_
  refine v_bipush (v := nI 15) dX2_maskAt_6 (by decide) ?_
  refine v_ishr dX2_maskAt_8 ?_
  refine v_iret dX2_maskAt_9 rfl rfl rfl rfl ?_
  rw [hw, pk4_m ho]; exact hQ
theorem c_X2_firstDay {i : Nat} {q : q4} (hR : RO R) (ha : SH a = .inl 2) (hi : i < 20) (hw : I (a + 1) i = nI (pk4 q)) (ho : ok4 q) (hQ : Q (some (.int (nI q.2.2.1))) SH I L R) : KK 0 mX2_firstDay b ad [.ref (b + a), .int (nI i)] I L R Q := by
  refine K.of (M := mX2_firstDay) (lv := [some (.ref (b + a)), some (.int (nI i))]) (by decide) (Nat.le_of_ble_eq_true rfl) rfl ?_
  refine v_aload_0 dX2_firstDay_0 ?_
  refine u_getR dX2_firstDay_1 gf_X2_9 (by first | assumption | exact led_1 (by assumption) | exact led_2 (by assumption) | exact bk_m (by assumption) (by first | assumption | omega) | exact bk_p (by assumption) (by first | assumption | omega) | exact bk_o (by assumption) (by first | assumption | omega) | exact bk_s (by assumption) (by first | assumption | omega) | exact bk_1 (by assumption) | exact bk_2 (by assumption) | exact bk_3 (by assumption) | exact bk_4 (by assumption) | exact bk_5 (by assumption) | exact bk_6 (by assumption) | exact bk_7 (by assumption) | exact bk_8 (by assumption) | rfl) (ro_X2_1 (by assumption) (by assumption)) ?_
  refine v_iload_1 dX2_firstDay_4 ?_
  refine u_iald dX2_firstDay_5 (by first | assumption | exact led_1 (by assumption) | exact led_2 (by assumption) | exact bk_m (by assumption) (by first | assumption | omega) | exact bk_p (by assumption) (by first | assumption | omega) | exact bk_o (by assumption) (by first | assumption | omega) | exact bk_s (by assumption) (by first | assumption | omega) | exact bk_1 (by assumption) | exact bk_2 (by assumption) | exact bk_3 (by assumption) | exact bk_4 (by assumption) | exact bk_5 (by assumption) | exact bk_6 (by assumption) | exact bk_7 (by assumption) | exact bk_8 (by assumption) | rfl) (by first | rfl | (simp only [nlit, nI_add, pk_mul]; rfl)) (by first | assumption | omega) (by first | assumption | decide) ?_
  refine v_bipush (v := nI 10) dX2_firstDay_6 (by decide) ?_
  refine v_ishr dX2_firstDay_8 ?_
  refine v_bipush (v := nI 31) dX2_firstDay_9 (by decide) ?_
  refine v_iand dX2_firstDay_11 ?_
  refine v_iret dX2_firstDay_12 rfl rfl rfl rfl ?_
  rw [hw, pk4_f ho]; exact hQ
theorem c_X2_lastDay {i : Nat} {q : q4} (hR : RO R) (ha : SH a = .inl 2) (hi : i < 20) (hw : I (a + 1) i = nI (pk4 q)) (ho : ok4 q) (hQ : Q (some (.int (nI q.2.2.2))) SH I L R) : KK 0 mX2_lastDay b ad [.ref (b + a), .int (nI i)] I L R Q := by
  refine K.of (M := mX2_lastDay) (lv := [some (.ref (b + a)), some (.int (nI i))]) (by decide) (Nat.le_of_ble_eq_true rfl) rfl ?_
  refine v_aload_0 dX2_lastDay_0 ?_
  refine u_getR dX2_lastDay_1 gf_X2_9 (by first | assumption | exact led_1 (by assumption) | exact led_2 (by assumption) | exact bk_m (by assumption) (by first | assumption | omega) | exact bk_p (by assumption) (by first | assumption | omega) | exact bk_o (by assumption) (by first | assumption | omega) | exact bk_s (by assumption) (by first | assumption | omega) | exact bk_1 (by assumption) | exact bk_2 (by assumption) | exact bk_3 (by assumption) | exact bk_4 (by assumption) | exact bk_5 (by assumption) | exact bk_6 (by assumption) | exact bk_7 (by assumption) | exact bk_8 (by assumption) | rfl) (ro_X2_1 (by assumption) (by assumption)) ?_
  refine v_iload_1 dX2_lastDay_4 ?_
  refine u_iald dX2_lastDay_5 (by first | assumption | exact led_1 (by assumption) | exact led_2 (by assumption) | exact bk_m (by assumption) (by first | assumption | omega) | exact bk_p (by assumption) (by first | assumption | omega) | exact bk_o (by assumption) (by first | assumption | omega) | exact bk_s (by assumption) (by first | assumption | omega) | exact bk_1 (by assumption) | exact bk_2 (by assumption) | exact bk_3 (by assumption) | exact bk_4 (by assumption) | exact bk_5 (by assumption) | exact bk_6 (by assumption) | exact bk_7 (by assumption) | exact bk_8 (by assumption) | rfl) (by first | rfl | (simp only [nlit, nI_add, pk_mul]; rfl)) (by first | assumption | omega) (by first | assumption | decide) ?_
  refine v_iconst (v := nI 5) dX2_lastDay_6 (by decide) ?_
  refine v_ishr dX2_lastDay_7 ?_
  refine v_bipush (v := nI 31) dX2_lastDay_8 (by decide) ?_
  refine v_iand dX2_lastDay_10 ?_
  refine v_iret dX2_lastDay_11 rfl rfl rfl rfl ?_
  rw [hw, pk4_u ho]; exact hQ
theorem c_X2_personAt {i : Nat} {q : q4} (hR : RO R) (ha : SH a = .inl 2) (hi : i < 20) (hw : I (a + 1) i = nI (pk4 q)) (ho : ok4 q) (hQ : Q (some (.int (nI q.2.1))) SH I L R) : KK 0 mX2_personAt b ad [.ref (b + a), .int (nI i)] I L R Q := by
  refine K.of (M := mX2_personAt) (lv := [some (.ref (b + a)), some (.int (nI i))]) (by decide) (Nat.le_of_ble_eq_true rfl) rfl ?_
  refine v_aload_0 dX2_personAt_0 ?_
  refine u_getR dX2_personAt_1 gf_X2_9 (by first | assumption | exact led_1 (by assumption) | exact led_2 (by assumption) | exact bk_m (by assumption) (by first | assumption | omega) | exact bk_p (by assumption) (by first | assumption | omega) | exact bk_o (by assumption) (by first | assumption | omega) | exact bk_s (by assumption) (by first | assumption | omega) | exact bk_1 (by assumption) | exact bk_2 (by assumption) | exact bk_3 (by assumption) | exact bk_4 (by assumption) | exact bk_5 (by assumption) | exact bk_6 (by assumption) | exact bk_7 (by assumption) | exact bk_8 (by assumption) | rfl) (ro_X2_1 (by assumption) (by assumption)) ?_
  refine v_iload_1 dX2_personAt_4 ?_
  refine u_iald dX2_personAt_5 (by first | assumption | exact led_1 (by assumption) | exact led_2 (by assumption) | exact bk_m (by assumption) (by first | assumption | omega) | exact bk_p (by assumption) (by first | assumption | omega) | exact bk_o (by assumption) (by first | assumption | omega) | exact bk_s (by assumption) (by first | assumption | omega) | exact bk_1 (by assumption) | exact bk_2 (by assumption) | exact bk_3 (by assumption) | exact bk_4 (by assumption) | exact bk_5 (by assumption) | exact bk_6 (by assumption) | exact bk_7 (by assumption) | exact bk_8 (by assumption) | rfl) (by first | rfl | (simp only [nlit, nI_add, pk_mul]; rfl)) (by first | assumption | omega) (by first | assumption | decide) ?_
  refine v_bipush (v := nI 31) dX2_personAt_6 (by decide) ?_
  refine v_iand dX2_personAt_8 ?_
  refine v_iret dX2_personAt_9 rfl rfl rfl rfl ?_
  rw [hw, pk4_p ho]; exact hQ
theorem c_X2_touches {i f u : Nat} {q : q4} (hR : RO R) (ha : SH a = .inl 2) (hi : i < 20) (hw : I (a + 1) i = nI (pk4 q)) (ho : ok4 q) (hf : f < 2 ^ 31) (hu : u < 2 ^ 31) (hQ : Q (some (.int (bI (ovl q f u)))) SH I L R) : KK 1 mX2_touches b ad [.ref (b + a), .int (nI i), .int (nI f), .int (nI u)] I L R Q := by
  have ho2 := ho
  obtain ⟨o1, o2, o3, o4, o5⟩ := ho2
  refine K.of (M := mX2_touches) (lv := [some (.ref (b + a)), some (.int (nI i)), some (.int (nI f)), some (.int (nI u))]) (by decide) (Nat.le_of_ble_eq_true rfl) rfl ?_
  refine v_aload_0 dX2_touches_0 ?_
  refine v_iload_1 dX2_touches_1 ?_
  refine u_callV_1 dX2_touches_2 ml_X2_34 mv_X2_firstDay (by first | assumption | exact led_1 (by assumption) | exact led_2 (by assumption) | exact bk_m (by assumption) (by first | assumption | omega) | exact bk_p (by assumption) (by first | assumption | omega) | exact bk_o (by assumption) (by first | assumption | omega) | exact bk_s (by assumption) (by first | assumption | omega) | exact bk_1 (by assumption) | exact bk_2 (by assumption) | exact bk_3 (by assumption) | exact bk_4 (by assumption) | exact bk_5 (by assumption) | exact bk_6 (by assumption) | exact bk_7 (by assumption) | exact bk_8 (by assumption) | rfl) (by decide) rfl (by decide) (Nat.le_of_ble_eq_true rfl) (c_X2_firstDay (q := q) hR ha hi hw ho ?_)
  refine v_iload_3 dX2_touches_5 ?_
  refine v_icmp_gt (tgt := 22) dX2_touches_6 (by decide) (fun hc6 => ?_) (fun hc6 => ?_)
  · (try rw [nI_ltI (by omega) (by omega)] at hc6)
    refine v_iconst (v := nI 0) dX2_touches_22 (by decide) ?_
    refine v_zret dX2_touches_23 (by first | rfl | exact bI_n _) rfl rfl rfl rfl ?_
    first | (rw [bI_t (by simp [ovl]; omega)] at hQ; exact hQ) | (rw [bI_f (by simp [ovl]; omega)] at hQ; exact hQ)
  · (try rw [nI_ltI (by omega) (by omega)] at hc6)
    refine v_aload_0 dX2_touches_9 ?_
    refine v_iload_1 dX2_touches_10 ?_
    refine u_callV_1 dX2_touches_11 ml_X2_38 mv_X2_lastDay (by first | assumption | exact led_1 (by assumption) | exact led_2 (by assumption) | exact bk_m (by assumption) (by first | assumption | omega) | exact bk_p (by assumption) (by first | assumption | omega) | exact bk_o (by assumption) (by first | assumption | omega) | exact bk_s (by assumption) (by first | assumption | omega) | exact bk_1 (by assumption) | exact bk_2 (by assumption) | exact bk_3 (by assumption) | exact bk_4 (by assumption) | exact bk_5 (by assumption) | exact bk_6 (by assumption) | exact bk_7 (by assumption) | exact bk_8 (by assumption) | rfl) (by decide) rfl (by decide) (Nat.le_of_ble_eq_true rfl) (c_X2_lastDay (q := q) hR ha hi hw ho ?_)
    refine v_iload_2 dX2_touches_14 ?_
    refine v_icmp_lt (tgt := 22) dX2_touches_15 (by decide) (fun hc15 => ?_) (fun hc15 => ?_)
    · (try rw [nI_ltI (by omega) (by omega)] at hc15)
      refine v_iconst (v := nI 0) dX2_touches_22 (by decide) ?_
      refine v_zret dX2_touches_23 (by first | rfl | exact bI_n _) rfl rfl rfl rfl ?_
      first | (rw [bI_t (by simp [ovl]; omega)] at hQ; exact hQ) | (rw [bI_f (by simp [ovl]; omega)] at hQ; exact hQ)
    · (try rw [nI_ltI (by omega) (by omega)] at hc15)
      refine v_iconst (v := nI 1) dX2_touches_18 (by decide) ?_
      refine v_goto (tgt := 23) dX2_touches_19 (by decide) ?_
      refine v_zret dX2_touches_23 (by first | rfl | exact bI_n _) rfl rfl rfl rfl ?_
      first | (rw [bI_t (by simp [ovl]; omega)] at hQ; exact hQ) | (rw [bI_f (by simp [ovl]; omega)] at hQ; exact hQ)
theorem c_X2_find {n m d : Nat} {g : lends} (hR : RO R) (ha : SH a = .inl 2) (hL : LedI I a n g) (hm : m < 2 ^ 31) (hd : d < 2 ^ 31) (hQ : Q (some (.int (eO (fup (hitm g m d d) 0 n)))) SH I L R) : KK 2 mX2_find b ad [.ref (b + a), .int (nI m), .int (nI d)] I L R Q := by
  obtain ⟨hn, h20, hrow⟩ := hL
  refine K.of (M := mX2_find) (lv := [some (.ref (b + a)), some (.int (nI m)), some (.int (nI d)), none]) (by decide) (Nat.le_of_ble_eq_true rfl) rfl ?_
  have loop : ∀ (j i : Nat), i + j = n → Q (some (.int (eO (fup (hitm g m d d) i j)))) SH I L R → VV yX2_find cX2_find 4 (some .int) 2 Q b ad 2 [some (.ref (b + a)), some (.int (nI m)), some (.int (nI d)), some (.int (nI i))] [] I L R := by
    intro j
    induction j with
    | zero =>
      intro i hij hQ
      refine v_iload_3 dX2_find_2 ?_
      refine v_aload_0 dX2_find_3 ?_
      refine u_getI dX2_find_4 gf_X2_18 (by first | assumption | exact led_1 (by assumption) | exact led_2 (by assumption) | exact bk_m (by assumption) (by first | assumption | omega) | exact bk_p (by assumption) (by first | assumption | omega) | exact bk_o (by assumption) (by first | assumption | omega) | exact bk_s (by assumption) (by first | assumption | omega) | exact bk_1 (by assumption) | exact bk_2 (by assumption) | exact bk_3 (by assumption) | exact bk_4 (by assumption) | exact bk_5 (by assumption) | exact bk_6 (by assumption) | exact bk_7 (by assumption) | exact bk_8 (by assumption) | rfl) ?_
      rw [hn]
      refine v_icmp_ge (tgt := 37) dX2_find_7 (by decide) (fun hc7 => ?_) (fun hc7 => ?_)
      · (try rw [nI_leI (by omega) (by omega)] at hc7)
        refine v_iconst (v := -1) dX2_find_37 (by decide) ?_
        refine v_iret dX2_find_38 rfl rfl rfl rfl ?_
        exact hQ
      · (try rw [nI_leI (by omega) (by omega)] at hc7)
        exfalso; omega
    | succ j ih =>
      intro i hij hQ
      obtain ⟨hw, ho⟩ := hrow i (by omega)
      have hi : i < 20 := by omega
      have ho2 := ho
      obtain ⟨o1, o2, o3, o4, o5⟩ := ho2
      refine v_iload_3 dX2_find_2 ?_
      refine v_aload_0 dX2_find_3 ?_
      refine u_getI dX2_find_4 gf_X2_18 (by first | assumption | exact led_1 (by assumption) | exact led_2 (by assumption) | exact bk_m (by assumption) (by first | assumption | omega) | exact bk_p (by assumption) (by first | assumption | omega) | exact bk_o (by assumption) (by first | assumption | omega) | exact bk_s (by assumption) (by first | assumption | omega) | exact bk_1 (by assumption) | exact bk_2 (by assumption) | exact bk_3 (by assumption) | exact bk_4 (by assumption) | exact bk_5 (by assumption) | exact bk_6 (by assumption) | exact bk_7 (by assumption) | exact bk_8 (by assumption) | rfl) ?_
      rw [hn]
      refine v_icmp_ge (tgt := 37) dX2_find_7 (by decide) (fun hc7 => ?_) (fun hc7 => ?_)
      · (try rw [nI_leI (by omega) (by omega)] at hc7)
        exfalso; omega
      · (try rw [nI_leI (by omega) (by omega)] at hc7)
        refine v_aload_0 dX2_find_10 ?_
        refine v_iload_3 dX2_find_11 ?_
        refine u_callV_1 dX2_find_12 ml_X2_41 mv_X2_maskAt (by first | assumption | exact led_1 (by assumption) | exact led_2 (by assumption) | exact bk_m (by assumption) (by first | assumption | omega) | exact bk_p (by assumption) (by first | assumption | omega) | exact bk_o (by assumption) (by first | assumption | omega) | exact bk_s (by assumption) (by first | assumption | omega) | exact bk_1 (by assumption) | exact bk_2 (by assumption) | exact bk_3 (by assumption) | exact bk_4 (by assumption) | exact bk_5 (by assumption) | exact bk_6 (by assumption) | exact bk_7 (by assumption) | exact bk_8 (by assumption) | rfl) (by decide) rfl (by decide) (Nat.le_of_ble_eq_true rfl) (c_X2_maskAt (q := g i) hR ha hi hw ho ?_)
        refine v_iload_1 dX2_find_15 ?_
        refine v_icmp_ne (tgt := 31) dX2_find_16 (by decide) (fun hc16 => ?_) (fun hc16 => ?_)
        · (try rw [nI_eq (by omega) (by omega)] at hc16)
          refine v_iinc_3 (v := 1) rfl dX2_find_31 (by decide) ?_
          refine v_goto (tgt := 2) dX2_find_34 (by decide) ?_
          rw [← nI_succ]
          exact ih (i + 1) (by omega) (by rw [fup_f (by simp_all [hitm])] at hQ; exact hQ)
        · (try rw [nI_eq (by omega) (by omega)] at hc16)
          refine v_aload_0 dX2_find_19 ?_
          refine v_iload_3 dX2_find_20 ?_
          refine v_iload_2 dX2_find_21 ?_
          refine v_iload_2 dX2_find_22 ?_
          refine u_callV_3 dX2_find_23 ml_X2_44 mv_X2_touches (by first | assumption | exact led_1 (by assumption) | exact led_2 (by assumption) | exact bk_m (by assumption) (by first | assumption | omega) | exact bk_p (by assumption) (by first | assumption | omega) | exact bk_o (by assumption) (by first | assumption | omega) | exact bk_s (by assumption) (by first | assumption | omega) | exact bk_1 (by assumption) | exact bk_2 (by assumption) | exact bk_3 (by assumption) | exact bk_4 (by assumption) | exact bk_5 (by assumption) | exact bk_6 (by assumption) | exact bk_7 (by assumption) | exact bk_8 (by assumption) | rfl) (by decide) rfl (by decide) (Nat.le_of_ble_eq_true rfl) (c_X2_touches (q := g i) hR ha hi hw ho (by omega) (by omega) ?_)
          refine v_if_eq (tgt := 31) dX2_find_26 (by decide) (fun hc26 => ?_) (fun hc26 => ?_)
          · (first | rw [bI_0, Bool.not_eq_false] at hc26 | rw [bI_0] at hc26 | rw [show (0 : Int32) = nI 0 from rfl, nI_eq (by omega) (by omega)] at hc26 | skip)
            refine v_iinc_3 (v := 1) rfl dX2_find_31 (by decide) ?_
            refine v_goto (tgt := 2) dX2_find_34 (by decide) ?_
            rw [← nI_succ]
            exact ih (i + 1) (by omega) (by rw [fup_f (by simp_all [hitm])] at hQ; exact hQ)
          · (first | rw [bI_0, Bool.not_eq_false] at hc26 | rw [bI_0] at hc26 | rw [show (0 : Int32) = nI 0 from rfl, nI_eq (by omega) (by omega)] at hc26 | skip)
            refine v_iload_3 dX2_find_29 ?_
            refine v_iret dX2_find_30 rfl rfl rfl rfl ?_
            rw [fup_t (by simp_all [hitm])] at hQ; exact hQ
  refine v_iconst (v := nI 0) dX2_find_0 (by decide) ?_
  refine v_istore_3 rfl dX2_find_1 ?_
  exact loop n 0 (by omega) hQ
end
