section
variable {b : Nat} {ad : Nat → Nat} {I : HI} {L : HL} {R : HR} {Q : QT} {a : Nat}
theorem c_X2_personIn {n m d : Nat} {g : lends} (hR : RO R) (ha : SH a = .inl 2) (hL : LedI I a n g) (hm : m < 2 ^ 31) (hd : d < 2 ^ 31) (hQ : Q (some (.int (eM g (fun q => q.2.1) (fup (hitm g m d d) 0 n)))) SH I L R) : KK 3 mX2_personIn b ad [.ref (b + a), .int (nI m), .int (nI d)] I L R Q := by
  have h20 := hL.2.1
  refine K.of (M := mX2_personIn) (lv := [some (.ref (b + a)), some (.int (nI m)), some (.int (nI d)), none]) (by decide) (Nat.le_of_ble_eq_true rfl) rfl ?_
  refine v_aload_0 dX2_personIn_0 ?_
  refine v_iload_1 dX2_personIn_1 ?_
  refine v_iload_2 dX2_personIn_2 ?_
  refine u_callV_2 dX2_personIn_3 ml_X2_48 mv_X2_find (by first | assumption | exact led_1 (by assumption) | exact led_2 (by assumption) | exact bk_m (by assumption) (by first | assumption | omega) | exact bk_p (by assumption) (by first | assumption | omega) | exact bk_o (by assumption) (by first | assumption | omega) | exact bk_s (by assumption) (by first | assumption | omega) | exact bk_1 (by assumption) | exact bk_2 (by assumption) | exact bk_3 (by assumption) | exact bk_4 (by assumption) | exact bk_5 (by assumption) | exact bk_6 (by assumption) | exact bk_7 (by assumption) | exact bk_8 (by assumption) | rfl) (by decide) rfl (by decide) (Nat.le_of_ble_eq_true rfl) (c_X2_find hR ha hL hm hd ?_)
  refine v_istore_3 rfl dX2_personIn_6 ?_
  cases hf : fup (hitm g m d d) 0 n with
  | none =>
    rw [hf] at hQ
    simp only [eO]
    refine v_iload_3 dX2_personIn_7 ?_
    refine v_if_ge (tgt := 16) dX2_personIn_8 (by decide) (fun hc => absurd hc (by decide)) (fun hc => ?_)
    refine v_bipush (v := -2) dX2_personIn_11 (by decide) ?_
    refine v_goto (tgt := 21) dX2_personIn_13 (by decide) ?_
    refine v_iret dX2_personIn_21 rfl rfl rfl rfl ?_
    exact hQ
  | some i =>
    rw [hf] at hQ
    obtain ⟨_, f2, _⟩ := fup_some hf
    have hi : i < n := by omega
    simp only [eO]
    refine v_iload_3 dX2_personIn_7 ?_
    refine v_if_ge (tgt := 16) dX2_personIn_8 (by decide) (fun hc => ?_) (fun hc => absurd (nI_pos' (by omega)) hc)
    refine v_aload_0 dX2_personIn_16 ?_
    refine v_iload_3 dX2_personIn_17 ?_
    refine u_callV_1 dX2_personIn_18 ml_X2_52 mv_X2_personAt (by assumption) (by decide) rfl (by decide) (Nat.le_of_ble_eq_true rfl) (c_X2_personAt (q := g i) hR ha (by omega) (hL.2.2 i hi).1 (hL.2.2 i hi).2 ?_)
    refine v_iret dX2_personIn_21 rfl rfl rfl rfl ?_
    exact hQ
theorem c_X2_maskOf {n p d : Nat} {g : lends} (hR : RO R) (ha : SH a = .inl 2) (hL : LedI I a n g) (hm : p < 2 ^ 31) (hd : d < 2 ^ 31) (hQ : Q (some (.int (eM g (fun q => q.1) (fup (hitp g p d d) 0 n)))) SH I L R) : KK 2 mX2_maskOf b ad [.ref (b + a), .int (nI p), .int (nI d)] I L R Q := by
  obtain ⟨hn, h20, hrow⟩ := hL
  refine K.of (M := mX2_maskOf) (lv := [some (.ref (b + a)), some (.int (nI p)), some (.int (nI d)), none]) (by decide) (Nat.le_of_ble_eq_true rfl) rfl ?_
  have loop : ∀ (j i : Nat), i + j = n → Q (some (.int (eM g (fun q => q.1) (fup (hitp g p d d) i j)))) SH I L R → VV yX2_maskOf cX2_maskOf 4 (some .int) 2 Q b ad 2 [some (.ref (b + a)), some (.int (nI p)), some (.int (nI d)), some (.int (nI i))] [] I L R := by
    intro j
    induction j with
    | zero =>
      intro i hij hQ
      refine v_iload_3 dX2_maskOf_2 ?_
      refine v_aload_0 dX2_maskOf_3 ?_
      refine u_getI dX2_maskOf_4 gf_X2_18 (by first | assumption | exact led_1 (by assumption) | exact led_2 (by assumption) | exact bk_m (by assumption) (by first | assumption | omega) | exact bk_p (by assumption) (by first | assumption | omega) | exact bk_o (by assumption) (by first | assumption | omega) | exact bk_s (by assumption) (by first | assumption | omega) | exact bk_1 (by assumption) | exact bk_2 (by assumption) | exact bk_3 (by assumption) | exact bk_4 (by assumption) | exact bk_5 (by assumption) | exact bk_6 (by assumption) | exact bk_7 (by assumption) | exact bk_8 (by assumption) | rfl) ?_
      rw [hn]
      refine v_icmp_ge (tgt := 41) dX2_maskOf_7 (by decide) (fun hc7 => ?_) (fun hc7 => ?_)
      · (try rw [nI_leI (by omega) (by omega)] at hc7)
        refine v_bipush (v := -2) dX2_maskOf_41 (by decide) ?_
        refine v_iret dX2_maskOf_43 rfl rfl rfl rfl ?_
        exact hQ
      · (try rw [nI_leI (by omega) (by omega)] at hc7)
        exfalso; omega
    | succ j ih =>
      intro i hij hQ
      obtain ⟨hw, ho⟩ := hrow i (by omega)
      have hi : i < 20 := by omega
      have ho2 := ho
      obtain ⟨o1, o2, o3, o4, o5⟩ := ho2
      refine v_iload_3 dX2_maskOf_2 ?_
      refine v_aload_0 dX2_maskOf_3 ?_
      refine u_getI dX2_maskOf_4 gf_X2_18 (by first | assumption | exact led_1 (by assumption) | exact led_2 (by assumption) | exact bk_m (by assumption) (by first | assumption | omega) | exact bk_p (by assumption) (by first | assumption | omega) | exact bk_o (by assumption) (by first | assumption | omega) | exact bk_s (by assumption) (by first | assumption | omega) | exact bk_1 (by assumption) | exact bk_2 (by assumption) | exact bk_3 (by assumption) | exact bk_4 (by assumption) | exact bk_5 (by assumption) | exact bk_6 (by assumption) | exact bk_7 (by assumption) | exact bk_8 (by assumption) | rfl) ?_
      rw [hn]
      refine v_icmp_ge (tgt := 41) dX2_maskOf_7 (by decide) (fun hc7 => ?_) (fun hc7 => ?_)
      · (try rw [nI_leI (by omega) (by omega)] at hc7)
        exfalso; omega
      · (try rw [nI_leI (by omega) (by omega)] at hc7)
        refine v_aload_0 dX2_maskOf_10 ?_
        refine v_iload_3 dX2_maskOf_11 ?_
        refine u_callV_1 dX2_maskOf_12 ml_X2_52 mv_X2_personAt (by first | assumption | exact led_1 (by assumption) | exact led_2 (by assumption) | exact bk_m (by assumption) (by first | assumption | omega) | exact bk_p (by assumption) (by first | assumption | omega) | exact bk_o (by assumption) (by first | assumption | omega) | exact bk_s (by assumption) (by first | assumption | omega) | exact bk_1 (by assumption) | exact bk_2 (by assumption) | exact bk_3 (by assumption) | exact bk_4 (by assumption) | exact bk_5 (by assumption) | exact bk_6 (by assumption) | exact bk_7 (by assumption) | exact bk_8 (by assumption) | rfl) (by decide) rfl (by decide) (Nat.le_of_ble_eq_true rfl) (c_X2_personAt (q := g i) hR ha hi hw ho ?_)
        refine v_iload_1 dX2_maskOf_15 ?_
        refine v_icmp_ne (tgt := 35) dX2_maskOf_16 (by decide) (fun hc16 => ?_) (fun hc16 => ?_)
        · (try rw [nI_eq (by omega) (by omega)] at hc16)
          refine v_iinc_3 (v := 1) rfl dX2_maskOf_35 (by decide) ?_
          refine v_goto (tgt := 2) dX2_maskOf_38 (by decide) ?_
          rw [← nI_succ]
          exact ih (i + 1) (by omega) (by rw [fup_f (by simp_all [hitp])] at hQ; exact hQ)
        · (try rw [nI_eq (by omega) (by omega)] at hc16)
          refine v_aload_0 dX2_maskOf_19 ?_
          refine v_iload_3 dX2_maskOf_20 ?_
          refine v_iload_2 dX2_maskOf_21 ?_
          refine v_iload_2 dX2_maskOf_22 ?_
          refine u_callV_3 dX2_maskOf_23 ml_X2_44 mv_X2_touches (by first | assumption | exact led_1 (by assumption) | exact led_2 (by assumption) | exact bk_m (by assumption) (by first | assumption | omega) | exact bk_p (by assumption) (by first | assumption | omega) | exact bk_o (by assumption) (by first | assumption | omega) | exact bk_s (by assumption) (by first | assumption | omega) | exact bk_1 (by assumption) | exact bk_2 (by assumption) | exact bk_3 (by assumption) | exact bk_4 (by assumption) | exact bk_5 (by assumption) | exact bk_6 (by assumption) | exact bk_7 (by assumption) | exact bk_8 (by assumption) | rfl) (by decide) rfl (by decide) (Nat.le_of_ble_eq_true rfl) (c_X2_touches (q := g i) hR ha hi hw ho (by omega) (by omega) ?_)
          refine v_if_eq (tgt := 35) dX2_maskOf_26 (by decide) (fun hc26 => ?_) (fun hc26 => ?_)
          · (first | rw [bI_0, Bool.not_eq_false] at hc26 | rw [bI_0] at hc26 | rw [show (0 : Int32) = nI 0 from rfl, nI_eq (by omega) (by omega)] at hc26 | skip)
            refine v_iinc_3 (v := 1) rfl dX2_maskOf_35 (by decide) ?_
            refine v_goto (tgt := 2) dX2_maskOf_38 (by decide) ?_
            rw [← nI_succ]
            exact ih (i + 1) (by omega) (by rw [fup_f (by simp_all [hitp])] at hQ; exact hQ)
          · (first | rw [bI_0, Bool.not_eq_false] at hc26 | rw [bI_0] at hc26 | rw [show (0 : Int32) = nI 0 from rfl, nI_eq (by omega) (by omega)] at hc26 | skip)
            refine v_aload_0 dX2_maskOf_29 ?_
            refine v_iload_3 dX2_maskOf_30 ?_
            refine u_callV_1 dX2_maskOf_31 ml_X2_41 mv_X2_maskAt (by first | assumption | exact led_1 (by assumption) | exact led_2 (by assumption) | exact bk_m (by assumption) (by first | assumption | omega) | exact bk_p (by assumption) (by first | assumption | omega) | exact bk_o (by assumption) (by first | assumption | omega) | exact bk_s (by assumption) (by first | assumption | omega) | exact bk_1 (by assumption) | exact bk_2 (by assumption) | exact bk_3 (by assumption) | exact bk_4 (by assumption) | exact bk_5 (by assumption) | exact bk_6 (by assumption) | exact bk_7 (by assumption) | exact bk_8 (by assumption) | rfl) (by decide) rfl (by decide) (Nat.le_of_ble_eq_true rfl) (c_X2_maskAt (q := g i) hR ha hi hw ho ?_)
            refine v_iret dX2_maskOf_34 rfl rfl rfl rfl ?_
            rw [fup_t (by simp_all [hitp])] at hQ; exact hQ
  refine v_iconst (v := nI 0) dX2_maskOf_0 (by decide) ?_
  refine v_istore_3 rfl dX2_maskOf_1 ?_
  exact loop n 0 (by omega) hQ
theorem c_X2_isOnPeg {n m f u : Nat} {g : lends} (hR : RO R) (ha : SH a = .inl 2) (hL : LedI I a n g) (hm : m < 2 ^ 31) (hd : f < 2 ^ 31) (hu : u < 2 ^ 31) (hQ : Q (some (.int (bI (fup (hitm g m f u) 0 n).isNone))) SH I L R) : KK 2 mX2_isOnPeg b ad [.ref (b + a), .int (nI m), .int (nI f), .int (nI u)] I L R Q := by
  obtain ⟨hn, h20, hrow⟩ := hL
  refine K.of (M := mX2_isOnPeg) (lv := [some (.ref (b + a)), some (.int (nI m)), some (.int (nI f)), some (.int (nI u)), none]) (by decide) (Nat.le_of_ble_eq_true rfl) rfl ?_
  have loop : ∀ (j i : Nat), i + j = n → Q (some (.int (bI (fup (hitm g m f u) i j).isNone))) SH I L R → VV yX2_isOnPeg cX2_isOnPeg 5 (some .boolean) 2 Q b ad 3 [some (.ref (b + a)), some (.int (nI m)), some (.int (nI f)), some (.int (nI u)), some (.int (nI i))] [] I L R := by
    intro j
    induction j with
    | zero =>
      intro i hij hQ
      refine v_iload_4 dX2_isOnPeg_3 ?_
      refine v_aload_0 dX2_isOnPeg_5 ?_
      refine u_getI dX2_isOnPeg_6 gf_X2_18 (by first | assumption | exact led_1 (by assumption) | exact led_2 (by assumption) | exact bk_m (by assumption) (by first | assumption | omega) | exact bk_p (by assumption) (by first | assumption | omega) | exact bk_o (by assumption) (by first | assumption | omega) | exact bk_s (by assumption) (by first | assumption | omega) | exact bk_1 (by assumption) | exact bk_2 (by assumption) | exact bk_3 (by assumption) | exact bk_4 (by assumption) | exact bk_5 (by assumption) | exact bk_6 (by assumption) | exact bk_7 (by assumption) | exact bk_8 (by assumption) | rfl) ?_
      rw [hn]
      refine v_icmp_ge (tgt := 41) dX2_isOnPeg_9 (by decide) (fun hc9 => ?_) (fun hc9 => ?_)
      · (try rw [nI_leI (by omega) (by omega)] at hc9)
        refine v_iconst (v := nI 1) dX2_isOnPeg_41 (by decide) ?_
        refine v_zret dX2_isOnPeg_42 (by first | rfl | exact bI_n _) rfl rfl rfl rfl ?_
        exact hQ
      · (try rw [nI_leI (by omega) (by omega)] at hc9)
        exfalso; omega
    | succ j ih =>
      intro i hij hQ
      obtain ⟨hw, ho⟩ := hrow i (by omega)
      have hi : i < 20 := by omega
      have ho2 := ho
      obtain ⟨o1, o2, o3, o4, o5⟩ := ho2
      refine v_iload_4 dX2_isOnPeg_3 ?_
      refine v_aload_0 dX2_isOnPeg_5 ?_
      refine u_getI dX2_isOnPeg_6 gf_X2_18 (by first | assumption | exact led_1 (by assumption) | exact led_2 (by assumption) | exact bk_m (by assumption) (by first | assumption | omega) | exact bk_p (by assumption) (by first | assumption | omega) | exact bk_o (by assumption) (by first | assumption | omega) | exact bk_s (by assumption) (by first | assumption | omega) | exact bk_1 (by assumption) | exact bk_2 (by assumption) | exact bk_3 (by assumption) | exact bk_4 (by assumption) | exact bk_5 (by assumption) | exact bk_6 (by assumption) | exact bk_7 (by assumption) | exact bk_8 (by assumption) | rfl) ?_
      rw [hn]
      refine v_icmp_ge (tgt := 41) dX2_isOnPeg_9 (by decide) (fun hc9 => ?_) (fun hc9 => ?_)
      · (try rw [nI_leI (by omega) (by omega)] at hc9)
        exfalso; omega
      · (try rw [nI_leI (by omega) (by omega)] at hc9)
        refine v_aload_0 dX2_isOnPeg_12 ?_
        refine v_iload_4 dX2_isOnPeg_13 ?_
        refine u_callV_1 dX2_isOnPeg_15 ml_X2_41 mv_X2_maskAt (by first | assumption | exact led_1 (by assumption) | exact led_2 (by assumption) | exact bk_m (by assumption) (by first | assumption | omega) | exact bk_p (by assumption) (by first | assumption | omega) | exact bk_o (by assumption) (by first | assumption | omega) | exact bk_s (by assumption) (by first | assumption | omega) | exact bk_1 (by assumption) | exact bk_2 (by assumption) | exact bk_3 (by assumption) | exact bk_4 (by assumption) | exact bk_5 (by assumption) | exact bk_6 (by assumption) | exact bk_7 (by assumption) | exact bk_8 (by assumption) | rfl) (by decide) rfl (by decide) (Nat.le_of_ble_eq_true rfl) (c_X2_maskAt (q := g i) hR ha hi hw ho ?_)
        refine v_iload_1 dX2_isOnPeg_18 ?_
        refine v_icmp_ne (tgt := 35) dX2_isOnPeg_19 (by decide) (fun hc19 => ?_) (fun hc19 => ?_)
        · (try rw [nI_eq (by omega) (by omega)] at hc19)
          refine v_iinc_4 (v := 1) rfl dX2_isOnPeg_35 (by decide) ?_
          refine v_goto (tgt := 3) dX2_isOnPeg_38 (by decide) ?_
          rw [← nI_succ]
          exact ih (i + 1) (by omega) (by rw [fup_f (by simp_all [hitm])] at hQ; exact hQ)
        · (try rw [nI_eq (by omega) (by omega)] at hc19)
          refine v_aload_0 dX2_isOnPeg_22 ?_
          refine v_iload_4 dX2_isOnPeg_23 ?_
          refine v_iload_2 dX2_isOnPeg_25 ?_
          refine v_iload_3 dX2_isOnPeg_26 ?_
          refine u_callV_3 dX2_isOnPeg_27 ml_X2_44 mv_X2_touches (by first | assumption | exact led_1 (by assumption) | exact led_2 (by assumption) | exact bk_m (by assumption) (by first | assumption | omega) | exact bk_p (by assumption) (by first | assumption | omega) | exact bk_o (by assumption) (by first | assumption | omega) | exact bk_s (by assumption) (by first | assumption | omega) | exact bk_1 (by assumption) | exact bk_2 (by assumption) | exact bk_3 (by assumption) | exact bk_4 (by assumption) | exact bk_5 (by assumption) | exact bk_6 (by assumption) | exact bk_7 (by assumption) | exact bk_8 (by assumption) | rfl) (by decide) rfl (by decide) (Nat.le_of_ble_eq_true rfl) (c_X2_touches (q := g i) hR ha hi hw ho (by omega) (by omega) ?_)
          refine v_if_eq (tgt := 35) dX2_isOnPeg_30 (by decide) (fun hc30 => ?_) (fun hc30 => ?_)
          · (first | rw [bI_0, Bool.not_eq_false] at hc30 | rw [bI_0] at hc30 | rw [show (0 : Int32) = nI 0 from rfl, nI_eq (by omega) (by omega)] at hc30 | skip)
            refine v_iinc_4 (v := 1) rfl dX2_isOnPeg_35 (by decide) ?_
            refine v_goto (tgt := 3) dX2_isOnPeg_38 (by decide) ?_
            rw [← nI_succ]
            exact ih (i + 1) (by omega) (by rw [fup_f (by simp_all [hitm])] at hQ; exact hQ)
          · (first | rw [bI_0, Bool.not_eq_false] at hc30 | rw [bI_0] at hc30 | rw [show (0 : Int32) = nI 0 from rfl, nI_eq (by omega) (by omega)] at hc30 | skip)
            refine v_iconst (v := nI 0) dX2_isOnPeg_33 (by decide) ?_
            refine v_zret dX2_isOnPeg_34 (by first | rfl | exact bI_n _) rfl rfl rfl rfl ?_
            rw [fup_t (by simp_all [hitm])] at hQ; exact hQ
  refine v_iconst (v := nI 0) dX2_isOnPeg_0 (by decide) ?_
  refine v_istore_4 rfl dX2_isOnPeg_1 ?_
  exact loop n 0 (by omega) hQ
theorem c_X2_isBare {n p f u : Nat} {g : lends} (hR : RO R) (ha : SH a = .inl 2) (hL : LedI I a n g) (hm : p < 2 ^ 31) (hd : f < 2 ^ 31) (hu : u < 2 ^ 31) (hQ : Q (some (.int (bI (fup (hitp g p f u) 0 n).isNone))) SH I L R) : KK 2 mX2_isBare b ad [.ref (b + a), .int (nI p), .int (nI f), .int (nI u)] I L R Q := by
  obtain ⟨hn, h20, hrow⟩ := hL
  refine K.of (M := mX2_isBare) (lv := [some (.ref (b + a)), some (.int (nI p)), some (.int (nI f)), some (.int (nI u)), none]) (by decide) (Nat.le_of_ble_eq_true rfl) rfl ?_
  have loop : ∀ (j i : Nat), i + j = n → Q (some (.int (bI (fup (hitp g p f u) i j).isNone))) SH I L R → VV yX2_isBare cX2_isBare 5 (some .boolean) 2 Q b ad 3 [some (.ref (b + a)), some (.int (nI p)), some (.int (nI f)), some (.int (nI u)), some (.int (nI i))] [] I L R := by
    intro j
    induction j with
    | zero =>
      intro i hij hQ
      refine v_iload_4 dX2_isBare_3 ?_
      refine v_aload_0 dX2_isBare_5 ?_
      refine u_getI dX2_isBare_6 gf_X2_18 (by first | assumption | exact led_1 (by assumption) | exact led_2 (by assumption) | exact bk_m (by assumption) (by first | assumption | omega) | exact bk_p (by assumption) (by first | assumption | omega) | exact bk_o (by assumption) (by first | assumption | omega) | exact bk_s (by assumption) (by first | assumption | omega) | exact bk_1 (by assumption) | exact bk_2 (by assumption) | exact bk_3 (by assumption) | exact bk_4 (by assumption) | exact bk_5 (by assumption) | exact bk_6 (by assumption) | exact bk_7 (by assumption) | exact bk_8 (by assumption) | rfl) ?_
      rw [hn]
      refine v_icmp_ge (tgt := 41) dX2_isBare_9 (by decide) (fun hc9 => ?_) (fun hc9 => ?_)
      · (try rw [nI_leI (by omega) (by omega)] at hc9)
        refine v_iconst (v := nI 1) dX2_isBare_41 (by decide) ?_
        refine v_zret dX2_isBare_42 (by first | rfl | exact bI_n _) rfl rfl rfl rfl ?_
        exact hQ
      · (try rw [nI_leI (by omega) (by omega)] at hc9)
        exfalso; omega
    | succ j ih =>
      intro i hij hQ
      obtain ⟨hw, ho⟩ := hrow i (by omega)
      have hi : i < 20 := by omega
      have ho2 := ho
      obtain ⟨o1, o2, o3, o4, o5⟩ := ho2
      refine v_iload_4 dX2_isBare_3 ?_
      refine v_aload_0 dX2_isBare_5 ?_
      refine u_getI dX2_isBare_6 gf_X2_18 (by first | assumption | exact led_1 (by assumption) | exact led_2 (by assumption) | exact bk_m (by assumption) (by first | assumption | omega) | exact bk_p (by assumption) (by first | assumption | omega) | exact bk_o (by assumption) (by first | assumption | omega) | exact bk_s (by assumption) (by first | assumption | omega) | exact bk_1 (by assumption) | exact bk_2 (by assumption) | exact bk_3 (by assumption) | exact bk_4 (by assumption) | exact bk_5 (by assumption) | exact bk_6 (by assumption) | exact bk_7 (by assumption) | exact bk_8 (by assumption) | rfl) ?_
      rw [hn]
      refine v_icmp_ge (tgt := 41) dX2_isBare_9 (by decide) (fun hc9 => ?_) (fun hc9 => ?_)
      · (try rw [nI_leI (by omega) (by omega)] at hc9)
        exfalso; omega
      · (try rw [nI_leI (by omega) (by omega)] at hc9)
        refine v_aload_0 dX2_isBare_12 ?_
        refine v_iload_4 dX2_isBare_13 ?_
        refine u_callV_1 dX2_isBare_15 ml_X2_52 mv_X2_personAt (by first | assumption | exact led_1 (by assumption) | exact led_2 (by assumption) | exact bk_m (by assumption) (by first | assumption | omega) | exact bk_p (by assumption) (by first | assumption | omega) | exact bk_o (by assumption) (by first | assumption | omega) | exact bk_s (by assumption) (by first | assumption | omega) | exact bk_1 (by assumption) | exact bk_2 (by assumption) | exact bk_3 (by assumption) | exact bk_4 (by assumption) | exact bk_5 (by assumption) | exact bk_6 (by assumption) | exact bk_7 (by assumption) | exact bk_8 (by assumption) | rfl) (by decide) rfl (by decide) (Nat.le_of_ble_eq_true rfl) (c_X2_personAt (q := g i) hR ha hi hw ho ?_)
        refine v_iload_1 dX2_isBare_18 ?_
        refine v_icmp_ne (tgt := 35) dX2_isBare_19 (by decide) (fun hc19 => ?_) (fun hc19 => ?_)
        · (try rw [nI_eq (by omega) (by omega)] at hc19)
          refine v_iinc_4 (v := 1) rfl dX2_isBare_35 (by decide) ?_
          refine v_goto (tgt := 3) dX2_isBare_38 (by decide) ?_
          rw [← nI_succ]
          exact ih (i + 1) (by omega) (by rw [fup_f (by simp_all [hitp])] at hQ; exact hQ)
        · (try rw [nI_eq (by omega) (by omega)] at hc19)
          refine v_aload_0 dX2_isBare_22 ?_
          refine v_iload_4 dX2_isBare_23 ?_
          refine v_iload_2 dX2_isBare_25 ?_
          refine v_iload_3 dX2_isBare_26 ?_
          refine u_callV_3 dX2_isBare_27 ml_X2_44 mv_X2_touches (by first | assumption | exact led_1 (by assumption) | exact led_2 (by assumption) | exact bk_m (by assumption) (by first | assumption | omega) | exact bk_p (by assumption) (by first | assumption | omega) | exact bk_o (by assumption) (by first | assumption | omega) | exact bk_s (by assumption) (by first | assumption | omega) | exact bk_1 (by assumption) | exact bk_2 (by assumption) | exact bk_3 (by assumption) | exact bk_4 (by assumption) | exact bk_5 (by assumption) | exact bk_6 (by assumption) | exact bk_7 (by assumption) | exact bk_8 (by assumption) | rfl) (by decide) rfl (by decide) (Nat.le_of_ble_eq_true rfl) (c_X2_touches (q := g i) hR ha hi hw ho (by omega) (by omega) ?_)
          refine v_if_eq (tgt := 35) dX2_isBare_30 (by decide) (fun hc30 => ?_) (fun hc30 => ?_)
          · (first | rw [bI_0, Bool.not_eq_false] at hc30 | rw [bI_0] at hc30 | rw [show (0 : Int32) = nI 0 from rfl, nI_eq (by omega) (by omega)] at hc30 | skip)
            refine v_iinc_4 (v := 1) rfl dX2_isBare_35 (by decide) ?_
            refine v_goto (tgt := 3) dX2_isBare_38 (by decide) ?_
            rw [← nI_succ]
            exact ih (i + 1) (by omega) (by rw [fup_f (by simp_all [hitp])] at hQ; exact hQ)
          · (first | rw [bI_0, Bool.not_eq_false] at hc30 | rw [bI_0] at hc30 | rw [show (0 : Int32) = nI 0 from rfl, nI_eq (by omega) (by omega)] at hc30 | skip)
            refine v_iconst (v := nI 0) dX2_isBare_33 (by decide) ?_
            refine v_zret dX2_isBare_34 (by first | rfl | exact bI_n _) rfl rfl rfl rfl ?_
            rw [fup_t (by simp_all [hitp])] at hQ; exact hQ
  refine v_iconst (v := nI 0) dX2_isBare_0 (by decide) ?_
  refine v_istore_4 rfl dX2_isBare_1 ?_
  exact loop n 0 (by omega) hQ
theorem c_X2_isFull {n : Nat} (ha : SH a = .inl 2) (hn : I a 0 = nI n) (h20 : n ≤ 20) (hQ : Q (some (.int (bI (decide (20 ≤ n))))) SH I L R) : KK 0 mX2_isFull b ad [.ref (b + a)] I L R Q := by
  refine K.of (M := mX2_isFull) (lv := [some (.ref (b + a))]) (by decide) (Nat.le_of_ble_eq_true rfl) rfl ?_
  refine v_aload_0 dX2_isFull_0 ?_
  refine u_getI dX2_isFull_1 gf_X2_18 (by first | assumption | exact led_1 (by assumption) | exact led_2 (by assumption) | exact bk_m (by assumption) (by first | assumption | omega) | exact bk_p (by assumption) (by first | assumption | omega) | exact bk_o (by assumption) (by first | assumption | omega) | exact bk_s (by assumption) (by first | assumption | omega) | exact bk_1 (by assumption) | exact bk_2 (by assumption) | exact bk_3 (by assumption) | exact bk_4 (by assumption) | exact bk_5 (by assumption) | exact bk_6 (by assumption) | exact bk_7 (by assumption) | exact bk_8 (by assumption) | rfl) ?_
  rw [hn]
  refine v_bipush (v := nI 20) dX2_isFull_4 (by decide) ?_
  refine v_icmp_lt (tgt := 13) dX2_isFull_6 (by decide) (fun hc6 => ?_) (fun hc6 => ?_)
  · (try rw [nI_ltI (by omega) (by omega)] at hc6)
    refine v_iconst (v := nI 0) dX2_isFull_13 (by decide) ?_
    refine v_zret dX2_isFull_14 (by first | rfl | exact bI_n _) rfl rfl rfl rfl ?_
    first | (rw [bI_t (by simp; omega)] at hQ; exact hQ) | (rw [bI_f (by simp; omega)] at hQ; exact hQ)
  · (try rw [nI_ltI (by omega) (by omega)] at hc6)
    refine v_iconst (v := nI 1) dX2_isFull_9 (by decide) ?_
    refine v_goto (tgt := 14) dX2_isFull_10 (by decide) ?_
    refine v_zret dX2_isFull_14 (by first | rfl | exact bI_n _) rfl rfl rfl rfl ?_
    first | (rw [bI_t (by simp; omega)] at hQ; exact hQ) | (rw [bI_f (by simp; omega)] at hQ; exact hQ)
theorem c_X2_isBreaking {p d w : Nat} (hR : RO R) (ha : SH a = .inl 2) (hp : p < 6) (hd : d < 32) (hb : I (a + 2) p = nI w ∧ w < 2097152) (hQ : Q (some (.int (bI (w.testBit d)))) SH I L R) : KK 0 mX2_isBreaking b ad [.ref (b + a), .int (nI p), .int (nI d)] I L R Q := by
  have hw := hb.2
  refine K.of (M := mX2_isBreaking) (lv := [some (.ref (b + a)), some (.int (nI p)), some (.int (nI d))]) (by decide) (Nat.le_of_ble_eq_true rfl) rfl ?_
  refine v_aload_0 dX2_isBreaking_0 ?_
  refine u_getR dX2_isBreaking_1 gf_X2_15 (by first | assumption | exact led_1 (by assumption) | exact led_2 (by assumption) | exact bk_m (by assumption) (by first | assumption | omega) | exact bk_p (by assumption) (by first | assumption | omega) | exact bk_o (by assumption) (by first | assumption | omega) | exact bk_s (by assumption) (by first | assumption | omega) | exact bk_1 (by assumption) | exact bk_2 (by assumption) | exact bk_3 (by assumption) | exact bk_4 (by assumption) | exact bk_5 (by assumption) | exact bk_6 (by assumption) | exact bk_7 (by assumption) | exact bk_8 (by assumption) | rfl) (ro_X2_2 (by assumption) (by assumption)) ?_
  refine v_iload_1 dX2_isBreaking_4 ?_
  refine u_iald dX2_isBreaking_5 (by first | assumption | exact led_1 (by assumption) | exact led_2 (by assumption) | exact bk_m (by assumption) (by first | assumption | omega) | exact bk_p (by assumption) (by first | assumption | omega) | exact bk_o (by assumption) (by first | assumption | omega) | exact bk_s (by assumption) (by first | assumption | omega) | exact bk_1 (by assumption) | exact bk_2 (by assumption) | exact bk_3 (by assumption) | exact bk_4 (by assumption) | exact bk_5 (by assumption) | exact bk_6 (by assumption) | exact bk_7 (by assumption) | exact bk_8 (by assumption) | rfl) (by first | rfl | (simp only [nlit, nI_add, pk_mul]; rfl)) (by first | assumption | omega) (by first | assumption | decide) ?_
  rw [hb.1]
  refine v_iload_2 dX2_isBreaking_6 ?_
  refine v_ishr dX2_isBreaking_7 ?_
  refine v_iconst (v := nI 1) dX2_isBreaking_8 (by decide) ?_
  refine v_iand dX2_isBreaking_9 ?_
  rw [bit_b (by omega) (by omega)]
  refine v_if_eq (tgt := 17) dX2_isBreaking_10 (by decide) (fun hc10 => ?_) (fun hc10 => ?_)
  · (first | rw [bI_0, Bool.not_eq_false] at hc10 | rw [bI_0] at hc10 | rw [show (0 : Int32) = nI 0 from rfl, nI_eq (by omega) (by omega)] at hc10 | skip)
    refine v_iconst (v := nI 0) dX2_isBreaking_17 (by decide) ?_
    refine v_zret dX2_isBreaking_18 (by first | rfl | exact bI_n _) rfl rfl rfl rfl ?_
    first | (rw [bI_t (by simp_all)] at hQ; exact hQ) | (rw [bI_f (by simp_all)] at hQ; exact hQ)
  · (first | rw [bI_0, Bool.not_eq_false] at hc10 | rw [bI_0] at hc10 | rw [show (0 : Int32) = nI 0 from rfl, nI_eq (by omega) (by omega)] at hc10 | skip)
    refine v_iconst (v := nI 1) dX2_isBreaking_13 (by decide) ?_
    refine v_goto (tgt := 18) dX2_isBreaking_14 (by decide) ?_
    refine v_zret dX2_isBreaking_18 (by first | rfl | exact bI_n _) rfl rfl rfl rfl ?_
    first | (rw [bI_t (by simp_all)] at hQ; exact hQ) | (rw [bI_f (by simp_all)] at hQ; exact hQ)
theorem flip_b {w d : Nat} (hd : d < 21) : nI w ^^^ (nI 1 <<< (nI d &&& 31)) = nI (w ^^^ 2 ^ d) := by
  have e : nI 1 <<< (nI d &&& 31) = nI (2 ^ d) := by
    rw [pk_shlN _ d (sml d (by omega)) (by have : 2 ^ d < 2 ^ 21 := Nat.pow_lt_pow_right (by decide) hd
                                           omega), Nat.one_mul]
  rw [e]
  apply Int32.toBitVec_inj.mp
  rw [Int32.toBitVec_xor]
  show BitVec.ofNat 32 w ^^^ BitVec.ofNat 32 (2 ^ d) = BitVec.ofNat 32 (w ^^^ 2 ^ d)
  rw [BitVec.ofNat_xor]
theorem c_X2_flipBreaking {p d w : Nat} (hR : RO R) (ha : SH a = .inl 2) (hp : p < 6) (hd : d < 21) (hb : I (a + 2) p = nI w ∧ w < 2097152) (hQ : Q none SH (ui I (a + 2) p (nI (w ^^^ 2 ^ d))) L R) : KK 0 mX2_flipBreaking b ad [.ref (b + a), .int (nI p), .int (nI d)] I L R Q := by
  refine K.of (M := mX2_flipBreaking) (lv := [some (.ref (b + a)), some (.int (nI p)), some (.int (nI d))]) (by decide) (Nat.le_of_ble_eq_true rfl) rfl ?_
  refine v_aload_0 dX2_flipBreaking_0 ?_
  refine u_getR dX2_flipBreaking_1 gf_X2_15 (by first | assumption | exact led_1 (by assumption) | exact led_2 (by assumption) | exact bk_m (by assumption) (by first | assumption | omega) | exact bk_p (by assumption) (by first | assumption | omega) | exact bk_o (by assumption) (by first | assumption | omega) | exact bk_s (by assumption) (by first | assumption | omega) | exact bk_1 (by assumption) | exact bk_2 (by assumption) | exact bk_3 (by assumption) | exact bk_4 (by assumption) | exact bk_5 (by assumption) | exact bk_6 (by assumption) | exact bk_7 (by assumption) | exact bk_8 (by assumption) | rfl) (ro_X2_2 (by assumption) (by assumption)) ?_
  refine v_iload_1 dX2_flipBreaking_4 ?_
  refine v_dup2 dX2_flipBreaking_5 rfl rfl ?_
  refine u_iald dX2_flipBreaking_6 (by first | assumption | exact led_1 (by assumption) | exact led_2 (by assumption) | exact bk_m (by assumption) (by first | assumption | omega) | exact bk_p (by assumption) (by first | assumption | omega) | exact bk_o (by assumption) (by first | assumption | omega) | exact bk_s (by assumption) (by first | assumption | omega) | exact bk_1 (by assumption) | exact bk_2 (by assumption) | exact bk_3 (by assumption) | exact bk_4 (by assumption) | exact bk_5 (by assumption) | exact bk_6 (by assumption) | exact bk_7 (by assumption) | exact bk_8 (by assumption) | rfl) (by first | rfl | (simp only [nlit, nI_add, pk_mul]; rfl)) (by first | assumption | omega) (by first | assumption | decide) ?_
  refine v_iconst (v := nI 1) dX2_flipBreaking_7 (by decide) ?_
  refine v_iload_2 dX2_flipBreaking_8 ?_
  refine v_ishl dX2_flipBreaking_9 ?_
  refine v_ixor dX2_flipBreaking_10 ?_
  refine u_iast dX2_flipBreaking_11 (by first | assumption | exact led_1 (by assumption) | exact led_2 (by assumption) | exact bk_m (by assumption) (by first | assumption | omega) | exact bk_p (by assumption) (by first | assumption | omega) | exact bk_o (by assumption) (by first | assumption | omega) | exact bk_s (by assumption) (by first | assumption | omega) | exact bk_1 (by assumption) | exact bk_2 (by assumption) | exact bk_3 (by assumption) | exact bk_4 (by assumption) | exact bk_5 (by assumption) | exact bk_6 (by assumption) | exact bk_7 (by assumption) | exact bk_8 (by assumption) | rfl) (by first | rfl | (simp only [nlit, nI_add, pk_mul]; rfl)) (by first | assumption | omega) (by first | assumption | decide) ?_
  refine v_vret dX2_flipBreaking_12 rfl rfl rfl rfl ?_
  rw [hb.1, flip_b hd]; exact hQ
theorem c_X3_hands {kind : Nat} (ha : SH a = .inl 3) (hk : I a 0 = nI kind) (hk5 : kind < 5) (hQ : Q (some (.int (nI (if kind = 3 then 2 else 1)))) SH I L R) : KK 0 mX3_hands b ad [.ref (b + a)] I L R Q := by
  refine K.of (M := mX3_hands) (lv := [some (.ref (b + a))]) (by decide) (Nat.le_of_ble_eq_true rfl) rfl ?_
  refine v_aload_0 dX3_hands_0 ?_
  refine u_getI dX3_hands_1 gf_X3_24 (by first | assumption | exact led_1 (by assumption) | exact led_2 (by assumption) | exact bk_m (by assumption) (by first | assumption | omega) | exact bk_p (by assumption) (by first | assumption | omega) | exact bk_o (by assumption) (by first | assumption | omega) | exact bk_s (by assumption) (by first | assumption | omega) | exact bk_1 (by assumption) | exact bk_2 (by assumption) | exact bk_3 (by assumption) | exact bk_4 (by assumption) | exact bk_5 (by assumption) | exact bk_6 (by assumption) | exact bk_7 (by assumption) | exact bk_8 (by assumption) | rfl) ?_
  (first | (rw [bm0 hF]; rotate_left; (first | assumption | omega)) | skip)
  rw [hk]
  refine v_iconst (v := nI 3) dX3_hands_4 (by decide) ?_
  refine v_icmp_ne (tgt := 12) dX3_hands_5 (by decide) (fun hc5 => ?_) (fun hc5 => ?_)
  · (try rw [nI_eq (by omega) (by omega)] at hc5)
    refine v_iconst (v := nI 1) dX3_hands_12 (by decide) ?_
    refine v_iret dX3_hands_13 rfl rfl rfl rfl ?_
    first | (rw [if_pos (by omega)] at hQ; exact hQ) | (rw [if_neg (by omega)] at hQ; exact hQ)
  · (try rw [nI_eq (by omega) (by omega)] at hc5)
    refine v_iconst (v := nI 2) dX3_hands_8 (by decide) ?_
    refine v_goto (tgt := 13) dX3_hands_9 (by decide) ?_
    refine v_iret dX3_hands_13 rfl rfl rfl rfl ?_
    first | (rw [if_pos (by omega)] at hQ; exact hQ) | (rw [if_neg (by omega)] at hQ; exact hQ)
theorem c_X4_knows {w k : Nat} (ha : SH a = .inl 4) (hw : I a 4 = nI w) (hw5 : w < 32) (hk : k < 32) (hQ : Q (some (.int (bI (w.testBit k)))) SH I L R) : KK 0 mX4_knows b ad [.ref (b + a), .int (nI k)] I L R Q := by
  refine K.of (M := mX4_knows) (lv := [some (.ref (b + a)), some (.int (nI k))]) (by decide) (Nat.le_of_ble_eq_true rfl) rfl ?_
  refine v_aload_0 dX4_knows_0 ?_
  refine u_getI dX4_knows_1 gf_X4_7 (by first | assumption | exact led_1 (by assumption) | exact led_2 (by assumption) | exact bk_m (by assumption) (by first | assumption | omega) | exact bk_p (by assumption) (by first | assumption | omega) | exact bk_o (by assumption) (by first | assumption | omega) | exact bk_s (by assumption) (by first | assumption | omega) | exact bk_1 (by assumption) | exact bk_2 (by assumption) | exact bk_3 (by assumption) | exact bk_4 (by assumption) | exact bk_5 (by assumption) | exact bk_6 (by assumption) | exact bk_7 (by assumption) | exact bk_8 (by assumption) | rfl) ?_
  (first | (rw [bp4 hF]; rotate_left; (first | assumption | omega)) | skip)
  rw [hw]
  refine v_iload_1 dX4_knows_4 ?_
  refine v_ishr dX4_knows_5 ?_
  refine v_iconst (v := nI 1) dX4_knows_6 (by decide) ?_
  refine v_iand dX4_knows_7 ?_
  rw [bit_b (by omega) (by omega)]
  refine v_if_eq (tgt := 15) dX4_knows_8 (by decide) (fun hc8 => ?_) (fun hc8 => ?_)
  · (first | rw [bI_0, Bool.not_eq_false] at hc8 | rw [bI_0] at hc8 | rw [show (0 : Int32) = nI 0 from rfl, nI_eq (by omega) (by omega)] at hc8 | skip)
    refine v_iconst (v := nI 0) dX4_knows_15 (by decide) ?_
    refine v_zret dX4_knows_16 (by first | rfl | exact bI_n _) rfl rfl rfl rfl ?_
    first | (rw [bI_t (by simp_all)] at hQ; exact hQ) | (rw [bI_f (by simp_all)] at hQ; exact hQ)
  · (first | rw [bI_0, Bool.not_eq_false] at hc8 | rw [bI_0] at hc8 | rw [show (0 : Int32) = nI 0 from rfl, nI_eq (by omega) (by omega)] at hc8 | skip)
    refine v_iconst (v := nI 1) dX4_knows_11 (by decide) ?_
    refine v_goto (tgt := 16) dX4_knows_12 (by decide) ?_
    refine v_zret dX4_knows_16 (by first | rfl | exact bI_n _) rfl rfl rfl rfl ?_
    first | (rw [bI_t (by simp_all)] at hQ; exact hQ) | (rw [bI_f (by simp_all)] at hQ; exact hQ)
theorem c_X6_isOf {m d m0 d0 : Nat} (ha : SH a = .inl 6) (h0 : I a 0 = nI m0) (h2 : I a 2 = nI d0) (hm : m < 2 ^ 31) (hd : d < 2 ^ 31) (hm0 : m0 < 2 ^ 31) (hd0 : d0 < 2 ^ 31) (hQ : Q (some (.int (bI (decide (m0 = m) && decide (d0 = d))))) SH I L R) : KK 0 mX6_isOf b ad [.ref (b + a), .int (nI m), .int (nI d)] I L R Q := by
  refine K.of (M := mX6_isOf) (lv := [some (.ref (b + a)), some (.int (nI m)), some (.int (nI d))]) (by decide) (Nat.le_of_ble_eq_true rfl) rfl ?_
  refine v_aload_0 dX6_isOf_0 ?_
  refine u_getI dX6_isOf_1 gf_X6_7 (by first | assumption | exact led_1 (by assumption) | exact led_2 (by assumption) | exact bk_m (by assumption) (by first | assumption | omega) | exact bk_p (by assumption) (by first | assumption | omega) | exact bk_o (by assumption) (by first | assumption | omega) | exact bk_s (by assumption) (by first | assumption | omega) | exact bk_1 (by assumption) | exact bk_2 (by assumption) | exact bk_3 (by assumption) | exact bk_4 (by assumption) | exact bk_5 (by assumption) | exact bk_6 (by assumption) | exact bk_7 (by assumption) | exact bk_8 (by assumption) | rfl) ?_
  (first | (rw [bo0 hF]; rotate_left; (first | assumption | omega)) | skip)
  rw [h0]
  refine v_iload_1 dX6_isOf_4 ?_
  refine v_icmp_ne (tgt := 20) dX6_isOf_5 (by decide) (fun hc5 => ?_) (fun hc5 => ?_)
  · (try rw [nI_eq (by omega) (by omega)] at hc5)
    refine v_iconst (v := nI 0) dX6_isOf_20 (by decide) ?_
    refine v_zret dX6_isOf_21 (by first | rfl | exact bI_n _) rfl rfl rfl rfl ?_
    first | (rw [bI_t (by simp_all)] at hQ; exact hQ) | (rw [bI_f (by simp_all)] at hQ; exact hQ)
  · (try rw [nI_eq (by omega) (by omega)] at hc5)
    refine v_aload_0 dX6_isOf_8 ?_
    refine u_getI dX6_isOf_9 gf_X6_13 (by first | assumption | exact led_1 (by assumption) | exact led_2 (by assumption) | exact bk_m (by assumption) (by first | assumption | omega) | exact bk_p (by assumption) (by first | assumption | omega) | exact bk_o (by assumption) (by first | assumption | omega) | exact bk_s (by assumption) (by first | assumption | omega) | exact bk_1 (by assumption) | exact bk_2 (by assumption) | exact bk_3 (by assumption) | exact bk_4 (by assumption) | exact bk_5 (by assumption) | exact bk_6 (by assumption) | exact bk_7 (by assumption) | exact bk_8 (by assumption) | rfl) ?_
    (first | (rw [bo2 hF]; rotate_left; (first | assumption | omega)) | skip)
    rw [h2]
    refine v_iload_2 dX6_isOf_12 ?_
    refine v_icmp_ne (tgt := 20) dX6_isOf_13 (by decide) (fun hc13 => ?_) (fun hc13 => ?_)
    · (try rw [nI_eq (by omega) (by omega)] at hc13)
      refine v_iconst (v := nI 0) dX6_isOf_20 (by decide) ?_
      refine v_zret dX6_isOf_21 (by first | rfl | exact bI_n _) rfl rfl rfl rfl ?_
      first | (rw [bI_t (by simp_all)] at hQ; exact hQ) | (rw [bI_f (by simp_all)] at hQ; exact hQ)
    · (try rw [nI_eq (by omega) (by omega)] at hc13)
      refine v_iconst (v := nI 1) dX6_isOf_16 (by decide) ?_
      refine v_goto (tgt := 21) dX6_isOf_17 (by decide) ?_
      refine v_zret dX6_isOf_21 (by first | rfl | exact bI_n _) rfl rfl rfl rfl ?_
      first | (rw [bI_t (by simp_all)] at hQ; exact hQ) | (rw [bI_f (by simp_all)] at hQ; exact hQ)
theorem c_X6_yields {p : Bool} {wo fi : Nat} (ha : SH a = .inl 6) (h3 : I a 3 = nI wo) (h4 : I a 4 = nI fi) (hQ : Q (some (.int (if p then nI wo else -nI fi))) SH I L R) : KK 0 mX6_yields b ad [.ref (b + a), .int (bI p)] I L R Q := by
  refine K.of (M := mX6_yields) (lv := [some (.ref (b + a)), some (.int (bI p))]) (by decide) (Nat.le_of_ble_eq_true rfl) rfl ?_
  refine v_iload_1 dX6_yields_0 ?_
  refine v_if_eq (tgt := 11) dX6_yields_1 (by decide) (fun hc1 => ?_) (fun hc1 => ?_)
  · (first | rw [bI_0, Bool.not_eq_false] at hc1 | rw [bI_0] at hc1 | rw [show (0 : Int32) = nI 0 from rfl, nI_eq (by omega) (by omega)] at hc1 | skip)
    refine v_aload_0 dX6_yields_11 ?_
    refine u_getI dX6_yields_12 gf_X6_19 (by first | assumption | exact led_1 (by assumption) | exact led_2 (by assumption) | exact bk_m (by assumption) (by first | assumption | omega) | exact bk_p (by assumption) (by first | assumption | omega) | exact bk_o (by assumption) (by first | assumption | omega) | exact bk_s (by assumption) (by first | assumption | omega) | exact bk_1 (by assumption) | exact bk_2 (by assumption) | exact bk_3 (by assumption) | exact bk_4 (by assumption) | exact bk_5 (by assumption) | exact bk_6 (by assumption) | exact bk_7 (by assumption) | exact bk_8 (by assumption) | rfl) ?_
    (first | (rw [bo4 hF]; rotate_left; (first | assumption | omega)) | skip)
    rw [h4]
    refine v_ineg dX6_yields_15 ?_
    refine v_iret dX6_yields_16 rfl rfl rfl rfl ?_
    first | (rw [if_pos (by simp_all)] at hQ; exact hQ) | (rw [if_neg (by simp_all)] at hQ; exact hQ)
  · (first | rw [bI_0, Bool.not_eq_false] at hc1 | rw [bI_0] at hc1 | rw [show (0 : Int32) = nI 0 from rfl, nI_eq (by omega) (by omega)] at hc1 | skip)
    refine v_aload_0 dX6_yields_4 ?_
    refine u_getI dX6_yields_5 gf_X6_16 (by first | assumption | exact led_1 (by assumption) | exact led_2 (by assumption) | exact bk_m (by assumption) (by first | assumption | omega) | exact bk_p (by assumption) (by first | assumption | omega) | exact bk_o (by assumption) (by first | assumption | omega) | exact bk_s (by assumption) (by first | assumption | omega) | exact bk_1 (by assumption) | exact bk_2 (by assumption) | exact bk_3 (by assumption) | exact bk_4 (by assumption) | exact bk_5 (by assumption) | exact bk_6 (by assumption) | exact bk_7 (by assumption) | exact bk_8 (by assumption) | rfl) ?_
    (first | (rw [bo3 hF]; rotate_left; (first | assumption | omega)) | skip)
    rw [h3]
    refine v_goto (tgt := 16) dX6_yields_8 (by decide) ?_
    refine v_iret dX6_yields_16 rfl rfl rfl rfl ?_
    first | (rw [if_pos (by simp_all)] at hQ; exact hQ) | (rw [if_neg (by simp_all)] at hQ; exact hQ)
def SgI (I : HI) (a m d h s hb : Nat) : Prop := I a 0 = nI m ∧ I a 1 = nI d ∧ I a 2 = nI h ∧ I a 3 = nI s ∧ I a 4 = nI hb ∧ m < 10 ∧ d < 32 ∧ h < 32 ∧ s < 10 ∧ hb < 5
def resv (s hb ps phb : Nat) : Bool := decide (adf s ps ≤ 1) && (decide (hb = 0) || decide (hb = phb))
theorem c_X8_resembles {p m d h s hb ps hn ch phb wk : Nat} (ha : SH a = .inl 8) (hp : SH p = .inl 4) (hs : SgI I a m d h s hb) (hpp : PsI I p ps hn ch phb wk) (hQ : Q (some (.int (bI (resv s hb ps phb)))) SH I L R) : KK 1 mX8_resembles b ad [.ref (b + a), .ref (b + p)] I L R Q := by
  obtain ⟨s0, s1, s2, s3, s4, s5, s6, s7, s8, s9⟩ := hs
  obtain ⟨p0, p1, p2, p3, p4, p5, p6, p7, p8, p9⟩ := hpp
  have hadf : adf s ps < 10 := by unfold adf; split <;> omega
  refine K.of (M := mX8_resembles) (lv := [some (.ref (b + a)), some (.ref (b + p))]) (by decide) (Nat.le_of_ble_eq_true rfl) rfl ?_
  refine v_aload_0 dX8_resembles_0 ?_
  refine u_getI dX8_resembles_1 gf_X8_7 (by first | assumption | exact led_1 (by assumption) | exact led_2 (by assumption) | exact bk_m (by assumption) (by first | assumption | omega) | exact bk_p (by assumption) (by first | assumption | omega) | exact bk_o (by assumption) (by first | assumption | omega) | exact bk_s (by assumption) (by first | assumption | omega) | exact bk_1 (by assumption) | exact bk_2 (by assumption) | exact bk_3 (by assumption) | exact bk_4 (by assumption) | exact bk_5 (by assumption) | exact bk_6 (by assumption) | exact bk_7 (by assumption) | exact bk_8 (by assumption) | rfl) ?_
  (first | (rw [bs3 hF]; rotate_left; (first | assumption | omega)) | skip)
  rw [s3]
  refine v_aload_1 dX8_resembles_4 ?_
  refine u_getI dX8_resembles_5 gf_X8_13 (by first | assumption | exact led_1 (by assumption) | exact led_2 (by assumption) | exact bk_m (by assumption) (by first | assumption | omega) | exact bk_p (by assumption) (by first | assumption | omega) | exact bk_o (by assumption) (by first | assumption | omega) | exact bk_s (by assumption) (by first | assumption | omega) | exact bk_1 (by assumption) | exact bk_2 (by assumption) | exact bk_3 (by assumption) | exact bk_4 (by assumption) | exact bk_5 (by assumption) | exact bk_6 (by assumption) | exact bk_7 (by assumption) | exact bk_8 (by assumption) | rfl) ?_
  (first | (rw [bp0 hF]; rotate_left; (first | assumption | omega)) | skip)
  rw [p0]
  refine v_isub dX8_resembles_8 ?_
  refine u_mabsd (s := s) (p := ps) (by omega) (by omega) dX8_resembles_9 ml_X8_16 (by decide) (Nat.le_of_ble_eq_true rfl) ?_
  refine v_iconst (v := nI 1) dX8_resembles_12 (by decide) ?_
  refine v_icmp_gt (tgt := 38) dX8_resembles_13 (by decide) (fun hc13 => ?_) (fun hc13 => ?_)
  · (try rw [nI_ltI (by omega) (by omega)] at hc13)
    refine v_iconst (v := nI 0) dX8_resembles_38 (by decide) ?_
    refine v_zret dX8_resembles_39 (by first | rfl | exact bI_n _) rfl rfl rfl rfl ?_
    first | (rw [bI_t (by simp [resv]; omega)] at hQ; exact hQ) | (rw [bI_f (by simp [resv]; omega)] at hQ; exact hQ)
  · (try rw [nI_ltI (by omega) (by omega)] at hc13)
    refine v_aload_0 dX8_resembles_16 ?_
    refine u_getI dX8_resembles_17 gf_X8_22 (by first | assumption | exact led_1 (by assumption) | exact led_2 (by assumption) | exact bk_m (by assumption) (by first | assumption | omega) | exact bk_p (by assumption) (by first | assumption | omega) | exact bk_o (by assumption) (by first | assumption | omega) | exact bk_s (by assumption) (by first | assumption | omega) | exact bk_1 (by assumption) | exact bk_2 (by assumption) | exact bk_3 (by assumption) | exact bk_4 (by assumption) | exact bk_5 (by assumption) | exact bk_6 (by assumption) | exact bk_7 (by assumption) | exact bk_8 (by assumption) | rfl) ?_
    (first | (rw [bs4 hF]; rotate_left; (first | assumption | omega)) | skip)
    rw [s4]
    refine v_if_eq (tgt := 34) dX8_resembles_20 (by decide) (fun hc20 => ?_) (fun hc20 => ?_)
    · (first | rw [bI_0, Bool.not_eq_false] at hc20 | rw [bI_0] at hc20 | rw [show (0 : Int32) = nI 0 from rfl, nI_eq (by omega) (by omega)] at hc20 | skip)
      refine v_iconst (v := nI 1) dX8_resembles_34 (by decide) ?_
      refine v_goto (tgt := 39) dX8_resembles_35 (by decide) ?_
      refine v_zret dX8_resembles_39 (by first | rfl | exact bI_n _) rfl rfl rfl rfl ?_
      first | (rw [bI_t (by simp [resv]; omega)] at hQ; exact hQ) | (rw [bI_f (by simp [resv]; omega)] at hQ; exact hQ)
    · (first | rw [bI_0, Bool.not_eq_false] at hc20 | rw [bI_0] at hc20 | rw [show (0 : Int32) = nI 0 from rfl, nI_eq (by omega) (by omega)] at hc20 | skip)
      refine v_aload_0 dX8_resembles_23 ?_
      refine u_getI dX8_resembles_24 gf_X8_22 (by first | assumption | exact led_1 (by assumption) | exact led_2 (by assumption) | exact bk_m (by assumption) (by first | assumption | omega) | exact bk_p (by assumption) (by first | assumption | omega) | exact bk_o (by assumption) (by first | assumption | omega) | exact bk_s (by assumption) (by first | assumption | omega) | exact bk_1 (by assumption) | exact bk_2 (by assumption) | exact bk_3 (by assumption) | exact bk_4 (by assumption) | exact bk_5 (by assumption) | exact bk_6 (by assumption) | exact bk_7 (by assumption) | exact bk_8 (by assumption) | rfl) ?_
      (first | (rw [bs4 hF]; rotate_left; (first | assumption | omega)) | skip)
      rw [s4]
      refine v_aload_1 dX8_resembles_27 ?_
      refine u_getI dX8_resembles_28 gf_X8_25 (by first | assumption | exact led_1 (by assumption) | exact led_2 (by assumption) | exact bk_m (by assumption) (by first | assumption | omega) | exact bk_p (by assumption) (by first | assumption | omega) | exact bk_o (by assumption) (by first | assumption | omega) | exact bk_s (by assumption) (by first | assumption | omega) | exact bk_1 (by assumption) | exact bk_2 (by assumption) | exact bk_3 (by assumption) | exact bk_4 (by assumption) | exact bk_5 (by assumption) | exact bk_6 (by assumption) | exact bk_7 (by assumption) | exact bk_8 (by assumption) | rfl) ?_
      (first | (rw [bp3 hF]; rotate_left; (first | assumption | omega)) | skip)
      rw [p3]
      refine v_icmp_ne (tgt := 38) dX8_resembles_31 (by decide) (fun hc31 => ?_) (fun hc31 => ?_)
      · (try rw [nI_eq (by omega) (by omega)] at hc31)
        refine v_iconst (v := nI 0) dX8_resembles_38 (by decide) ?_
        refine v_zret dX8_resembles_39 (by first | rfl | exact bI_n _) rfl rfl rfl rfl ?_
        first | (rw [bI_t (by simp [resv]; omega)] at hQ; exact hQ) | (rw [bI_f (by simp [resv]; omega)] at hQ; exact hQ)
      · (try rw [nI_eq (by omega) (by omega)] at hc31)
        refine v_iconst (v := nI 1) dX8_resembles_34 (by decide) ?_
        refine v_goto (tgt := 39) dX8_resembles_35 (by decide) ?_
        refine v_zret dX8_resembles_39 (by first | rfl | exact bI_n _) rfl rfl rfl rfl ?_
        first | (rw [bI_t (by simp [resv]; omega)] at hQ; exact hQ) | (rw [bI_f (by simp [resv]; omega)] at hQ; exact hQ)
theorem c_X8_clashesWith {p m d h s hb m2 d2 h2 s2 hb2 : Nat} (ha : SH a = .inl 8) (hp : SH p = .inl 8) (hs : SgI I a m d h s hb) (hpp : SgI I p m2 d2 h2 s2 hb2) (hQ : Q (some (.int (bI (decide (m = m2) && decide (d = d2) && decide (h = h2))))) SH I L R) : KK 0 mX8_clashesWith b ad [.ref (b + a), .ref (b + p)] I L R Q := by
  obtain ⟨s0, s1, q2, s3, s4, s5, s6, s7, s8, s9⟩ := hs
  obtain ⟨p0, p1, p2, p3, p4, p5, p6, p7, p8, p9⟩ := hpp
  refine K.of (M := mX8_clashesWith) (lv := [some (.ref (b + a)), some (.ref (b + p))]) (by decide) (Nat.le_of_ble_eq_true rfl) rfl ?_
  refine v_aload_0 dX8_clashesWith_0 ?_
  refine u_getI dX8_clashesWith_1 gf_X8_26 (by first | assumption | exact led_1 (by assumption) | exact led_2 (by assumption) | exact bk_m (by assumption) (by first | assumption | omega) | exact bk_p (by assumption) (by first | assumption | omega) | exact bk_o (by assumption) (by first | assumption | omega) | exact bk_s (by assumption) (by first | assumption | omega) | exact bk_1 (by assumption) | exact bk_2 (by assumption) | exact bk_3 (by assumption) | exact bk_4 (by assumption) | exact bk_5 (by assumption) | exact bk_6 (by assumption) | exact bk_7 (by assumption) | exact bk_8 (by assumption) | rfl) ?_
  (first | (rw [bs0 hF]; rotate_left; (first | assumption | omega)) | skip)
  rw [s0]
  refine v_aload_1 dX8_clashesWith_4 ?_
  refine u_getI dX8_clashesWith_5 gf_X8_26 (by first | assumption | exact led_1 (by assumption) | exact led_2 (by assumption) | exact bk_m (by assumption) (by first | assumption | omega) | exact bk_p (by assumption) (by first | assumption | omega) | exact bk_o (by assumption) (by first | assumption | omega) | exact bk_s (by assumption) (by first | assumption | omega) | exact bk_1 (by assumption) | exact bk_2 (by assumption) | exact bk_3 (by assumption) | exact bk_4 (by assumption) | exact bk_5 (by assumption) | exact bk_6 (by assumption) | exact bk_7 (by assumption) | exact bk_8 (by assumption) | rfl) ?_
  (first | (rw [bs0 hF]; rotate_left; (first | assumption | omega)) | skip)
  rw [p0]
  refine v_icmp_ne (tgt := 37) dX8_clashesWith_8 (by decide) (fun hc8 => ?_) (fun hc8 => ?_)
  · (try rw [nI_eq (by omega) (by omega)] at hc8)
    refine v_iconst (v := nI 0) dX8_clashesWith_37 (by decide) ?_
    refine v_zret dX8_clashesWith_38 (by first | rfl | exact bI_n _) rfl rfl rfl rfl ?_
    first | (rw [bI_t (by simp_all)] at hQ; exact hQ) | (rw [bI_f (by simp_all)] at hQ; exact hQ)
  · (try rw [nI_eq (by omega) (by omega)] at hc8)
    refine v_aload_0 dX8_clashesWith_11 ?_
    refine u_getI dX8_clashesWith_12 gf_X8_29 (by first | assumption | exact led_1 (by assumption) | exact led_2 (by assumption) | exact bk_m (by assumption) (by first | assumption | omega) | exact bk_p (by assumption) (by first | assumption | omega) | exact bk_o (by assumption) (by first | assumption | omega) | exact bk_s (by assumption) (by first | assumption | omega) | exact bk_1 (by assumption) | exact bk_2 (by assumption) | exact bk_3 (by assumption) | exact bk_4 (by assumption) | exact bk_5 (by assumption) | exact bk_6 (by assumption) | exact bk_7 (by assumption) | exact bk_8 (by assumption) | rfl) ?_
    (first | (rw [bs1 hF]; rotate_left; (first | assumption | omega)) | skip)
    rw [s1]
    refine v_aload_1 dX8_clashesWith_15 ?_
    refine u_getI dX8_clashesWith_16 gf_X8_29 (by first | assumption | exact led_1 (by assumption) | exact led_2 (by assumption) | exact bk_m (by assumption) (by first | assumption | omega) | exact bk_p (by assumption) (by first | assumption | omega) | exact bk_o (by assumption) (by first | assumption | omega) | exact bk_s (by assumption) (by first | assumption | omega) | exact bk_1 (by assumption) | exact bk_2 (by assumption) | exact bk_3 (by assumption) | exact bk_4 (by assumption) | exact bk_5 (by assumption) | exact bk_6 (by assumption) | exact bk_7 (by assumption) | exact bk_8 (by assumption) | rfl) ?_
    (first | (rw [bs1 hF]; rotate_left; (first | assumption | omega)) | skip)
    rw [p1]
    refine v_icmp_ne (tgt := 37) dX8_clashesWith_19 (by decide) (fun hc19 => ?_) (fun hc19 => ?_)
    · (try rw [nI_eq (by omega) (by omega)] at hc19)
      refine v_iconst (v := nI 0) dX8_clashesWith_37 (by decide) ?_
      refine v_zret dX8_clashesWith_38 (by first | rfl | exact bI_n _) rfl rfl rfl rfl ?_
      first | (rw [bI_t (by simp_all)] at hQ; exact hQ) | (rw [bI_f (by simp_all)] at hQ; exact hQ)
    · (try rw [nI_eq (by omega) (by omega)] at hc19)
      refine v_aload_0 dX8_clashesWith_22 ?_
      refine u_getI dX8_clashesWith_23 gf_X8_32 (by first | assumption | exact led_1 (by assumption) | exact led_2 (by assumption) | exact bk_m (by assumption) (by first | assumption | omega) | exact bk_p (by assumption) (by first | assumption | omega) | exact bk_o (by assumption) (by first | assumption | omega) | exact bk_s (by assumption) (by first | assumption | omega) | exact bk_1 (by assumption) | exact bk_2 (by assumption) | exact bk_3 (by assumption) | exact bk_4 (by assumption) | exact bk_5 (by assumption) | exact bk_6 (by assumption) | exact bk_7 (by assumption) | exact bk_8 (by assumption) | rfl) ?_
      (first | (rw [bs2 hF]; rotate_left; (first | assumption | omega)) | skip)
      rw [q2]
      refine v_aload_1 dX8_clashesWith_26 ?_
      refine u_getI dX8_clashesWith_27 gf_X8_32 (by first | assumption | exact led_1 (by assumption) | exact led_2 (by assumption) | exact bk_m (by assumption) (by first | assumption | omega) | exact bk_p (by assumption) (by first | assumption | omega) | exact bk_o (by assumption) (by first | assumption | omega) | exact bk_s (by assumption) (by first | assumption | omega) | exact bk_1 (by assumption) | exact bk_2 (by assumption) | exact bk_3 (by assumption) | exact bk_4 (by assumption) | exact bk_5 (by assumption) | exact bk_6 (by assumption) | exact bk_7 (by assumption) | exact bk_8 (by assumption) | rfl) ?_
      (first | (rw [bs2 hF]; rotate_left; (first | assumption | omega)) | skip)
      rw [p2]
      refine v_icmp_ne (tgt := 37) dX8_clashesWith_30 (by decide) (fun hc30 => ?_) (fun hc30 => ?_)
      · (try rw [nI_eq (by omega) (by omega)] at hc30)
        refine v_iconst (v := nI 0) dX8_clashesWith_37 (by decide) ?_
        refine v_zret dX8_clashesWith_38 (by first | rfl | exact bI_n _) rfl rfl rfl rfl ?_
        first | (rw [bI_t (by simp_all)] at hQ; exact hQ) | (rw [bI_f (by simp_all)] at hQ; exact hQ)
      · (try rw [nI_eq (by omega) (by omega)] at hc30)
        refine v_iconst (v := nI 1) dX8_clashesWith_33 (by decide) ?_
        refine v_goto (tgt := 38) dX8_clashesWith_34 (by decide) ?_
        refine v_zret dX8_clashesWith_38 (by first | rfl | exact bI_n _) rfl rfl rfl rfl ?_
        first | (rw [bI_t (by simp_all)] at hQ; exact hQ) | (rw [bI_f (by simp_all)] at hQ; exact hQ)
end
