section
variable {b : Nat} {ad : Nat → Nat} {I : HI} {L : HL} {R : HR} {Q : QT} {a : Nat}
theorem c_X2_copyFrom {o n : Nat} {g : lends} {br : Nat → Nat} (hR : RO R) (ha : SH a = .inl 2) (ho : SH o = .inl 2) (hL : LDI I o n g br) (hQ : ∀ I', LDI I' a n g br → (∀ x, x ≠ a → x ≠ a + 1 → x ≠ a + 2 → I' x = I x) → Q none SH I' L R) : KK 1 mX2_copyFrom b ad [.ref (b + a), .ref (b + o)] I L R Q := by
  have a1 := led_1 ha
  have a2 := led_2 ha
  have o1 := led_1 ho
  have o2 := led_2 ho
  have n1 : o + 1 ≠ a := fun e => by rw [e, ha] at o1; cases o1
  have n2 : o + 2 ≠ a := fun e => by rw [e, ha] at o2; cases o2
  have n3 : o + 2 ≠ a + 1 := fun e => by rw [e, a1] at o2; cases o2
  have fin1 : LDI (ucp (ucp (ui I a 0 (I o 0)) (a + 1) (o + 1) 20) (a + 2) (o + 2) 6) a n g br := by
    obtain ⟨⟨l1, l2, l3⟩, l4⟩ := hL
    refine ⟨⟨?_, l2, fun i hi => ?_⟩, fun p hp => ?_⟩
    · rw [ucp_n (by omega), ucp_n (by omega), ui_s]; exact l1
    · rw [ucp_n (by omega), ucp_s (by omega), ui_ne n1]; exact l3 i hi
    · rw [ucp_s hp, ucp_n n3, ui_ne n2]; exact l4 p hp
  have fin2 : ∀ x, x ≠ a → x ≠ a + 1 → x ≠ a + 2 → ucp (ucp (ui I a 0 (I o 0)) (a + 1) (o + 1) 20) (a + 2) (o + 2) 6 x = I x := fun x h1 h2 h3 => by rw [ucp_n h3, ucp_n h2, ui_ne h1]
  refine K.of (M := mX2_copyFrom) (lv := [some (.ref (b + a)), some (.ref (b + o))]) (by decide) (Nat.le_of_ble_eq_true rfl) rfl ?_
  refine v_aload_0 dX2_copyFrom_0 ?_
  refine v_aload_1 dX2_copyFrom_1 ?_
  refine u_getI dX2_copyFrom_2 gf_X2_18 (by first | assumption | exact led_1 (by assumption) | exact led_2 (by assumption) | exact bk_m (by assumption) (by first | assumption | omega) | exact bk_p (by assumption) (by first | assumption | omega) | exact bk_o (by assumption) (by first | assumption | omega) | exact bk_s (by assumption) (by first | assumption | omega) | exact bk_1 (by assumption) | exact bk_2 (by assumption) | exact bk_3 (by assumption) | exact bk_4 (by assumption) | exact bk_5 (by assumption) | exact bk_6 (by assumption) | exact bk_7 (by assumption) | exact bk_8 (by assumption) | rfl) ?_
  refine u_putI dX2_copyFrom_5 gf_X2_18 (by first | assumption | exact led_1 (by assumption) | exact led_2 (by assumption) | exact bk_m (by assumption) (by first | assumption | omega) | exact bk_p (by assumption) (by first | assumption | omega) | exact bk_o (by assumption) (by first | assumption | omega) | exact bk_s (by assumption) (by first | assumption | omega) | exact bk_1 (by assumption) | exact bk_2 (by assumption) | exact bk_3 (by assumption) | exact bk_4 (by assumption) | exact bk_5 (by assumption) | exact bk_6 (by assumption) | exact bk_7 (by assumption) | exact bk_8 (by assumption) | rfl) rfl rfl rfl ?_
  refine v_aload_1 dX2_copyFrom_8 ?_
  refine u_getR dX2_copyFrom_9 gf_X2_9 (by first | assumption | exact led_1 (by assumption) | exact led_2 (by assumption) | exact bk_m (by assumption) (by first | assumption | omega) | exact bk_p (by assumption) (by first | assumption | omega) | exact bk_o (by assumption) (by first | assumption | omega) | exact bk_s (by assumption) (by first | assumption | omega) | exact bk_1 (by assumption) | exact bk_2 (by assumption) | exact bk_3 (by assumption) | exact bk_4 (by assumption) | exact bk_5 (by assumption) | exact bk_6 (by assumption) | exact bk_7 (by assumption) | exact bk_8 (by assumption) | rfl) (ro_X2_1 (by assumption) (by assumption)) ?_
  refine v_iconst (v := nI 0) dX2_copyFrom_12 (by decide) ?_
  refine v_aload_0 dX2_copyFrom_13 ?_
  refine u_getR dX2_copyFrom_14 gf_X2_9 (by first | assumption | exact led_1 (by assumption) | exact led_2 (by assumption) | exact bk_m (by assumption) (by first | assumption | omega) | exact bk_p (by assumption) (by first | assumption | omega) | exact bk_o (by assumption) (by first | assumption | omega) | exact bk_s (by assumption) (by first | assumption | omega) | exact bk_1 (by assumption) | exact bk_2 (by assumption) | exact bk_3 (by assumption) | exact bk_4 (by assumption) | exact bk_5 (by assumption) | exact bk_6 (by assumption) | exact bk_7 (by assumption) | exact bk_8 (by assumption) | rfl) (ro_X2_1 (by assumption) (by assumption)) ?_
  refine v_iconst (v := nI 0) dX2_copyFrom_17 (by decide) ?_
  refine v_bipush (v := nI 20) dX2_copyFrom_18 (by decide) ?_
  refine u_cpy (z := 20) dX2_copyFrom_20 ml_X2_28 (led_1 ho) (led_1 ha) (by decide) (by decide) (by decide) (by decide) (Nat.le_of_ble_eq_true rfl) ?_
  refine v_aload_1 dX2_copyFrom_23 ?_
  refine u_getR dX2_copyFrom_24 gf_X2_15 (by first | assumption | exact led_1 (by assumption) | exact led_2 (by assumption) | exact bk_m (by assumption) (by first | assumption | omega) | exact bk_p (by assumption) (by first | assumption | omega) | exact bk_o (by assumption) (by first | assumption | omega) | exact bk_s (by assumption) (by first | assumption | omega) | exact bk_1 (by assumption) | exact bk_2 (by assumption) | exact bk_3 (by assumption) | exact bk_4 (by assumption) | exact bk_5 (by assumption) | exact bk_6 (by assumption) | exact bk_7 (by assumption) | exact bk_8 (by assumption) | rfl) (ro_X2_2 (by assumption) (by assumption)) ?_
  refine v_iconst (v := nI 0) dX2_copyFrom_27 (by decide) ?_
  refine v_aload_0 dX2_copyFrom_28 ?_
  refine u_getR dX2_copyFrom_29 gf_X2_15 (by first | assumption | exact led_1 (by assumption) | exact led_2 (by assumption) | exact bk_m (by assumption) (by first | assumption | omega) | exact bk_p (by assumption) (by first | assumption | omega) | exact bk_o (by assumption) (by first | assumption | omega) | exact bk_s (by assumption) (by first | assumption | omega) | exact bk_1 (by assumption) | exact bk_2 (by assumption) | exact bk_3 (by assumption) | exact bk_4 (by assumption) | exact bk_5 (by assumption) | exact bk_6 (by assumption) | exact bk_7 (by assumption) | exact bk_8 (by assumption) | rfl) (ro_X2_2 (by assumption) (by assumption)) ?_
  refine v_iconst (v := nI 0) dX2_copyFrom_32 (by decide) ?_
  refine v_bipush (v := nI 6) dX2_copyFrom_33 (by decide) ?_
  refine u_cpy (z := 6) dX2_copyFrom_35 ml_X2_28 (led_2 ho) (led_2 ha) (by decide) (by decide) (by decide) (by decide) (Nat.le_of_ble_eq_true rfl) ?_
  refine v_vret dX2_copyFrom_38 rfl rfl rfl rfl ?_
  exact hQ _ fin1 fin2
theorem c_fill {x len : Nat} {v : Int32} (hx : SH x = .inr (0, len)) (hl : len < 2 ^ 31) (hQ : Q none SH (ufl I x 0 len v) L R) : KK 0 mJ7_fill_53178 b ad [.ref (b + x), .int v] I L R Q := by
  refine K.of (M := mJ7_fill_53178) (lv := [some (.ref (b + x)), some (.int v), none, none]) (by decide) (Nat.le_of_ble_eq_true rfl) rfl ?_
  have loop : ∀ (j i : Nat), i + j = len → VV yJ7_fill_53178 cJ7_fill_53178 4 none 0 Q b ad 5 [some (.ref (b + x)), some (.int v), some (.int (nI i)), some (.int (nI len))] [] (ufl I x 0 i v) L R := by
    intro j
    induction j with
    | zero =>
      intro i hij
      refine v_iload_2 dJ7_fill_53178_5 ?_
      refine v_iload_3 dJ7_fill_53178_6 ?_
      refine v_icmp_ge (tgt := 20) dJ7_fill_53178_7 (by decide) (fun hc7 => ?_) (fun hc7 => ?_)
      · (try rw [nI_leI (by omega) (by omega)] at hc7)
        refine v_vret dJ7_fill_53178_20 rfl rfl rfl rfl ?_
        have e : i = len := by omega
        subst e
        exact hQ
      · (try rw [nI_leI (by omega) (by omega)] at hc7)
        refine v_aload_0 dJ7_fill_53178_10 ?_
        exfalso; omega
    | succ j ih =>
      intro i hij
      refine v_iload_2 dJ7_fill_53178_5 ?_
      refine v_iload_3 dJ7_fill_53178_6 ?_
      refine v_icmp_ge (tgt := 20) dJ7_fill_53178_7 (by decide) (fun hc7 => ?_) (fun hc7 => ?_)
      · (try rw [nI_leI (by omega) (by omega)] at hc7)
        refine v_vret dJ7_fill_53178_20 rfl rfl rfl rfl ?_
        exfalso; omega
      · (try rw [nI_leI (by omega) (by omega)] at hc7)
        refine v_aload_0 dJ7_fill_53178_10 ?_
        refine v_iload_2 dJ7_fill_53178_11 ?_
        refine v_iload_1 dJ7_fill_53178_12 ?_
        refine u_iast dJ7_fill_53178_13 (by first | assumption | exact led_1 (by assumption) | exact led_2 (by assumption) | exact bk_m (by assumption) (by first | assumption | omega) | exact bk_p (by assumption) (by first | assumption | omega) | exact bk_o (by assumption) (by first | assumption | omega) | exact bk_s (by assumption) (by first | assumption | omega) | exact bk_1 (by assumption) | exact bk_2 (by assumption) | exact bk_3 (by assumption) | exact bk_4 (by assumption) | exact bk_5 (by assumption) | exact bk_6 (by assumption) | exact bk_7 (by assumption) | exact bk_8 (by assumption) | rfl) (by first | rfl | (simp only [nlit, nI_add, pk_mul]; rfl)) (by first | assumption | omega) (by first | assumption | decide) ?_
        refine v_iinc_2 (v := 1) rfl dJ7_fill_53178_14 (by decide) ?_
        refine v_goto (tgt := 5) dJ7_fill_53178_17 (by decide) ?_
        rw [← nI_succ]
        have e := ufl_succ I x 0 i v (Nat.zero_le _)
        rw [e]
        exact ih (i + 1) (by omega)
  refine v_iconst (v := nI 0) dJ7_fill_53178_0 (by decide) ?_
  refine v_istore_2 rfl dJ7_fill_53178_1 ?_
  refine v_aload_0 dJ7_fill_53178_2 ?_
  refine u_alen dJ7_fill_53178_3 (by first | assumption | exact led_1 (by assumption) | exact led_2 (by assumption) | exact bk_m (by assumption) (by first | assumption | omega) | exact bk_p (by assumption) (by first | assumption | omega) | exact bk_o (by assumption) (by first | assumption | omega) | exact bk_s (by assumption) (by first | assumption | omega) | exact bk_1 (by assumption) | exact bk_2 (by assumption) | exact bk_3 (by assumption) | exact bk_4 (by assumption) | exact bk_5 (by assumption) | exact bk_6 (by assumption) | exact bk_7 (by assumption) | exact bk_8 (by assumption) | rfl) (by decide) ?_
  refine v_istore_3 rfl dJ7_fill_53178_4 ?_
  have e := ufl_0 I x 0 v
  rw [← e]
  exact loop len 0 (by omega)
theorem c_X2_clear {g : lends} (hR : RO R) (ha : SH a = .inl 2) (hQ : ∀ I', LDI I' a 0 g (fun _ => 0) → (∀ x, x ≠ a → x ≠ a + 2 → I' x = I x) → Q none SH I' L R) : KK 1 mX2_clear b ad [.ref (b + a)] I L R Q := by
  have fin1 : ufl (ui I a 0 (nI 0)) (a + 2) 0 6 (nI 0) a 0 = nI 0 := by simp [ufl, ui, upd]
  have fin2 : BrI (ufl (ui I a 0 (nI 0)) (a + 2) 0 6 (nI 0)) a (fun _ => 0) := fun p hp => ⟨by simp [ufl, hp], by show 0 < 2097152; decide⟩
  have fin3 : ∀ x, x ≠ a → x ≠ a + 2 → ufl (ui I a 0 (nI 0)) (a + 2) 0 6 (nI 0) x = I x := fun x h1 h2 => by simp [ufl, ui, h1, h2]
  refine K.of (M := mX2_clear) (lv := [some (.ref (b + a))]) (by decide) (Nat.le_of_ble_eq_true rfl) rfl ?_
  refine v_aload_0 dX2_clear_0 ?_
  refine v_iconst (v := nI 0) dX2_clear_1 (by decide) ?_
  refine u_putI dX2_clear_2 gf_X2_18 (by first | assumption | exact led_1 (by assumption) | exact led_2 (by assumption) | exact bk_m (by assumption) (by first | assumption | omega) | exact bk_p (by assumption) (by first | assumption | omega) | exact bk_o (by assumption) (by first | assumption | omega) | exact bk_s (by assumption) (by first | assumption | omega) | exact bk_1 (by assumption) | exact bk_2 (by assumption) | exact bk_3 (by assumption) | exact bk_4 (by assumption) | exact bk_5 (by assumption) | exact bk_6 (by assumption) | exact bk_7 (by assumption) | exact bk_8 (by assumption) | rfl) rfl rfl rfl ?_
  refine v_aload_0 dX2_clear_5 ?_
  refine u_getR dX2_clear_6 gf_X2_15 (by first | assumption | exact led_1 (by assumption) | exact led_2 (by assumption) | exact bk_m (by assumption) (by first | assumption | omega) | exact bk_p (by assumption) (by first | assumption | omega) | exact bk_o (by assumption) (by first | assumption | omega) | exact bk_s (by assumption) (by first | assumption | omega) | exact bk_1 (by assumption) | exact bk_2 (by assumption) | exact bk_3 (by assumption) | exact bk_4 (by assumption) | exact bk_5 (by assumption) | exact bk_6 (by assumption) | exact bk_7 (by assumption) | exact bk_8 (by assumption) | rfl) (ro_X2_2 (by assumption) (by assumption)) ?_
  refine v_iconst (v := nI 0) dX2_clear_9 (by decide) ?_
  refine u_callS_2 dX2_clear_10 ml_X2_22 ms_J7_fill_53178 (by decide) (Nat.le_of_ble_eq_true rfl) (c_fill (led_2 ha) (by decide) ?_)
  refine v_vret dX2_clear_13 rfl rfl rfl rfl ?_
  exact hQ _ ⟨⟨fin1, by omega, fun i hi => by omega⟩, fin2⟩ fin3
theorem c_X2_endAhead {n i d : Nat} {g : lends} (hR : RO R) (ha : SH a = .inl 2) (hL : LedI I a n g) (hi : i < n) (hd : d ≤ 20) (hQ1 : (g i).2.2.1 < d → ∀ I', LedI I' a n (setg g i ((g i).1, (g i).2.1, (g i).2.2.1, d - 1)) → (∀ x, x ≠ a + 1 → I' x = I x) → Q none SH I' L R) (hQ2 : ¬ (g i).2.2.1 < d → ∀ I', LedI I' a (n - 1) (cutg g i) → (∀ x, x ≠ a → x ≠ a + 1 → I' x = I x) → Q none SH I' L R) : KK 2 mX2_endAhead b ad [.ref (b + a), .int (nI i), .int (nI d)] I L R Q := by
  obtain ⟨hn, hn2, hrow⟩ := hL
  have ho := (hrow i hi).2
  have ho2 := ho
  obtain ⟨o1, o2, o3, o4, o5⟩ := ho2
  refine K.of (M := mX2_endAhead) (lv := [some (.ref (b + a)), some (.int (nI i)), some (.int (nI d)), none]) (by decide) (Nat.le_of_ble_eq_true rfl) rfl ?_
  have loop : ¬ (g i).2.2.1 < d → ∀ (j k : Nat), i < k → k + j = n → ∀ J : HI, J a 0 = nI n → (∀ z, (z < i ∨ k ≤ z) → J (a + 1) z = I (a + 1) z) → (∀ z, i ≤ z → z < k - 1 → J (a + 1) z = I (a + 1) (z + 1)) → (∀ x, x ≠ a + 1 → J x = I x) → VV yX2_endAhead cX2_endAhead 4 none 2 Q b ad 36 [some (.ref (b + a)), some (.int (nI i)), some (.int (nI d)), some (.int (nI k))] [] J L R := by
    intro hge j
    induction j with
    | zero =>
      intro k hik hkn J hJ0 hJ1 hJ2 hJ3
      refine v_iload_3 dX2_endAhead_36 ?_
      refine v_aload_0 dX2_endAhead_37 ?_
      refine u_getI dX2_endAhead_38 gf_X2_18 (by first | assumption | exact led_1 (by assumption) | exact led_2 (by assumption) | exact bk_m (by assumption) (by first | assumption | omega) | exact bk_p (by assumption) (by first | assumption | omega) | exact bk_o (by assumption) (by first | assumption | omega) | exact bk_s (by assumption) (by first | assumption | omega) | exact bk_1 (by assumption) | exact bk_2 (by assumption) | exact bk_3 (by assumption) | exact bk_4 (by assumption) | exact bk_5 (by assumption) | exact bk_6 (by assumption) | exact bk_7 (by assumption) | exact bk_8 (by assumption) | rfl) ?_
      rw [hJ0]
      refine v_icmp_ge (tgt := 64) dX2_endAhead_41 (by decide) (fun hc41 => ?_) (fun hc41 => ?_)
      · (try rw [nI_leI (by omega) (by omega)] at hc41)
        refine v_aload_0 dX2_endAhead_64 ?_
        refine v_dup dX2_endAhead_65 rfl ?_
        refine u_getI dX2_endAhead_66 gf_X2_18 (by first | assumption | exact led_1 (by assumption) | exact led_2 (by assumption) | exact bk_m (by assumption) (by first | assumption | omega) | exact bk_p (by assumption) (by first | assumption | omega) | exact bk_o (by assumption) (by first | assumption | omega) | exact bk_s (by assumption) (by first | assumption | omega) | exact bk_1 (by assumption) | exact bk_2 (by assumption) | exact bk_3 (by assumption) | exact bk_4 (by assumption) | exact bk_5 (by assumption) | exact bk_6 (by assumption) | exact bk_7 (by assumption) | exact bk_8 (by assumption) | rfl) ?_
        skip
        refine v_iconst (v := nI 1) dX2_endAhead_69 (by decide) ?_
        refine v_isub dX2_endAhead_70 ?_
        refine u_putI dX2_endAhead_71 gf_X2_18 (by first | assumption | exact led_1 (by assumption) | exact led_2 (by assumption) | exact bk_m (by assumption) (by first | assumption | omega) | exact bk_p (by assumption) (by first | assumption | omega) | exact bk_o (by assumption) (by first | assumption | omega) | exact bk_s (by assumption) (by first | assumption | omega) | exact bk_1 (by assumption) | exact bk_2 (by assumption) | exact bk_3 (by assumption) | exact bk_4 (by assumption) | exact bk_5 (by assumption) | exact bk_6 (by assumption) | exact bk_7 (by assumption) | exact bk_8 (by assumption) | rfl) rfl rfl rfl ?_
        refine v_vret dX2_endAhead_74 rfl rfl rfl rfl ?_
        refine hQ2 (by omega) _ ⟨?_, by omega, ?_⟩ ?_
        · simp only [ui_s]; rw [hJ0, pk_sub (by omega)]
        · intro z hz; rw [ui_ne (by omega)]; have e : n - 1 - 1 + 1 = n - 1 := by omega
          simp only [cutg]; split
          · rw [hJ1 z (Or.inl (by omega))]; exact hrow z (by omega)
          · rw [hJ2 z (by omega) (by omega)]; exact hrow (z + 1) (by omega)
        · intro x h1 h2; rw [ui_ne h1]; exact hJ3 x h2
      · (try rw [nI_leI (by omega) (by omega)] at hc41)
        exfalso; omega
    | succ j ih =>
      intro k hik hkn J hJ0 hJ1 hJ2 hJ3
      refine v_iload_3 dX2_endAhead_36 ?_
      refine v_aload_0 dX2_endAhead_37 ?_
      refine u_getI dX2_endAhead_38 gf_X2_18 (by first | assumption | exact led_1 (by assumption) | exact led_2 (by assumption) | exact bk_m (by assumption) (by first | assumption | omega) | exact bk_p (by assumption) (by first | assumption | omega) | exact bk_o (by assumption) (by first | assumption | omega) | exact bk_s (by assumption) (by first | assumption | omega) | exact bk_1 (by assumption) | exact bk_2 (by assumption) | exact bk_3 (by assumption) | exact bk_4 (by assumption) | exact bk_5 (by assumption) | exact bk_6 (by assumption) | exact bk_7 (by assumption) | exact bk_8 (by assumption) | rfl) ?_
      rw [hJ0]
      refine v_icmp_ge (tgt := 64) dX2_endAhead_41 (by decide) (fun hc41 => ?_) (fun hc41 => ?_)
      · (try rw [nI_leI (by omega) (by omega)] at hc41)
        exfalso; omega
      · (try rw [nI_leI (by omega) (by omega)] at hc41)
        refine v_aload_0 dX2_endAhead_44 ?_
        refine u_getR dX2_endAhead_45 gf_X2_9 (by first | assumption | exact led_1 (by assumption) | exact led_2 (by assumption) | exact bk_m (by assumption) (by first | assumption | omega) | exact bk_p (by assumption) (by first | assumption | omega) | exact bk_o (by assumption) (by first | assumption | omega) | exact bk_s (by assumption) (by first | assumption | omega) | exact bk_1 (by assumption) | exact bk_2 (by assumption) | exact bk_3 (by assumption) | exact bk_4 (by assumption) | exact bk_5 (by assumption) | exact bk_6 (by assumption) | exact bk_7 (by assumption) | exact bk_8 (by assumption) | rfl) (ro_X2_1 (by assumption) (by assumption)) ?_
        refine v_iload_3 dX2_endAhead_48 ?_
        refine v_iconst (v := nI 1) dX2_endAhead_49 (by decide) ?_
        refine v_isub dX2_endAhead_50 ?_
        rw [pk_sub (by omega)]
        refine v_aload_0 dX2_endAhead_51 ?_
        refine u_getR dX2_endAhead_52 gf_X2_9 (by first | assumption | exact led_1 (by assumption) | exact led_2 (by assumption) | exact bk_m (by assumption) (by first | assumption | omega) | exact bk_p (by assumption) (by first | assumption | omega) | exact bk_o (by assumption) (by first | assumption | omega) | exact bk_s (by assumption) (by first | assumption | omega) | exact bk_1 (by assumption) | exact bk_2 (by assumption) | exact bk_3 (by assumption) | exact bk_4 (by assumption) | exact bk_5 (by assumption) | exact bk_6 (by assumption) | exact bk_7 (by assumption) | exact bk_8 (by assumption) | rfl) (ro_X2_1 (by assumption) (by assumption)) ?_
        refine v_iload_3 dX2_endAhead_55 ?_
        refine u_iald dX2_endAhead_56 (by first | assumption | exact led_1 (by assumption) | exact led_2 (by assumption) | exact bk_m (by assumption) (by first | assumption | omega) | exact bk_p (by assumption) (by first | assumption | omega) | exact bk_o (by assumption) (by first | assumption | omega) | exact bk_s (by assumption) (by first | assumption | omega) | exact bk_1 (by assumption) | exact bk_2 (by assumption) | exact bk_3 (by assumption) | exact bk_4 (by assumption) | exact bk_5 (by assumption) | exact bk_6 (by assumption) | exact bk_7 (by assumption) | exact bk_8 (by assumption) | rfl) (by first | rfl | (simp only [nlit, nI_add, pk_mul]; rfl)) (by first | assumption | omega) (by first | assumption | decide) ?_
        refine u_iast dX2_endAhead_57 (by first | assumption | exact led_1 (by assumption) | exact led_2 (by assumption) | exact bk_m (by assumption) (by first | assumption | omega) | exact bk_p (by assumption) (by first | assumption | omega) | exact bk_o (by assumption) (by first | assumption | omega) | exact bk_s (by assumption) (by first | assumption | omega) | exact bk_1 (by assumption) | exact bk_2 (by assumption) | exact bk_3 (by assumption) | exact bk_4 (by assumption) | exact bk_5 (by assumption) | exact bk_6 (by assumption) | exact bk_7 (by assumption) | exact bk_8 (by assumption) | rfl) (by first | rfl | (simp only [nlit, nI_add, pk_mul]; rfl)) (by first | assumption | omega) (by first | assumption | decide) ?_
        refine v_iinc_3 (v := 1) rfl dX2_endAhead_58 (by decide) ?_
        refine v_goto (tgt := 36) dX2_endAhead_61 (by decide) ?_
        rw [← nI_succ]
        refine ih (k + 1) (by omega) (by omega) _ ?_ ?_ ?_ ?_
        · rw [ui_ne (by omega)]; exact hJ0
        · intro z hz; rw [ui_o (by omega)]; exact hJ1 z (by omega)
        · intro z h1 h2; by_cases e : z = k - 1
          · subst e; rw [ui_s, hJ1 k (Or.inr (by omega)), show k - 1 + 1 = k by omega]
          · rw [ui_o e]; exact hJ2 z h1 (by omega)
        · intro x hx; rw [ui_ne hx]; exact hJ3 x hx
  refine v_aload_0 dX2_endAhead_0 ?_
  refine v_iload_1 dX2_endAhead_1 ?_
  refine u_callV_1 dX2_endAhead_2 ml_X2_34 mv_X2_firstDay (by first | assumption | exact led_1 (by assumption) | exact led_2 (by assumption) | exact bk_m (by assumption) (by first | assumption | omega) | exact bk_p (by assumption) (by first | assumption | omega) | exact bk_o (by assumption) (by first | assumption | omega) | exact bk_s (by assumption) (by first | assumption | omega) | exact bk_1 (by assumption) | exact bk_2 (by assumption) | exact bk_3 (by assumption) | exact bk_4 (by assumption) | exact bk_5 (by assumption) | exact bk_6 (by assumption) | exact bk_7 (by assumption) | exact bk_8 (by assumption) | rfl) (by decide) rfl (by decide) (Nat.le_of_ble_eq_true rfl) (c_X2_firstDay (q := g i) hR ha (by omega) (hrow i hi).1 ho ?_)
  refine v_iload_2 dX2_endAhead_5 ?_
  refine v_icmp_ge (tgt := 32) dX2_endAhead_6 (by decide) (fun hc6 => ?_) (fun hc6 => ?_)
  · (try rw [nI_leI (by omega) (by omega)] at hc6)
    refine v_iload_1 dX2_endAhead_32 ?_
    refine v_iconst (v := nI 1) dX2_endAhead_33 (by decide) ?_
    refine v_iadd dX2_endAhead_34 ?_
    refine v_istore_3 rfl dX2_endAhead_35 ?_
    rw [nI_add]
    exact loop (by omega) (n - (i + 1)) (i + 1) (by omega) (by omega) I hn (fun z _ => rfl) (fun z h1 h2 => by omega) (fun x _ => rfl)
  · (try rw [nI_leI (by omega) (by omega)] at hc6)
    refine v_aload_0 dX2_endAhead_9 ?_
    refine u_getR dX2_endAhead_10 gf_X2_9 (by first | assumption | exact led_1 (by assumption) | exact led_2 (by assumption) | exact bk_m (by assumption) (by first | assumption | omega) | exact bk_p (by assumption) (by first | assumption | omega) | exact bk_o (by assumption) (by first | assumption | omega) | exact bk_s (by assumption) (by first | assumption | omega) | exact bk_1 (by assumption) | exact bk_2 (by assumption) | exact bk_3 (by assumption) | exact bk_4 (by assumption) | exact bk_5 (by assumption) | exact bk_6 (by assumption) | exact bk_7 (by assumption) | exact bk_8 (by assumption) | rfl) (ro_X2_1 (by assumption) (by assumption)) ?_
    refine v_iload_1 dX2_endAhead_13 ?_
    refine v_aload_0 dX2_endAhead_14 ?_
    refine u_getR dX2_endAhead_15 gf_X2_9 (by first | assumption | exact led_1 (by assumption) | exact led_2 (by assumption) | exact bk_m (by assumption) (by first | assumption | omega) | exact bk_p (by assumption) (by first | assumption | omega) | exact bk_o (by assumption) (by first | assumption | omega) | exact bk_s (by assumption) (by first | assumption | omega) | exact bk_1 (by assumption) | exact bk_2 (by assumption) | exact bk_3 (by assumption) | exact bk_4 (by assumption) | exact bk_5 (by assumption) | exact bk_6 (by assumption) | exact bk_7 (by assumption) | exact bk_8 (by assumption) | rfl) (ro_X2_1 (by assumption) (by assumption)) ?_
    refine v_iload_1 dX2_endAhead_18 ?_
    refine u_iald dX2_endAhead_19 (by first | assumption | exact led_1 (by assumption) | exact led_2 (by assumption) | exact bk_m (by assumption) (by first | assumption | omega) | exact bk_p (by assumption) (by first | assumption | omega) | exact bk_o (by assumption) (by first | assumption | omega) | exact bk_s (by assumption) (by first | assumption | omega) | exact bk_1 (by assumption) | exact bk_2 (by assumption) | exact bk_3 (by assumption) | exact bk_4 (by assumption) | exact bk_5 (by assumption) | exact bk_6 (by assumption) | exact bk_7 (by assumption) | exact bk_8 (by assumption) | rfl) (by first | rfl | (simp only [nlit, nI_add, pk_mul]; rfl)) (by first | assumption | omega) (by first | assumption | decide) ?_
    refine v_sipush (v := -993) dX2_endAhead_20 (by decide) ?_
    refine v_iand dX2_endAhead_23 ?_
    refine v_iload_2 dX2_endAhead_24 ?_
    refine v_iconst (v := nI 1) dX2_endAhead_25 (by decide) ?_
    refine v_isub dX2_endAhead_26 ?_
    refine v_iconst (v := nI 5) dX2_endAhead_27 (by decide) ?_
    refine v_ishl dX2_endAhead_28 ?_
    refine v_ior dX2_endAhead_29 ?_
    refine u_iast dX2_endAhead_30 (by first | assumption | exact led_1 (by assumption) | exact led_2 (by assumption) | exact bk_m (by assumption) (by first | assumption | omega) | exact bk_p (by assumption) (by first | assumption | omega) | exact bk_o (by assumption) (by first | assumption | omega) | exact bk_s (by assumption) (by first | assumption | omega) | exact bk_1 (by assumption) | exact bk_2 (by assumption) | exact bk_3 (by assumption) | exact bk_4 (by assumption) | exact bk_5 (by assumption) | exact bk_6 (by assumption) | exact bk_7 (by assumption) | exact bk_8 (by assumption) | rfl) (by first | rfl | (simp only [nlit, nI_add, pk_mul]; rfl)) (by first | assumption | omega) (by first | assumption | decide) ?_
    refine v_vret dX2_endAhead_31 rfl rfl rfl rfl ?_
    rw [(hrow i hi).1, pk4_end ho (by omega) hd]
    refine hQ1 (by omega) _ ⟨?_, hn2, ?_⟩ ?_
    · rw [ui_ne (by omega)]; exact hn
    · intro z hz
      by_cases e : z = i
      · subst e; rw [ui_s]; refine ⟨by simp [setg], ?_⟩; simp only [setg, if_true]; exact ⟨o1, o2, o3, by show (g z).2.2.1 ≤ d - 1; omega, by show d - 1 ≤ 20; omega⟩
      · rw [ui_o e]; simp only [setg, if_neg e]; exact hrow z hz
    · intro x hx; exact ui_ne hx
end
