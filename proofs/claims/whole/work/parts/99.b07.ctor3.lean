def RsI (I0 I : HI) (L0 L : HL) (k : Nat) : Prop := I 88 7 = nI k ∧ (∀ i, i < k → L 91 i = l64 (wd i) 0 ∧ I 92 i = nI 3) ∧ (∀ q, q ≠ 88 → q ≠ 92 → I q = I0 q) ∧ (∀ q, q ≠ 91 → L q = L0 q)
theorem RsI.s {I0 I : HI} {L0 L : HL} {k : Nat} (h : RsI I0 I L0 L k) : RsI I0 (ui (ui I 92 k (nI 3)) 88 7 (nI (k + 1))) L0 (ul L 91 k (l64 (wd k) 0)) (k + 1) := by
  obtain ⟨h1, h2, h3, h4⟩ := h
  refine ⟨ui_s _ _ _ _, fun i hi => ?_, fun q a c => by rw [ui_ne a, ui_ne c]; exact h3 q a c, fun q a => by rw [ul_ne a]; exact h4 q a⟩
  rw [ui_ne (show (92 : Nat) ≠ 88 by decide)]
  by_cases e : i = k
  · subst e; exact ⟨ul_s, ui_s _ _ _ _⟩
  · rw [ul_o e, ui_o e]; exact h2 i (by omega)
section
variable {b : Nat} {ad : Nat → Nat} {I : HI} {L : HL} {R : HR} {Q : QT} {a N : Nat}
theorem c_X7_reserve {i n : Nat} (hN : 94 ≤ N) (hi : i < 56) (hn : n < 13) (h4 : R 88 4 = some 91) (h5 : R 88 5 = some 92) (hc : I 88 7 = nI n) (hQ : Q none SH (ui (ui I 92 n (nI 3)) 88 7 (nI (n + 1))) (ul L 91 n (l64 (wd i) 0)) R) : C 5 yX7_reserve cX7_reserve 2 none 0 0 b ad false [.ref (b + 88), .ref (ad i)] N SH I L R Q := by
  refine CI.of (lv := [some (.ref (b + 88)), some (.ref (ad i))]) (by decide) (Nat.le_of_ble_eq_true rfl) rfl ?_
  refine v_aload_0 dX7_reserve_0 ?_
  refine v_getI dX7_reserve_1 gf_X7_59 rfl (by omega) ?_
  rw [hc]
  refine v_bipush (v := nI 13) dX7_reserve_4 (by decide) ?_
  refine v_icmp_ge (tgt := 42) dX7_reserve_6 (by decide) (fun hc6 => ?_) (fun hc6 => ?_)
  · exact absurd hc6 (nI_ge (by omega) (by omega))
  · refine v_aload_0 dX7_reserve_9 ?_
    refine v_getR dX7_reserve_10 gf_X7_18 rfl (by omega) h4 ?_
    refine v_aload_0 dX7_reserve_13 ?_
    refine v_getI dX7_reserve_14 gf_X7_59 rfl (by omega) ?_
    rw [hc]
    refine v_aload_1 dX7_reserve_17 ?_
    refine v_callS_1 dX7_reserve_18 ml_X7_63 ms_X9_lettersOf (by decide) (by decide) (by decide) (Nat.le_of_ble_eq_true rfl) (fun h => h) (c_X9_lettersOf hi ?_)
    refine v_last dX7_reserve_21 (show SH 91 = .inr (1, 30) from rfl) (by omega) (vp_in_nI (by omega) (by decide)) ?_
    rw [nI_clamp (by omega)]
    refine v_aload_0 dX7_reserve_22 ?_
    refine v_getR dX7_reserve_23 gf_X7_22 rfl (by omega) h5 ?_
    refine v_aload_0 dX7_reserve_26 ?_
    refine v_getI dX7_reserve_27 gf_X7_59 rfl (by omega) ?_
    rw [hc]
    refine v_iconst (v := nI 3) dX7_reserve_30 (by decide) ?_
    refine v_iast dX7_reserve_31 (show SH 92 = .inr (0, 30) from rfl) (by omega) (vp_in_nI (by omega) (by decide)) ?_
    rw [nI_clamp (by omega)]
    refine v_aload_0 dX7_reserve_32 ?_
    refine v_dup dX7_reserve_33 rfl ?_
    refine v_getI dX7_reserve_34 gf_X7_59 rfl (by omega) ?_
    rw [ui_ne (by decide), hc]
    refine v_iconst (v := nI 1) dX7_reserve_37 (by decide) ?_
    refine v_iadd dX7_reserve_38 ?_
    rw [nI_add]
    refine v_putI dX7_reserve_39 gf_X7_59 rfl (by omega) rfl rfl (by first | exact Or.inl rfl | exact Or.inr ⟨rfl, rfl, rfl⟩) ?_
    refine v_vret dX7_reserve_42 rfl rfl rfl rfl ?_
    exact hQ
theorem c_X7_init (hz : Zr 89 I L R) (h88 : I 88 = fun _ => 0) (hQ : ∀ (I' : HI) (L' : HL), RsI I I' L L' 13 → Zr 94 I' L' (ur (ur (ur (ur (ur R 89 0 (some 90)) 88 3 (some 89)) 88 4 (some 91)) 88 5 (some 92)) 88 6 (some 93)) → Q none SH I' L' (ur (ur (ur (ur (ur R 89 0 (some 90)) 88 3 (some 89)) 88 4 (some 91)) 88 5 (some 92)) 88 6 (some 93))) : C 6 yX7_init cX7_init 1 none 5 98 b ad true [.ref (b + 88)] 89 SH I L R Q := by
  refine CI.of (lv := [some (.ref (b + 88))]) (by decide) (Nat.le_of_ble_eq_true rfl) rfl ?_
  refine v_aload_0 dX7_init_0 ?_
  refine v_objI dX7_init_1 (uu (i := 385) (by decide +kernel) rfl) (uu (i := 142) (by decide +kernel) rfl) (uu (i := 143) (by decide +kernel) rfl) (by decide) (Nat.le_of_ble_eq_true rfl) ?_
  refine v_aload_0 dX7_init_4 ?_
  refine n_new (c := 9) (nf := 8) dX7_init_5 (by decide) (uu (i := 386) (by decide +kernel) rfl) (uu (i := 387) (by decide +kernel) rfl) (uu (i := 119) (by decide +kernel) rfl) (by first | assumption | rfl | exact bk_1 (by assumption) | exact bk_2 (by assumption) | exact bk_3 (by assumption) | exact bk_4 (by assumption) | exact bk_5 (by assumption) | exact bk_6 (by assumption) | exact bk_7 (by assumption) | exact bk_8 (by assumption) | exact bk_m (by assumption) (by omega) | exact bk_p (by assumption) (by omega) | exact bk_o (by assumption) (by omega) | exact bk_s (by assumption) (by omega) | exact led_1 (by assumption) | exact led_2 (by assumption) | exact sh_ring _ (by omega) | exact sh_imgs _ (by omega)) (by repeat (first | exact Zr.mono (by assumption) (by first | decide | omega) | refine Zr.ur ?_ (by first | decide | omega) | refine Zr.ul ?_ (by first | decide | omega) | refine Zr.ui ?_ (by first | decide | omega))) (by first | decide | omega) (by first | decide | omega) ?_
  refine v_dup dX7_init_8 rfl ?_
  refine v_callN dX7_init_9 ml_X7_13 mi_X9_init (by decide) (by first | decide | omega) (by first | decide | omega) (Nat.le_of_ble_eq_true rfl) (fun h => h) (c_X9_init (by repeat (first | exact Zr.mono (by assumption) (by first | decide | omega) | refine Zr.ur ?_ (by first | decide | omega) | refine Zr.ul ?_ (by first | decide | omega) | refine Zr.ui ?_ (by first | decide | omega))) ?_)
  refine v_putR dX7_init_12 gf_X7_14 (by first | assumption | rfl | exact bk_1 (by assumption) | exact bk_2 (by assumption) | exact bk_3 (by assumption) | exact bk_4 (by assumption) | exact bk_5 (by assumption) | exact bk_6 (by assumption) | exact bk_7 (by assumption) | exact bk_8 (by assumption) | exact bk_m (by assumption) (by omega) | exact bk_p (by assumption) (by omega) | exact bk_o (by assumption) (by omega) | exact bk_s (by assumption) (by omega) | exact led_1 (by assumption) | exact led_2 (by assumption) | exact sh_ring _ (by omega) | exact sh_imgs _ (by omega)) (by first | decide | omega) rfl rfl (by first | exact Or.inl rfl | exact Or.inr ⟨rfl, rfl, rfl⟩) ?_
  refine v_aload_0 dX7_init_15 ?_
  refine v_bipush (v := nI 30) dX7_init_16 (by decide) ?_
  refine n_newa (t := 1) (len := 30) dX7_init_18 rfl (by decide) rfl (uu (i := 523) (by decide +kernel) rfl) (by decide) (by decide) (by decide) (by first | assumption | rfl | exact bk_1 (by assumption) | exact bk_2 (by assumption) | exact bk_3 (by assumption) | exact bk_4 (by assumption) | exact bk_5 (by assumption) | exact bk_6 (by assumption) | exact bk_7 (by assumption) | exact bk_8 (by assumption) | exact bk_m (by assumption) (by omega) | exact bk_p (by assumption) (by omega) | exact bk_o (by assumption) (by omega) | exact bk_s (by assumption) (by omega) | exact led_1 (by assumption) | exact led_2 (by assumption) | exact sh_ring _ (by omega) | exact sh_imgs _ (by omega)) (by repeat (first | exact Zr.mono (by assumption) (by first | decide | omega) | refine Zr.ur ?_ (by first | decide | omega) | refine Zr.ul ?_ (by first | decide | omega) | refine Zr.ui ?_ (by first | decide | omega))) (by first | decide | omega) (by first | decide | omega) ?_
  refine v_putR dX7_init_20 gf_X7_18 (by first | assumption | rfl | exact bk_1 (by assumption) | exact bk_2 (by assumption) | exact bk_3 (by assumption) | exact bk_4 (by assumption) | exact bk_5 (by assumption) | exact bk_6 (by assumption) | exact bk_7 (by assumption) | exact bk_8 (by assumption) | exact bk_m (by assumption) (by omega) | exact bk_p (by assumption) (by omega) | exact bk_o (by assumption) (by omega) | exact bk_s (by assumption) (by omega) | exact led_1 (by assumption) | exact led_2 (by assumption) | exact sh_ring _ (by omega) | exact sh_imgs _ (by omega)) (by first | decide | omega) rfl rfl (by first | exact Or.inl rfl | exact Or.inr ⟨rfl, rfl, rfl⟩) ?_
  refine v_aload_0 dX7_init_23 ?_
  refine v_bipush (v := nI 30) dX7_init_24 (by decide) ?_
  refine n_newa (t := 0) (len := 30) dX7_init_26 rfl (by decide) rfl (uu (i := 177) (by decide +kernel) rfl) (by decide) (by decide) (by decide) (by first | assumption | rfl | exact bk_1 (by assumption) | exact bk_2 (by assumption) | exact bk_3 (by assumption) | exact bk_4 (by assumption) | exact bk_5 (by assumption) | exact bk_6 (by assumption) | exact bk_7 (by assumption) | exact bk_8 (by assumption) | exact bk_m (by assumption) (by omega) | exact bk_p (by assumption) (by omega) | exact bk_o (by assumption) (by omega) | exact bk_s (by assumption) (by omega) | exact led_1 (by assumption) | exact led_2 (by assumption) | exact sh_ring _ (by omega) | exact sh_imgs _ (by omega)) (by repeat (first | exact Zr.mono (by assumption) (by first | decide | omega) | refine Zr.ur ?_ (by first | decide | omega) | refine Zr.ul ?_ (by first | decide | omega) | refine Zr.ui ?_ (by first | decide | omega))) (by first | decide | omega) (by first | decide | omega) ?_
  refine v_putR dX7_init_28 gf_X7_22 (by first | assumption | rfl | exact bk_1 (by assumption) | exact bk_2 (by assumption) | exact bk_3 (by assumption) | exact bk_4 (by assumption) | exact bk_5 (by assumption) | exact bk_6 (by assumption) | exact bk_7 (by assumption) | exact bk_8 (by assumption) | exact bk_m (by assumption) (by omega) | exact bk_p (by assumption) (by omega) | exact bk_o (by assumption) (by omega) | exact bk_s (by assumption) (by omega) | exact led_1 (by assumption) | exact led_2 (by assumption) | exact sh_ring _ (by omega) | exact sh_imgs _ (by omega)) (by first | decide | omega) rfl rfl (by first | exact Or.inl rfl | exact Or.inr ⟨rfl, rfl, rfl⟩) ?_
  refine v_aload_0 dX7_init_31 ?_
  refine v_bipush (v := nI 30) dX7_init_32 (by decide) ?_
  refine n_newa (t := 0) (len := 30) dX7_init_34 rfl (by decide) rfl (uu (i := 177) (by decide +kernel) rfl) (by decide) (by decide) (by decide) (by first | assumption | rfl | exact bk_1 (by assumption) | exact bk_2 (by assumption) | exact bk_3 (by assumption) | exact bk_4 (by assumption) | exact bk_5 (by assumption) | exact bk_6 (by assumption) | exact bk_7 (by assumption) | exact bk_8 (by assumption) | exact bk_m (by assumption) (by omega) | exact bk_p (by assumption) (by omega) | exact bk_o (by assumption) (by omega) | exact bk_s (by assumption) (by omega) | exact led_1 (by assumption) | exact led_2 (by assumption) | exact sh_ring _ (by omega) | exact sh_imgs _ (by omega)) (by repeat (first | exact Zr.mono (by assumption) (by first | decide | omega) | refine Zr.ur ?_ (by first | decide | omega) | refine Zr.ul ?_ (by first | decide | omega) | refine Zr.ui ?_ (by first | decide | omega))) (by first | decide | omega) (by first | decide | omega) ?_
  refine v_putR dX7_init_36 gf_X7_26 (by first | assumption | rfl | exact bk_1 (by assumption) | exact bk_2 (by assumption) | exact bk_3 (by assumption) | exact bk_4 (by assumption) | exact bk_5 (by assumption) | exact bk_6 (by assumption) | exact bk_7 (by assumption) | exact bk_8 (by assumption) | exact bk_m (by assumption) (by omega) | exact bk_p (by assumption) (by omega) | exact bk_o (by assumption) (by omega) | exact bk_s (by assumption) (by omega) | exact led_1 (by assumption) | exact led_2 (by assumption) | exact sh_ring _ (by omega) | exact sh_imgs _ (by omega)) (by first | decide | omega) rfl rfl (by first | exact Or.inl rfl | exact Or.inr ⟨rfl, rfl, rfl⟩) ?_
  show V yX7_init cX7_init 1 none 6 5 98 (89 + 5) Q b ad true 5 98 39 [some (.ref (b + 88))] [] 94 SH I L (ur (ur (ur (ur (ur R 89 0 (some 90)) 88 3 (some 89)) 88 4 (some 91)) 88 5 (some 92)) 88 6 (some 93))
  have rs : RsI I I L L 0 := ⟨by rw [h88]; rfl, fun i hi => absurd hi (Nat.not_lt_zero i), fun _ _ _ => rfl, fun _ _ => rfl⟩
  have r4 : (ur (ur (ur (ur (ur R 89 0 (some 90)) 88 3 (some 89)) 88 4 (some 91)) 88 5 (some 92)) 88 6 (some 93)) 88 4 = some 91 := by simp [ur, va_up]
  have r5 : (ur (ur (ur (ur (ur R 89 0 (some 90)) 88 3 (some 89)) 88 4 (some 91)) 88 5 (some 92)) 88 6 (some 93)) 88 5 = some 92 := by simp [ur, va_up]
  have hz9 : Zr 94 I L (ur (ur (ur (ur (ur R 89 0 (some 90)) 88 3 (some 89)) 88 4 (some 91)) 88 5 (some 92)) 88 6 (some 93)) := (by repeat (first | exact Zr.mono (by assumption) (by first | decide | omega) | refine Zr.ur ?_ (by first | decide | omega) | refine Zr.ul ?_ (by first | decide | omega) | refine Zr.ui ?_ (by first | decide | omega)))
  refine v_aload_0 dX7_init_39 ?_
  refine v_ldcS (i := 0) dX7_init_40 (by decide) rfl rfl ?_
  refine v_callV_1 (a := 88) (ci := 7) (k' := 5) (mc' := 0) (ms' := 0) (x' := false) dX7_init_42 ml_X7_31 mv_X7_reserve rfl (by decide) (by decide) rfl (by decide) (by decide) (by decide) (Nat.le_of_ble_eq_true rfl) (fun _ => rfl) ?_
  refine c_X7_reserve (i := 0) (n := 0) (by decide) (by decide) (by decide) r4 r5 rs.1 ?_
  have rs := rs.s
  refine v_aload_0 dX7_init_45 ?_
  refine v_ldcS (i := 1) dX7_init_46 (by decide) rfl rfl ?_
  refine v_callV_1 (a := 88) (ci := 7) (k' := 5) (mc' := 0) (ms' := 0) (x' := false) dX7_init_48 ml_X7_31 mv_X7_reserve rfl (by decide) (by decide) rfl (by decide) (by decide) (by decide) (Nat.le_of_ble_eq_true rfl) (fun _ => rfl) ?_
  refine c_X7_reserve (i := 1) (n := 1) (by decide) (by decide) (by decide) r4 r5 rs.1 ?_
  have rs := rs.s
  refine v_aload_0 dX7_init_51 ?_
  refine v_ldcS (i := 2) dX7_init_52 (by decide) rfl rfl ?_
  refine v_callV_1 (a := 88) (ci := 7) (k' := 5) (mc' := 0) (ms' := 0) (x' := false) dX7_init_54 ml_X7_31 mv_X7_reserve rfl (by decide) (by decide) rfl (by decide) (by decide) (by decide) (Nat.le_of_ble_eq_true rfl) (fun _ => rfl) ?_
  refine c_X7_reserve (i := 2) (n := 2) (by decide) (by decide) (by decide) r4 r5 rs.1 ?_
  have rs := rs.s
  refine v_aload_0 dX7_init_57 ?_
  refine v_ldcS (i := 3) dX7_init_58 (by decide) rfl rfl ?_
  refine v_callV_1 (a := 88) (ci := 7) (k' := 5) (mc' := 0) (ms' := 0) (x' := false) dX7_init_60 ml_X7_31 mv_X7_reserve rfl (by decide) (by decide) rfl (by decide) (by decide) (by decide) (Nat.le_of_ble_eq_true rfl) (fun _ => rfl) ?_
  refine c_X7_reserve (i := 3) (n := 3) (by decide) (by decide) (by decide) r4 r5 rs.1 ?_
  have rs := rs.s
  refine v_aload_0 dX7_init_63 ?_
  refine v_ldcS (i := 4) dX7_init_64 (by decide) rfl rfl ?_
  refine v_callV_1 (a := 88) (ci := 7) (k' := 5) (mc' := 0) (ms' := 0) (x' := false) dX7_init_66 ml_X7_31 mv_X7_reserve rfl (by decide) (by decide) rfl (by decide) (by decide) (by decide) (Nat.le_of_ble_eq_true rfl) (fun _ => rfl) ?_
  refine c_X7_reserve (i := 4) (n := 4) (by decide) (by decide) (by decide) r4 r5 rs.1 ?_
  have rs := rs.s
  refine v_aload_0 dX7_init_69 ?_
  refine v_ldcS (i := 5) dX7_init_70 (by decide) rfl rfl ?_
  refine v_callV_1 (a := 88) (ci := 7) (k' := 5) (mc' := 0) (ms' := 0) (x' := false) dX7_init_72 ml_X7_31 mv_X7_reserve rfl (by decide) (by decide) rfl (by decide) (by decide) (by decide) (Nat.le_of_ble_eq_true rfl) (fun _ => rfl) ?_
  refine c_X7_reserve (i := 5) (n := 5) (by decide) (by decide) (by decide) r4 r5 rs.1 ?_
  have rs := rs.s
  refine v_aload_0 dX7_init_75 ?_
  refine v_ldcS (i := 6) dX7_init_76 (by decide) rfl rfl ?_
  refine v_callV_1 (a := 88) (ci := 7) (k' := 5) (mc' := 0) (ms' := 0) (x' := false) dX7_init_78 ml_X7_31 mv_X7_reserve rfl (by decide) (by decide) rfl (by decide) (by decide) (by decide) (Nat.le_of_ble_eq_true rfl) (fun _ => rfl) ?_
  refine c_X7_reserve (i := 6) (n := 6) (by decide) (by decide) (by decide) r4 r5 rs.1 ?_
  have rs := rs.s
  refine v_aload_0 dX7_init_81 ?_
  refine v_ldcS (i := 7) dX7_init_82 (by decide) rfl rfl ?_
  refine v_callV_1 (a := 88) (ci := 7) (k' := 5) (mc' := 0) (ms' := 0) (x' := false) dX7_init_84 ml_X7_31 mv_X7_reserve rfl (by decide) (by decide) rfl (by decide) (by decide) (by decide) (Nat.le_of_ble_eq_true rfl) (fun _ => rfl) ?_
  refine c_X7_reserve (i := 7) (n := 7) (by decide) (by decide) (by decide) r4 r5 rs.1 ?_
  have rs := rs.s
  refine v_aload_0 dX7_init_87 ?_
  refine v_ldcS (i := 8) dX7_init_88 (by decide) rfl rfl ?_
  refine v_callV_1 (a := 88) (ci := 7) (k' := 5) (mc' := 0) (ms' := 0) (x' := false) dX7_init_90 ml_X7_31 mv_X7_reserve rfl (by decide) (by decide) rfl (by decide) (by decide) (by decide) (Nat.le_of_ble_eq_true rfl) (fun _ => rfl) ?_
  refine c_X7_reserve (i := 8) (n := 8) (by decide) (by decide) (by decide) r4 r5 rs.1 ?_
  have rs := rs.s
  refine v_aload_0 dX7_init_93 ?_
  refine v_ldcS (i := 9) dX7_init_94 (by decide) rfl rfl ?_
  refine v_callV_1 (a := 88) (ci := 7) (k' := 5) (mc' := 0) (ms' := 0) (x' := false) dX7_init_96 ml_X7_31 mv_X7_reserve rfl (by decide) (by decide) rfl (by decide) (by decide) (by decide) (Nat.le_of_ble_eq_true rfl) (fun _ => rfl) ?_
  refine c_X7_reserve (i := 9) (n := 9) (by decide) (by decide) (by decide) r4 r5 rs.1 ?_
  have rs := rs.s
  refine v_aload_0 dX7_init_99 ?_
  refine v_ldcS (i := 10) dX7_init_100 (by decide) rfl rfl ?_
  refine v_callV_1 (a := 88) (ci := 7) (k' := 5) (mc' := 0) (ms' := 0) (x' := false) dX7_init_102 ml_X7_31 mv_X7_reserve rfl (by decide) (by decide) rfl (by decide) (by decide) (by decide) (Nat.le_of_ble_eq_true rfl) (fun _ => rfl) ?_
  refine c_X7_reserve (i := 10) (n := 10) (by decide) (by decide) (by decide) r4 r5 rs.1 ?_
  have rs := rs.s
  refine v_aload_0 dX7_init_105 ?_
  refine v_ldcS (i := 11) dX7_init_106 (by decide) rfl rfl ?_
  refine v_callV_1 (a := 88) (ci := 7) (k' := 5) (mc' := 0) (ms' := 0) (x' := false) dX7_init_108 ml_X7_31 mv_X7_reserve rfl (by decide) (by decide) rfl (by decide) (by decide) (by decide) (Nat.le_of_ble_eq_true rfl) (fun _ => rfl) ?_
  refine c_X7_reserve (i := 11) (n := 11) (by decide) (by decide) (by decide) r4 r5 rs.1 ?_
  have rs := rs.s
  refine v_aload_0 dX7_init_111 ?_
  refine v_ldcS (i := 12) dX7_init_112 (by decide) rfl rfl ?_
  refine v_callV_1 (a := 88) (ci := 7) (k' := 5) (mc' := 0) (ms' := 0) (x' := false) dX7_init_114 ml_X7_31 mv_X7_reserve rfl (by decide) (by decide) rfl (by decide) (by decide) (by decide) (Nat.le_of_ble_eq_true rfl) (fun _ => rfl) ?_
  refine c_X7_reserve (i := 12) (n := 12) (by decide) (by decide) (by decide) r4 r5 rs.1 ?_
  have rs := rs.s
  refine v_vret dX7_init_117 rfl rfl rfl rfl ?_
  exact hQ _ _ rs (fun q hq => ⟨(rs.2.2.1 q (by omega) (by omega)).trans (hz9 q hq).1, (rs.2.2.2 q (by omega)).trans (hz9 q hq).2.1, (hz9 q hq).2.2⟩)
end
theorem BkR.cg {R R' : HR} {a i1 i2 i3 i4 : Nat} (h : BkR R a i1 i2 i3 i4) (e : ∀ q, a ≤ q → q < a + 43 → R' q = R q) : BkR R' a i1 i2 i3 i4 := by
  unfold BkR BkF Ar
  rw [e a (by omega) (by omega), e (a + 8) (by omega) (by omega), e (a + 1) (by omega) (by omega), e (a + 2) (by omega) (by omega), e (a + 3) (by omega) (by omega), e (a + 4) (by omega) (by omega)]
  exact h
theorem HiR.cg {R R' : HR} (h : HiR R 13 3) (e : ∀ q, 94 ≤ q → q < 145 → R' q = R q) : HiR R' 13 3 := by
  refine ⟨by rw [e 94 (by decide) (by decide)]; exact h.1, fun i hi => ?_, fun i hi => ?_⟩
  · rw [e 95 (by decide) (by decide), e (97 + 3 * i) (by omega) (by omega)]; exact h.2.1 i hi
  · rw [e 96 (by decide) (by decide), e (136 + 3 * i) (by omega) (by omega)]; exact h.2.2 i hi
/-- the class's object, new -/
def ClsN (I : HI) (L : HL) (R : HR) : Prop :=
  (BkR R 2 6 6 12 8 ∧ BkR R 45 6 6 12 8 ∧ HiR R 13 3) ∧ (R 0 0 = some 1 ∧ R 0 5 = some 2 ∧ R 0 6 = some 45 ∧ R 0 7 = some 88 ∧ R 0 8 = some 94 ∧ R 0 9 = some 145 ∧ R 0 10 = some 150) ∧ (R 88 3 = some 89 ∧ R 88 4 = some 91 ∧ R 88 5 = some 92 ∧ R 88 6 = some 93) ∧ (R 145 1 = some 146 ∧ R 145 2 = some 147 ∧ R 145 3 = some 148 ∧ R 145 4 = some 149) ∧ (R 150 3 = some 151 ∧ R 150 4 = some 152 ∧ R 150 5 = some 153 ∧ R 150 6 = some 154 ∧ R 150 7 = some 155 ∧ R 150 8 = some 156) ∧
  (I 0 1 = nI 0 ∧ I 0 2 = nI 0 ∧ I 0 3 = nI 0 ∧ ∀ q, q ≠ 0 → q ≠ 88 → q ≠ 92 → I q = fun _ => 0) ∧ (∀ i, i < 13 → L 91 i = l64 (wd i) 0 ∧ I 92 i = nI 3)
section
variable {b : Nat} {ad : Nat → Nat} {I : HI} {L : HL} {R : HR} {Q : QT} {a N : Nat}
theorem c_X11_init (hz : Zr 1 I L R) (hQ : ∀ (I' : HI) (L' : HL) (R' : HR), ClsN I' L' R' → Zr 157 I' L' R' → Q none SH I' L' R') : CA 7 yX11_init cX11_init 1 156 2562 b ad [.ref (b + 0)] 1 I L R Q := by
  have hz0 := hz
  refine CA.of (lv := [some (.ref (b + 0))]) (by decide) (Nat.le_of_ble_eq_true rfl) rfl ?_
  refine g_aload_0 dX11_init_0 ?_
  refine g_objI dX11_init_1 (uu (i := 141) (by decide +kernel) rfl) (uu (i := 142) (by decide +kernel) rfl) (uu (i := 143) (by decide +kernel) rfl) (by decide) (by decide) (Nat.le_of_ble_eq_true rfl) ?_
  refine g_aload_0 dX11_init_4 ?_
  refine g_sipush (v := nI 900) dX11_init_5 (by decide) ?_
  refine ng_newa (t := 2) (len := 900) dX11_init_8 rfl (by decide) rfl (uu (i := 176) (by decide +kernel) rfl) (by decide) (by decide) (by decide) (by first | assumption | rfl | exact bk_1 (by assumption) | exact bk_2 (by assumption) | exact bk_3 (by assumption) | exact bk_4 (by assumption) | exact bk_5 (by assumption) | exact bk_6 (by assumption) | exact bk_7 (by assumption) | exact bk_8 (by assumption) | exact bk_m (by assumption) (by omega) | exact bk_p (by assumption) (by omega) | exact bk_o (by assumption) (by omega) | exact bk_s (by assumption) (by omega) | exact led_1 (by assumption) | exact led_2 (by assumption) | exact sh_ring _ (by omega) | exact sh_imgs _ (by omega)) (by repeat (first | exact Zr.mono (by assumption) (by first | decide | omega) | refine Zr.ur ?_ (by first | decide | omega) | refine Zr.ul ?_ (by first | decide | omega) | refine Zr.ui ?_ (by first | decide | omega))) (by first | decide | (show _ ≤ 156; omega)) (by first | decide | (show _ ≤ 2562; omega)) ?_
  refine g_putR dX11_init_10 gf_X11_9 (by first | assumption | rfl | exact bk_1 (by assumption) | exact bk_2 (by assumption) | exact bk_3 (by assumption) | exact bk_4 (by assumption) | exact bk_5 (by assumption) | exact bk_6 (by assumption) | exact bk_7 (by assumption) | exact bk_8 (by assumption) | exact bk_m (by assumption) (by omega) | exact bk_p (by assumption) (by omega) | exact bk_o (by assumption) (by omega) | exact bk_s (by assumption) (by omega) | exact led_1 (by assumption) | exact led_2 (by assumption) | exact sh_ring _ (by omega) | exact sh_imgs _ (by omega)) (by first | decide | omega) rfl rfl (by first | exact Or.inl rfl | exact Or.inr ⟨rfl, rfl, rfl⟩) ?_
  refine g_aload_0 dX11_init_13 ?_
  refine g_iconst (v := nI 0) dX11_init_14 (by decide) ?_
  refine g_putI dX11_init_15 gf_X11_13 (by first | assumption | rfl | exact bk_1 (by assumption) | exact bk_2 (by assumption) | exact bk_3 (by assumption) | exact bk_4 (by assumption) | exact bk_5 (by assumption) | exact bk_6 (by assumption) | exact bk_7 (by assumption) | exact bk_8 (by assumption) | exact bk_m (by assumption) (by omega) | exact bk_p (by assumption) (by omega) | exact bk_o (by assumption) (by omega) | exact bk_s (by assumption) (by omega) | exact led_1 (by assumption) | exact led_2 (by assumption) | exact sh_ring _ (by omega) | exact sh_imgs _ (by omega)) (by first | decide | omega) rfl rfl (by first | exact Or.inl rfl | exact Or.inr ⟨rfl, rfl, rfl⟩) ?_
  refine g_aload_0 dX11_init_18 ?_
  refine g_iconst (v := nI 0) dX11_init_19 (by decide) ?_
  refine g_putI dX11_init_20 gf_X11_17 (by first | assumption | rfl | exact bk_1 (by assumption) | exact bk_2 (by assumption) | exact bk_3 (by assumption) | exact bk_4 (by assumption) | exact bk_5 (by assumption) | exact bk_6 (by assumption) | exact bk_7 (by assumption) | exact bk_8 (by assumption) | exact bk_m (by assumption) (by omega) | exact bk_p (by assumption) (by omega) | exact bk_o (by assumption) (by omega) | exact bk_s (by assumption) (by omega) | exact led_1 (by assumption) | exact led_2 (by assumption) | exact sh_ring _ (by omega) | exact sh_imgs _ (by omega)) (by first | decide | omega) rfl rfl (by first | exact Or.inl rfl | exact Or.inr ⟨rfl, rfl, rfl⟩) ?_
  refine g_aload_0 dX11_init_23 ?_
  refine g_iconst (v := nI 0) dX11_init_24 (by decide) ?_
  refine g_putI dX11_init_25 gf_X11_20 (by first | assumption | rfl | exact bk_1 (by assumption) | exact bk_2 (by assumption) | exact bk_3 (by assumption) | exact bk_4 (by assumption) | exact bk_5 (by assumption) | exact bk_6 (by assumption) | exact bk_7 (by assumption) | exact bk_8 (by assumption) | exact bk_m (by assumption) (by omega) | exact bk_p (by assumption) (by omega) | exact bk_o (by assumption) (by omega) | exact bk_s (by assumption) (by omega) | exact led_1 (by assumption) | exact led_2 (by assumption) | exact sh_ring _ (by omega) | exact sh_imgs _ (by omega)) (by first | decide | omega) rfl rfl (by first | exact Or.inl rfl | exact Or.inr ⟨rfl, rfl, rfl⟩) ?_
  refine g_aload_0 dX11_init_28 ?_
  refine g_iconst (v := -1) dX11_init_29 (by decide) ?_
  refine g_putI dX11_init_30 gf_X11_23 (by first | assumption | rfl | exact bk_1 (by assumption) | exact bk_2 (by assumption) | exact bk_3 (by assumption) | exact bk_4 (by assumption) | exact bk_5 (by assumption) | exact bk_6 (by assumption) | exact bk_7 (by assumption) | exact bk_8 (by assumption) | exact bk_m (by assumption) (by omega) | exact bk_p (by assumption) (by omega) | exact bk_o (by assumption) (by omega) | exact bk_s (by assumption) (by omega) | exact led_1 (by assumption) | exact led_2 (by assumption) | exact sh_ring _ (by omega) | exact sh_imgs _ (by omega)) (by first | decide | omega) rfl rfl (by first | exact Or.inl rfl | exact Or.inr ⟨rfl, rfl, rfl⟩) ?_
  refine g_aload_0 dX11_init_33 ?_
  refine ng_new (c := 0) (nf := 15) dX11_init_34 (by decide) (uu (i := 144) (by decide +kernel) rfl) (uu (i := 145) (by decide +kernel) rfl) (uu (i := 112) (by decide +kernel) rfl) (by first | assumption | rfl | exact bk_1 (by assumption) | exact bk_2 (by assumption) | exact bk_3 (by assumption) | exact bk_4 (by assumption) | exact bk_5 (by assumption) | exact bk_6 (by assumption) | exact bk_7 (by assumption) | exact bk_8 (by assumption) | exact bk_m (by assumption) (by omega) | exact bk_p (by assumption) (by omega) | exact bk_o (by assumption) (by omega) | exact bk_s (by assumption) (by omega) | exact led_1 (by assumption) | exact led_2 (by assumption) | exact sh_ring _ (by omega) | exact sh_imgs _ (by omega)) (by repeat (first | exact Zr.mono (by assumption) (by first | decide | omega) | refine Zr.ur ?_ (by first | decide | omega) | refine Zr.ul ?_ (by first | decide | omega) | refine Zr.ui ?_ (by first | decide | omega))) (by first | decide | (show _ ≤ 156; omega)) (by first | decide | (show _ ≤ 2562; omega)) ?_
  refine g_dup dX11_init_37 rfl ?_
  refine g_callIA PA.need dX11_init_38 ml_X11_28 mi_X0_init (by decide) (by decide) (by first | decide | (show _ ≤ 156; omega)) (by first | decide | (show _ ≤ 2562; omega)) (Nat.le_of_ble_eq_true rfl) (c_X0_init (a := 2) rfl (by repeat (first | exact Zr.mono (by assumption) (by first | decide | omega) | refine Zr.ur ?_ (by first | decide | omega) | refine Zr.ul ?_ (by first | decide | omega) | refine Zr.ui ?_ (by first | decide | omega))) (fun R1 f1 k1 hz => ?_))
  refine g_putR dX11_init_41 gf_X11_29 (by first | assumption | rfl | exact bk_1 (by assumption) | exact bk_2 (by assumption) | exact bk_3 (by assumption) | exact bk_4 (by assumption) | exact bk_5 (by assumption) | exact bk_6 (by assumption) | exact bk_7 (by assumption) | exact bk_8 (by assumption) | exact bk_m (by assumption) (by omega) | exact bk_p (by assumption) (by omega) | exact bk_o (by assumption) (by omega) | exact bk_s (by assumption) (by omega) | exact led_1 (by assumption) | exact led_2 (by assumption) | exact sh_ring _ (by omega) | exact sh_imgs _ (by omega)) (by first | decide | omega) rfl rfl (by first | exact Or.inl rfl | exact Or.inr ⟨rfl, rfl, rfl⟩) ?_
  refine g_aload_0 dX11_init_44 ?_
  refine ng_new (c := 0) (nf := 15) dX11_init_45 (by decide) (uu (i := 144) (by decide +kernel) rfl) (uu (i := 145) (by decide +kernel) rfl) (uu (i := 112) (by decide +kernel) rfl) (by first | assumption | rfl | exact bk_1 (by assumption) | exact bk_2 (by assumption) | exact bk_3 (by assumption) | exact bk_4 (by assumption) | exact bk_5 (by assumption) | exact bk_6 (by assumption) | exact bk_7 (by assumption) | exact bk_8 (by assumption) | exact bk_m (by assumption) (by omega) | exact bk_p (by assumption) (by omega) | exact bk_o (by assumption) (by omega) | exact bk_s (by assumption) (by omega) | exact led_1 (by assumption) | exact led_2 (by assumption) | exact sh_ring _ (by omega) | exact sh_imgs _ (by omega)) (by repeat (first | exact Zr.mono (by assumption) (by first | decide | omega) | refine Zr.ur ?_ (by first | decide | omega) | refine Zr.ul ?_ (by first | decide | omega) | refine Zr.ui ?_ (by first | decide | omega))) (by first | decide | (show _ ≤ 156; omega)) (by first | decide | (show _ ≤ 2562; omega)) ?_
  refine g_dup dX11_init_48 rfl ?_
  refine g_callIA PA.need dX11_init_49 ml_X11_28 mi_X0_init (by decide) (by decide) (by first | decide | (show _ ≤ 156; omega)) (by first | decide | (show _ ≤ 2562; omega)) (Nat.le_of_ble_eq_true rfl) (c_X0_init (a := 45) rfl (by repeat (first | exact Zr.mono (by assumption) (by first | decide | omega) | refine Zr.ur ?_ (by first | decide | omega) | refine Zr.ul ?_ (by first | decide | omega) | refine Zr.ui ?_ (by first | decide | omega))) (fun R2 f2 k2 hz => ?_))
  refine g_putR dX11_init_52 gf_X11_33 (by first | assumption | rfl | exact bk_1 (by assumption) | exact bk_2 (by assumption) | exact bk_3 (by assumption) | exact bk_4 (by assumption) | exact bk_5 (by assumption) | exact bk_6 (by assumption) | exact bk_7 (by assumption) | exact bk_8 (by assumption) | exact bk_m (by assumption) (by omega) | exact bk_p (by assumption) (by omega) | exact bk_o (by assumption) (by omega) | exact bk_s (by assumption) (by omega) | exact led_1 (by assumption) | exact led_2 (by assumption) | exact sh_ring _ (by omega) | exact sh_imgs _ (by omega)) (by first | decide | omega) rfl rfl (by first | exact Or.inl rfl | exact Or.inr ⟨rfl, rfl, rfl⟩) ?_
  refine g_aload_0 dX11_init_55 ?_
  refine ng_new (c := 7) (nf := 10) dX11_init_56 (by decide) (uu (i := 380) (by decide +kernel) rfl) (uu (i := 381) (by decide +kernel) rfl) (uu (i := 118) (by decide +kernel) rfl) (by first | assumption | rfl | exact bk_1 (by assumption) | exact bk_2 (by assumption) | exact bk_3 (by assumption) | exact bk_4 (by assumption) | exact bk_5 (by assumption) | exact bk_6 (by assumption) | exact bk_7 (by assumption) | exact bk_8 (by assumption) | exact bk_m (by assumption) (by omega) | exact bk_p (by assumption) (by omega) | exact bk_o (by assumption) (by omega) | exact bk_s (by assumption) (by omega) | exact led_1 (by assumption) | exact led_2 (by assumption) | exact sh_ring _ (by omega) | exact sh_imgs _ (by omega)) (by repeat (first | exact Zr.mono (by assumption) (by first | decide | omega) | refine Zr.ur ?_ (by first | decide | omega) | refine Zr.ul ?_ (by first | decide | omega) | refine Zr.ui ?_ (by first | decide | omega))) (by first | decide | (show _ ≤ 156; omega)) (by first | decide | (show _ ≤ 2562; omega)) ?_
  refine g_dup dX11_init_59 rfl ?_
  refine g_callI dX11_init_60 ml_X11_38 mi_X7_init (by decide) (by decide) (by first | decide | (show _ ≤ 156; omega)) (by first | decide | (show _ ≤ 2562; omega)) (Nat.le_of_ble_eq_true rfl) (fun h => h) (c_X7_init (by repeat (first | exact Zr.mono (by assumption) (by first | decide | omega) | refine Zr.ur ?_ (by first | decide | omega) | refine Zr.ul ?_ (by first | decide | omega) | refine Zr.ui ?_ (by first | decide | omega))) (hz 88 (by decide)).1 (fun I2 L2 rs hz => ?_))
  refine g_putR dX11_init_63 gf_X11_39 (by first | assumption | rfl | exact bk_1 (by assumption) | exact bk_2 (by assumption) | exact bk_3 (by assumption) | exact bk_4 (by assumption) | exact bk_5 (by assumption) | exact bk_6 (by assumption) | exact bk_7 (by assumption) | exact bk_8 (by assumption) | exact bk_m (by assumption) (by omega) | exact bk_p (by assumption) (by omega) | exact bk_o (by assumption) (by omega) | exact bk_s (by assumption) (by omega) | exact led_1 (by assumption) | exact led_2 (by assumption) | exact sh_ring _ (by omega) | exact sh_imgs _ (by omega)) (by first | decide | omega) rfl rfl (by first | exact Or.inl rfl | exact Or.inr ⟨rfl, rfl, rfl⟩) ?_
  refine g_aload_0 dX11_init_66 ?_
  refine ng_new (c := 1) (nf := 6) dX11_init_67 (by decide) (uu (i := 524) (by decide +kernel) rfl) (uu (i := 525) (by decide +kernel) rfl) (uu (i := 124) (by decide +kernel) rfl) (by first | assumption | rfl | exact bk_1 (by assumption) | exact bk_2 (by assumption) | exact bk_3 (by assumption) | exact bk_4 (by assumption) | exact bk_5 (by assumption) | exact bk_6 (by assumption) | exact bk_7 (by assumption) | exact bk_8 (by assumption) | exact bk_m (by assumption) (by omega) | exact bk_p (by assumption) (by omega) | exact bk_o (by assumption) (by omega) | exact bk_s (by assumption) (by omega) | exact led_1 (by assumption) | exact led_2 (by assumption) | exact sh_ring _ (by omega) | exact sh_imgs _ (by omega)) (by repeat (first | exact Zr.mono (by assumption) (by first | decide | omega) | refine Zr.ur ?_ (by first | decide | omega) | refine Zr.ul ?_ (by first | decide | omega) | refine Zr.ui ?_ (by first | decide | omega))) (by first | decide | (show _ ≤ 156; omega)) (by first | decide | (show _ ≤ 2562; omega)) ?_
  refine g_dup dX11_init_70 rfl ?_
  refine g_callIA PA.need dX11_init_71 ml_X11_45 mi_X1_init (by decide) (by decide) (by first | decide | (show _ ≤ 156; omega)) (by first | decide | (show _ ≤ 2562; omega)) (Nat.le_of_ble_eq_true rfl) (c_X1_init (by repeat (first | exact Zr.mono (by assumption) (by first | decide | omega) | refine Zr.ur ?_ (by first | decide | omega) | refine Zr.ul ?_ (by first | decide | omega) | refine Zr.ui ?_ (by first | decide | omega))) (fun R3 f3 k3 hz => ?_))
  refine g_putR dX11_init_74 gf_X11_46 (by first | assumption | rfl | exact bk_1 (by assumption) | exact bk_2 (by assumption) | exact bk_3 (by assumption) | exact bk_4 (by assumption) | exact bk_5 (by assumption) | exact bk_6 (by assumption) | exact bk_7 (by assumption) | exact bk_8 (by assumption) | exact bk_m (by assumption) (by omega) | exact bk_p (by assumption) (by omega) | exact bk_o (by assumption) (by omega) | exact bk_s (by assumption) (by omega) | exact led_1 (by assumption) | exact led_2 (by assumption) | exact sh_ring _ (by omega) | exact sh_imgs _ (by omega)) (by first | decide | omega) rfl rfl (by first | exact Or.inl rfl | exact Or.inr ⟨rfl, rfl, rfl⟩) ?_
  refine g_aload_0 dX11_init_77 ?_
  refine ng_new (c := 5) (nf := 5) dX11_init_78 (by decide) (uu (i := 556) (by decide +kernel) rfl) (uu (i := 557) (by decide +kernel) rfl) (uu (i := 125) (by decide +kernel) rfl) (by first | assumption | rfl | exact bk_1 (by assumption) | exact bk_2 (by assumption) | exact bk_3 (by assumption) | exact bk_4 (by assumption) | exact bk_5 (by assumption) | exact bk_6 (by assumption) | exact bk_7 (by assumption) | exact bk_8 (by assumption) | exact bk_m (by assumption) (by omega) | exact bk_p (by assumption) (by omega) | exact bk_o (by assumption) (by omega) | exact bk_s (by assumption) (by omega) | exact led_1 (by assumption) | exact led_2 (by assumption) | exact sh_ring _ (by omega) | exact sh_imgs _ (by omega)) (by repeat (first | exact Zr.mono (by assumption) (by first | decide | omega) | refine Zr.ur ?_ (by first | decide | omega) | refine Zr.ul ?_ (by first | decide | omega) | refine Zr.ui ?_ (by first | decide | omega))) (by first | decide | (show _ ≤ 156; omega)) (by first | decide | (show _ ≤ 2562; omega)) ?_
  refine g_dup dX11_init_81 rfl ?_
  refine g_callN dX11_init_82 ml_X11_52 mi_X5_init (by decide) (by decide) (by first | decide | (show _ ≤ 156; omega)) (by first | decide | (show _ ≤ 2562; omega)) (Nat.le_of_ble_eq_true rfl) (fun h => h) (c_X5_init (by repeat (first | exact Zr.mono (by assumption) (by first | decide | omega) | refine Zr.ur ?_ (by first | decide | omega) | refine Zr.ul ?_ (by first | decide | omega) | refine Zr.ui ?_ (by first | decide | omega))) ?_)
  refine g_putR dX11_init_85 gf_X11_53 (by first | assumption | rfl | exact bk_1 (by assumption) | exact bk_2 (by assumption) | exact bk_3 (by assumption) | exact bk_4 (by assumption) | exact bk_5 (by assumption) | exact bk_6 (by assumption) | exact bk_7 (by assumption) | exact bk_8 (by assumption) | exact bk_m (by assumption) (by omega) | exact bk_p (by assumption) (by omega) | exact bk_o (by assumption) (by omega) | exact bk_s (by assumption) (by omega) | exact led_1 (by assumption) | exact led_2 (by assumption) | exact sh_ring _ (by omega) | exact sh_imgs _ (by omega)) (by first | decide | omega) rfl rfl (by first | exact Or.inl rfl | exact Or.inr ⟨rfl, rfl, rfl⟩) ?_
  refine g_aload_0 dX11_init_88 ?_
  refine ng_new (c := 10) (nf := 9) dX11_init_89 (by decide) (uu (i := 578) (by decide +kernel) rfl) (uu (i := 579) (by decide +kernel) rfl) (uu (i := 126) (by decide +kernel) rfl) (by first | assumption | rfl | exact bk_1 (by assumption) | exact bk_2 (by assumption) | exact bk_3 (by assumption) | exact bk_4 (by assumption) | exact bk_5 (by assumption) | exact bk_6 (by assumption) | exact bk_7 (by assumption) | exact bk_8 (by assumption) | exact bk_m (by assumption) (by omega) | exact bk_p (by assumption) (by omega) | exact bk_o (by assumption) (by omega) | exact bk_s (by assumption) (by omega) | exact led_1 (by assumption) | exact led_2 (by assumption) | exact sh_ring _ (by omega) | exact sh_imgs _ (by omega)) (by repeat (first | exact Zr.mono (by assumption) (by first | decide | omega) | refine Zr.ur ?_ (by first | decide | omega) | refine Zr.ul ?_ (by first | decide | omega) | refine Zr.ui ?_ (by first | decide | omega))) (by first | decide | (show _ ≤ 156; omega)) (by first | decide | (show _ ≤ 2562; omega)) ?_
  refine g_dup dX11_init_92 rfl ?_
  refine g_callN dX11_init_93 ml_X11_59 mi_X10_init (by decide) (by decide) (by first | decide | (show _ ≤ 156; omega)) (by first | decide | (show _ ≤ 2562; omega)) (Nat.le_of_ble_eq_true rfl) (fun h => h) (c_X10_init (by repeat (first | exact Zr.mono (by assumption) (by first | decide | omega) | refine Zr.ur ?_ (by first | decide | omega) | refine Zr.ul ?_ (by first | decide | omega) | refine Zr.ui ?_ (by first | decide | omega))) ?_)
  refine g_putR dX11_init_96 gf_X11_60 (by first | assumption | rfl | exact bk_1 (by assumption) | exact bk_2 (by assumption) | exact bk_3 (by assumption) | exact bk_4 (by assumption) | exact bk_5 (by assumption) | exact bk_6 (by assumption) | exact bk_7 (by assumption) | exact bk_8 (by assumption) | exact bk_m (by assumption) (by omega) | exact bk_p (by assumption) (by omega) | exact bk_o (by assumption) (by omega) | exact bk_s (by assumption) (by omega) | exact led_1 (by assumption) | exact led_2 (by assumption) | exact sh_ring _ (by omega) | exact sh_imgs _ (by omega)) (by first | decide | omega) rfl rfl (by first | exact Or.inl rfl | exact Or.inr ⟨rfl, rfl, rfl⟩) ?_
  refine g_vretA dX11_init_99 rfl rfl rfl ?_
  refine hQ _ _ _ ⟨⟨k1.cg (fun q a1 a2 => ?_), k2.cg (fun q a1 a2 => ?_), k3.cg (fun q a1 a2 => ?_)⟩, ?_, ?_, ?_, ?_, ?_, rs.2.1⟩ (by repeat (first | exact Zr.mono (by assumption) (by first | decide | omega) | refine Zr.ur ?_ (by first | decide | omega) | refine Zr.ul ?_ (by first | decide | omega) | refine Zr.ui ?_ (by first | decide | omega)))
  · simp only [ur_ne (show q ≠ 0 by omega), ur_ne (show q ≠ 145 by omega), ur_ne (show q ≠ 150 by omega), f3 q (by omega), ur_ne (show q ≠ 88 by omega), ur_ne (show q ≠ 89 by omega), f2 q (by omega)]
  · simp only [ur_ne (show q ≠ 0 by omega), ur_ne (show q ≠ 145 by omega), ur_ne (show q ≠ 150 by omega), f3 q (by omega), ur_ne (show q ≠ 88 by omega), ur_ne (show q ≠ 89 by omega)]
  · simp only [ur_ne (show q ≠ 0 by omega), ur_ne (show q ≠ 145 by omega), ur_ne (show q ≠ 150 by omega)]
  · have e3 : ∀ j, R3 0 j = _ := fun j => congrFun (f3 0 (by decide)) j
    have e2 : ∀ j, R2 0 j = _ := fun j => congrFun (f2 0 (by decide)) j
    have e1 : ∀ j, R1 0 j = _ := fun j => congrFun (f1 0 (by decide)) j
    simp [ur, va_up] at e3 e2 e1
    simp [ur, va_up, e3, e2, e1]
  · have e3 : ∀ j, R3 88 j = _ := fun j => congrFun (f3 88 (by decide)) j
    simp [ur, va_up] at e3
    simp [ur, va_up, e3]
  · simp [ur, va_up]
  · simp [ur, va_up]
  · have n0 := rs.2.2.1 0 (by decide) (by decide)
    refine ⟨by rw [n0]; simp [ui, upd], by rw [n0]; simp [ui, upd], by rw [n0]; simp [ui, upd], fun q a1 a2 a3 => ?_⟩
    rw [rs.2.2.1 q a2 a3, ui_ne a1, ui_ne a1, ui_ne a1, ui_ne a1]
    exact (hz0 q (by omega)).1
end
