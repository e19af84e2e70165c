theorem dX12_begins_0 : decode cX12_begins 0 = .ok (.aload_n 0, 1) := by decide +kernel
theorem dX12_begins_1 : decode cX12_begins 1 = .ok (.aload_n 1, 1) := by decide +kernel
theorem dX12_begins_2 : decode cX12_begins 2 = .ok (.invokevirtual 109, 3) := by decide +kernel
theorem dX12_begins_5 : decode cX12_begins 5 = .ok (.ifCond .ne 5, 3) := by decide +kernel
theorem dX12_begins_8 : decode cX12_begins 8 = .ok (.iconst 0, 1) := by decide +kernel
theorem dX12_begins_9 : decode cX12_begins 9 = .ok (.ireturn, 1) := by decide +kernel
theorem dX12_begins_10 : decode cX12_begins 10 = .ok (.iload_n 2, 1) := by decide +kernel
theorem dX12_begins_11 : decode cX12_begins 11 = .ok (.ifCond .ne 12, 3) := by decide +kernel
theorem dX12_begins_14 : decode cX12_begins 14 = .ok (.aload_n 0, 1) := by decide +kernel
theorem dX12_begins_15 : decode cX12_begins 15 = .ok (.iload_n 3, 1) := by decide +kernel
theorem dX12_begins_16 : decode cX12_begins 16 = .ok (.aload_n 0, 1) := by decide +kernel
theorem dX12_begins_17 : decode cX12_begins 17 = .ok (.getfield 73, 3) := by decide +kernel
theorem dX12_begins_20 : decode cX12_begins 20 = .ok (.invokevirtual 119, 3) := by decide +kernel
theorem dX12_begins_23 : decode cX12_begins 23 = .ok (.aload_n 0, 1) := by decide +kernel
theorem dX12_begins_24 : decode cX12_begins 24 = .ok (.getfield 92, 3) := by decide +kernel
theorem dX12_begins_27 : decode cX12_begins 27 = .ok (.ifCond .ne 7, 3) := by decide +kernel
theorem dX12_begins_30 : decode cX12_begins 30 = .ok (.aload_n 0, 1) := by decide +kernel
theorem dX12_begins_31 : decode cX12_begins 31 = .ok (.invokevirtual 113, 3) := by decide +kernel
theorem dX12_begins_34 : decode cX12_begins 34 = .ok (.iconst 1, 1) := by decide +kernel
theorem dX12_begins_35 : decode cX12_begins 35 = .ok (.ireturn, 1) := by decide +kernel
theorem dX12_beginsDay_0 : decode cX12_beginsDay 0 = .ok (.aload_n 0, 1) := by decide +kernel
theorem dX12_beginsDay_1 : decode cX12_beginsDay 1 = .ok (.aload_n 1, 1) := by decide +kernel
theorem dX12_beginsDay_2 : decode cX12_beginsDay 2 = .ok (.invokevirtual 109, 3) := by decide +kernel
theorem dX12_beginsDay_5 : decode cX12_beginsDay 5 = .ok (.ifCond .ne 5, 3) := by decide +kernel
theorem dX12_beginsDay_8 : decode cX12_beginsDay 8 = .ok (.iconst 0, 1) := by decide +kernel
theorem dX12_beginsDay_9 : decode cX12_beginsDay 9 = .ok (.ireturn, 1) := by decide +kernel
theorem dX12_beginsDay_10 : decode cX12_beginsDay 10 = .ok (.iload_n 2, 1) := by decide +kernel
theorem dX12_beginsDay_11 : decode cX12_beginsDay 11 = .ok (.ifCond .ne 12, 3) := by decide +kernel
theorem dX12_beginsDay_14 : decode cX12_beginsDay 14 = .ok (.aload_n 0, 1) := by decide +kernel
theorem dX12_beginsDay_15 : decode cX12_beginsDay 15 = .ok (.iconst 5, 1) := by decide +kernel
theorem dX12_beginsDay_16 : decode cX12_beginsDay 16 = .ok (.aload_n 0, 1) := by decide +kernel
theorem dX12_beginsDay_17 : decode cX12_beginsDay 17 = .ok (.getfield 73, 3) := by decide +kernel
theorem dX12_beginsDay_20 : decode cX12_beginsDay 20 = .ok (.invokevirtual 119, 3) := by decide +kernel
theorem dX12_beginsDay_23 : decode cX12_beginsDay 23 = .ok (.aload_n 0, 1) := by decide +kernel
theorem dX12_beginsDay_24 : decode cX12_beginsDay 24 = .ok (.getfield 23, 3) := by decide +kernel
theorem dX12_beginsDay_27 : decode cX12_beginsDay 27 = .ok (.iconst 0, 1) := by decide +kernel
theorem dX12_beginsDay_28 : decode cX12_beginsDay 28 = .ok (.iaload, 1) := by decide +kernel
theorem dX12_beginsDay_29 : decode cX12_beginsDay 29 = .ok (.ifCond .ne 13, 3) := by decide +kernel
theorem dX12_beginsDay_32 : decode cX12_beginsDay 32 = .ok (.aload_n 0, 1) := by decide +kernel
theorem dX12_beginsDay_33 : decode cX12_beginsDay 33 = .ok (.bipush 6, 2) := by decide +kernel
theorem dX12_beginsDay_35 : decode cX12_beginsDay 35 = .ok (.aload_n 0, 1) := by decide +kernel
theorem dX12_beginsDay_36 : decode cX12_beginsDay 36 = .ok (.getfield 73, 3) := by decide +kernel
theorem dX12_beginsDay_39 : decode cX12_beginsDay 39 = .ok (.invokevirtual 119, 3) := by decide +kernel
theorem dX12_beginsDay_42 : decode cX12_beginsDay 42 = .ok (.aload_n 0, 1) := by decide +kernel
theorem dX12_beginsDay_43 : decode cX12_beginsDay 43 = .ok (.getfield 92, 3) := by decide +kernel
theorem dX12_beginsDay_46 : decode cX12_beginsDay 46 = .ok (.ifCond .ne 7, 3) := by decide +kernel
theorem dX12_beginsDay_49 : decode cX12_beginsDay 49 = .ok (.aload_n 0, 1) := by decide +kernel
theorem dX12_beginsDay_50 : decode cX12_beginsDay 50 = .ok (.invokevirtual 113, 3) := by decide +kernel
theorem dX12_beginsDay_53 : decode cX12_beginsDay 53 = .ok (.iconst 1, 1) := by decide +kernel
theorem dX12_beginsDay_54 : decode cX12_beginsDay 54 = .ok (.ireturn, 1) := by decide +kernel
theorem NmE.put {G F : bkF} {j v : Nat} (h : NmE G F) (hj : j < 192) : NmE (setF G j v) F := fun k h1 h2 => by rw [setF_n (by omega)]; exact h k h1 h2
theorem NmE.refl {F : bkF} : NmE F F := fun _ _ _ => rfl
section
variable {b : Nat} {ad : Nat → Nat} {I J : HI} {L M : HL} {R : HR} {Q : QT} {tp : Nat → Nat} {sz k e : Nat} {G F : bkF} {l : LSt} {s : PS}
theorem c_X12_keepName {n : Nat} (hn : n < 17) (hR : RO R) (h : LvM I tp sz e G l) (hk : tK tp sz e = 2) (hQ : ∀ J : HI, LvM J tp sz (tE tp sz e) (keepF tp sz G e n) l → FrK I J → Q none SH J L R) : KK 2 mX12_keepName b ad [.ref (b + 157), .int (nI n)] I L R Q := by
  have h8 := (tk_2 h.by h.2.1 hk).2.2.2.1
  have hcc : ∀ i, i < tE tp sz e - tA tp sz e → tp (tA tp sz e + i) < 256 := fun i hi => lt_c h.by h.2.1 hk hi
  have loop : ∀ (j k : Nat) (J : HI) (G' : bkF), k + j = tE tp sz e - tA tp sz e → LvM J tp sz e G' l → FrK I J → (∀ x, G' x = if 209 + 8 * n ≤ x ∧ x < 209 + 8 * n + k then tp (tA tp sz e + (x - (209 + 8 * n))) else G x) → VV yX12_keepName cX12_keepName 3 none 2 Q b ad 2 [some (.ref (b + 157)), some (.int (nI n)), some (.int (nI k))] [] J L R := by
    intro j
    induction j with
    | zero =>
      intro k J G' hj hL jk hg
      obtain ⟨q8, ql⟩ := hL.2.2.2.1.2.2.2.2 hk
      have h2 := (hL.put (j := 192 + n) (v := tE tp sz e - tA tp sz e) (by omega)).cg (G' := keepF tp sz G e n) (fun x hx => by
        unfold keepF setF
        by_cases ex : x = 192 + n
        · rw [if_pos ex, if_pos ex]
        · rw [if_neg ex, if_neg ex, hg x, show 209 + 8 * n + k = 209 + 8 * n + (tE tp sz e - tA tp sz e) by omega])
      refine v_iload_2 dX12_keepName_2 ?_
      refine v_aload_0 dX12_keepName_3 ?_
      refine u_getI dX12_keepName_4 gf_X12_76 (by first | assumption | rfl | exact led_1 (by assumption) | exact led_2 (by assumption) | exact bk_m (by assumption) (by first | assumption | omega) | exact bk_p (by assumption) (by first | assumption | omega) | exact bk_o (by assumption) (by first | assumption | omega) | exact bk_s (by assumption) (by first | assumption | omega) | exact bk_1 (by assumption) | exact bk_2 (by assumption) | exact bk_3 (by assumption) | exact bk_4 (by assumption) | exact bk_5 (by assumption) | exact bk_6 (by assumption) | exact bk_7 (by assumption) | exact bk_8 (by assumption) | exact sh_ring _ (by first | assumption | omega) | exact sh_imgs _ (by first | assumption | omega)) ?_
      rw [q8]
      refine v_icmp_ge (tgt := 37) dX12_keepName_7 (by decide) (fun hc7 => ?_) (fun hc7 => ?_)
      · (try rw [nI_leI (by omega) (by omega)] at hc7)
        refine v_aload_0 dX12_keepName_37 ?_
        refine u_getR dX12_keepName_38 gf_X12_23 (by first | assumption | rfl | exact led_1 (by assumption) | exact led_2 (by assumption) | exact bk_m (by assumption) (by first | assumption | omega) | exact bk_p (by assumption) (by first | assumption | omega) | exact bk_o (by assumption) (by first | assumption | omega) | exact bk_s (by assumption) (by first | assumption | omega) | exact bk_1 (by assumption) | exact bk_2 (by assumption) | exact bk_3 (by assumption) | exact bk_4 (by assumption) | exact bk_5 (by assumption) | exact bk_6 (by assumption) | exact bk_7 (by assumption) | exact bk_8 (by assumption) | exact sh_ring _ (by first | assumption | omega) | exact sh_imgs _ (by first | assumption | omega)) (ro_X12_16 (by assumption)) ?_
        refine v_sipush (v := nI 192) dX12_keepName_41 (by decide) ?_
        refine v_iload_1 dX12_keepName_44 ?_
        refine v_iadd dX12_keepName_45 ?_
        refine v_aload_0 dX12_keepName_46 ?_
        refine u_getI dX12_keepName_47 gf_X12_76 (by first | assumption | rfl | exact led_1 (by assumption) | exact led_2 (by assumption) | exact bk_m (by assumption) (by first | assumption | omega) | exact bk_p (by assumption) (by first | assumption | omega) | exact bk_o (by assumption) (by first | assumption | omega) | exact bk_s (by assumption) (by first | assumption | omega) | exact bk_1 (by assumption) | exact bk_2 (by assumption) | exact bk_3 (by assumption) | exact bk_4 (by assumption) | exact bk_5 (by assumption) | exact bk_6 (by assumption) | exact bk_7 (by assumption) | exact bk_8 (by assumption) | exact sh_ring _ (by first | assumption | omega) | exact sh_imgs _ (by first | assumption | omega)) ?_
        rw [q8]
        refine u_iast dX12_keepName_50 (by first | assumption | rfl | exact led_1 (by assumption) | exact led_2 (by assumption) | exact bk_m (by assumption) (by first | assumption | omega) | exact bk_p (by assumption) (by first | assumption | omega) | exact bk_o (by assumption) (by first | assumption | omega) | exact bk_s (by assumption) (by first | assumption | omega) | exact bk_1 (by assumption) | exact bk_2 (by assumption) | exact bk_3 (by assumption) | exact bk_4 (by assumption) | exact bk_5 (by assumption) | exact bk_6 (by assumption) | exact bk_7 (by assumption) | exact bk_8 (by assumption) | exact sh_ring _ (by first | assumption | omega) | exact sh_imgs _ (by first | assumption | omega)) (by first | with_reducible rfl | (simp only [nlit, nI_add, pk_mul]; with_reducible rfl) | rfl) (by first | assumption | omega) (by first | assumption | decide) ?_
        refine v_aload_0 dX12_keepName_51 ?_
        refine u_callV_0 dX12_keepName_52 ml_X12_113 mv_X12_next (by first | assumption | rfl | exact led_1 (by assumption) | exact led_2 (by assumption) | exact bk_m (by assumption) (by first | assumption | omega) | exact bk_p (by assumption) (by first | assumption | omega) | exact bk_o (by assumption) (by first | assumption | omega) | exact bk_s (by assumption) (by first | assumption | omega) | exact bk_1 (by assumption) | exact bk_2 (by assumption) | exact bk_3 (by assumption) | exact bk_4 (by assumption) | exact bk_5 (by assumption) | exact bk_6 (by assumption) | exact bk_7 (by assumption) | exact bk_8 (by assumption) | exact sh_ring _ (by first | assumption | omega) | exact sh_imgs _ (by first | assumption | omega)) (by decide) rfl (by decide) (Nat.le_of_ble_eq_true rfl) (c_X12_next hR h2.1 h2.E h2.2.2.2.1.2.1 (fun J2 t1 f1 => ?_))
        refine v_vret dX12_keepName_55 rfl rfl rfl rfl ?_
        exact hQ J2 (h2.nx h2.E t1 f1) (jk.up.trans f1.p.k)
      · exact absurd (nI_le (by omega) (by omega)) hc7
    | succ j ih =>
      intro k J G' hj hL jk hg
      obtain ⟨q8, ql⟩ := hL.2.2.2.1.2.2.2.2 hk
      have hc := hcc k (by omega)
      refine v_iload_2 dX12_keepName_2 ?_
      refine v_aload_0 dX12_keepName_3 ?_
      refine u_getI dX12_keepName_4 gf_X12_76 (by first | assumption | rfl | exact led_1 (by assumption) | exact led_2 (by assumption) | exact bk_m (by assumption) (by first | assumption | omega) | exact bk_p (by assumption) (by first | assumption | omega) | exact bk_o (by assumption) (by first | assumption | omega) | exact bk_s (by assumption) (by first | assumption | omega) | exact bk_1 (by assumption) | exact bk_2 (by assumption) | exact bk_3 (by assumption) | exact bk_4 (by assumption) | exact bk_5 (by assumption) | exact bk_6 (by assumption) | exact bk_7 (by assumption) | exact bk_8 (by assumption) | exact sh_ring _ (by first | assumption | omega) | exact sh_imgs _ (by first | assumption | omega)) ?_
      rw [q8]
      refine v_icmp_ge (tgt := 37) dX12_keepName_7 (by decide) (fun hc7 => ?_) (fun hc7 => ?_)
      · exact absurd hc7 (nI_ge (by omega) (by omega))
      · (try rw [nI_leI (by omega) (by omega)] at hc7)
        refine v_aload_0 dX12_keepName_10 ?_
        refine u_getR dX12_keepName_11 gf_X12_23 (by first | assumption | rfl | exact led_1 (by assumption) | exact led_2 (by assumption) | exact bk_m (by assumption) (by first | assumption | omega) | exact bk_p (by assumption) (by first | assumption | omega) | exact bk_o (by assumption) (by first | assumption | omega) | exact bk_s (by assumption) (by first | assumption | omega) | exact bk_1 (by assumption) | exact bk_2 (by assumption) | exact bk_3 (by assumption) | exact bk_4 (by assumption) | exact bk_5 (by assumption) | exact bk_6 (by assumption) | exact bk_7 (by assumption) | exact bk_8 (by assumption) | exact sh_ring _ (by first | assumption | omega) | exact sh_imgs _ (by first | assumption | omega)) (ro_X12_16 (by assumption)) ?_
        refine v_sipush (v := nI 209) dX12_keepName_14 (by decide) ?_
        refine v_bipush (v := nI 8) dX12_keepName_17 (by decide) ?_
        refine v_iload_1 dX12_keepName_19 ?_
        refine v_imul dX12_keepName_20 ?_
        refine v_iadd dX12_keepName_21 ?_
        refine v_iload_2 dX12_keepName_22 ?_
        refine v_iadd dX12_keepName_23 ?_
        refine v_aload_0 dX12_keepName_24 ?_
        refine u_getR dX12_keepName_25 gf_X12_17 (by first | assumption | rfl | exact led_1 (by assumption) | exact led_2 (by assumption) | exact bk_m (by assumption) (by first | assumption | omega) | exact bk_p (by assumption) (by first | assumption | omega) | exact bk_o (by assumption) (by first | assumption | omega) | exact bk_s (by assumption) (by first | assumption | omega) | exact bk_1 (by assumption) | exact bk_2 (by assumption) | exact bk_3 (by assumption) | exact bk_4 (by assumption) | exact bk_5 (by assumption) | exact bk_6 (by assumption) | exact bk_7 (by assumption) | exact bk_8 (by assumption) | exact sh_ring _ (by first | assumption | omega) | exact sh_imgs _ (by first | assumption | omega)) (ro_X12_12 (by assumption)) ?_
        refine v_iload_2 dX12_keepName_28 ?_
        refine u_iald dX12_keepName_29 (by first | assumption | rfl | exact led_1 (by assumption) | exact led_2 (by assumption) | exact bk_m (by assumption) (by first | assumption | omega) | exact bk_p (by assumption) (by first | assumption | omega) | exact bk_o (by assumption) (by first | assumption | omega) | exact bk_s (by assumption) (by first | assumption | omega) | exact bk_1 (by assumption) | exact bk_2 (by assumption) | exact bk_3 (by assumption) | exact bk_4 (by assumption) | exact bk_5 (by assumption) | exact bk_6 (by assumption) | exact bk_7 (by assumption) | exact bk_8 (by assumption) | exact sh_ring _ (by first | assumption | omega) | exact sh_imgs _ (by first | assumption | omega)) (by first | with_reducible rfl | (simp only [nlit, nI_add, pk_mul]; with_reducible rfl) | rfl) (by first | assumption | omega) (by first | assumption | decide) ?_
        rw [ql k (by omega)]
        refine u_iast dX12_keepName_30 (by first | assumption | rfl | exact led_1 (by assumption) | exact led_2 (by assumption) | exact bk_m (by assumption) (by first | assumption | omega) | exact bk_p (by assumption) (by first | assumption | omega) | exact bk_o (by assumption) (by first | assumption | omega) | exact bk_s (by assumption) (by first | assumption | omega) | exact bk_1 (by assumption) | exact bk_2 (by assumption) | exact bk_3 (by assumption) | exact bk_4 (by assumption) | exact bk_5 (by assumption) | exact bk_6 (by assumption) | exact bk_7 (by assumption) | exact bk_8 (by assumption) | exact sh_ring _ (by first | assumption | omega) | exact sh_imgs _ (by first | assumption | omega)) (by first | with_reducible rfl | (simp only [nlit, nI_add, pk_mul]; with_reducible rfl) | rfl) (by first | assumption | omega) (by first | assumption | decide) ?_
        refine v_iinc_2 (v := 1) rfl dX12_keepName_31 (by decide) ?_
        rw [show nI k + 1 = nI (k + 1) from nI_1 k]
        refine v_goto (tgt := 2) dX12_keepName_34 (by decide) ?_
        refine ih (k + 1) _ (setF G' (209 + 8 * n + k) (tp (tA tp sz e + k))) (by omega) (hL.put (by omega)) jk.up (fun x => ?_)
        by_cases ex : x = 209 + 8 * n + k
        · rw [ex, setF_s, if_pos (by omega), show 209 + 8 * n + k - (209 + 8 * n) = k by omega]
        · rw [setF_n ex, hg x]
          by_cases e2 : 209 + 8 * n ≤ x ∧ x < 209 + 8 * n + k
          · rw [if_pos e2, if_pos (by omega)]
          · rw [if_neg e2, if_neg (by omega)]
  refine K.of (M := mX12_keepName) (lv := [some (.ref (b + 157)), some (.int (nI n)), none]) (by decide) (Nat.le_of_ble_eq_true rfl) rfl ?_
  refine v_iconst (v := nI 0) dX12_keepName_0 (by decide) ?_
  refine v_istore_2 rfl dX12_keepName_1 ?_
  exact loop _ 0 I G (Nat.zero_add _) h FrK.refl (fun x => by rw [if_neg (by omega)])
theorem c_X12_day {i d : Nat} (hi5 : i < 56) (hd : G 0 = d) (hR : RO R) (h : LvM I tp sz s.1 G l) (hF : ∀ f p, qWhole tp sz (wd i) 1 d s = .inl (f, p) → ∀ J : HI, FlM J f p → FrP I J → Q (some (.int (nI 1))) SH J L R) (hY : ∀ v u, qWhole tp sz (wd i) 1 d s = .inr (v, u) → u.2 = s.2 → 1 ≤ v → v ≤ d → v < 1000 → ∀ J : HI, LvM J tp sz u.1 G l → FrP I J → Q (some (.int (nI v))) SH J L R) : KK 8 mX12_day b ad [.ref (b + 157), .ref (ad i)] I L R Q := by
  have h0 := h.2.2.2.2.1 0 (by decide)
  refine K.of (M := mX12_day) (lv := [some (.ref (b + 157)), some (.ref (ad i))]) (by decide) (Nat.le_of_ble_eq_true rfl) rfl ?_
  refine v_aload_0 dX12_day_0 ?_
  refine v_aload_1 dX12_day_1 ?_
  refine v_iconst (v := nI 1) dX12_day_2 (by decide) ?_
  refine v_aload_0 dX12_day_3 ?_
  refine u_getR dX12_day_4 gf_X12_23 (by first | assumption | rfl | exact led_1 (by assumption) | exact led_2 (by assumption) | exact bk_m (by assumption) (by first | assumption | omega) | exact bk_p (by assumption) (by first | assumption | omega) | exact bk_o (by assumption) (by first | assumption | omega) | exact bk_s (by assumption) (by first | assumption | omega) | exact bk_1 (by assumption) | exact bk_2 (by assumption) | exact bk_3 (by assumption) | exact bk_4 (by assumption) | exact bk_5 (by assumption) | exact bk_6 (by assumption) | exact bk_7 (by assumption) | exact bk_8 (by assumption) | exact sh_ring _ (by first | assumption | omega) | exact sh_imgs _ (by first | assumption | omega)) (ro_X12_16 (by assumption)) ?_
  refine v_iconst (v := nI 0) dX12_day_7 (by decide) ?_
  refine u_iald dX12_day_8 (by first | assumption | rfl | exact led_1 (by assumption) | exact led_2 (by assumption) | exact bk_m (by assumption) (by first | assumption | omega) | exact bk_p (by assumption) (by first | assumption | omega) | exact bk_o (by assumption) (by first | assumption | omega) | exact bk_s (by assumption) (by first | assumption | omega) | exact bk_1 (by assumption) | exact bk_2 (by assumption) | exact bk_3 (by assumption) | exact bk_4 (by assumption) | exact bk_5 (by assumption) | exact bk_6 (by assumption) | exact bk_7 (by assumption) | exact bk_8 (by assumption) | exact sh_ring _ (by first | assumption | omega) | exact sh_imgs _ (by first | assumption | omega)) (by first | with_reducible rfl | (simp only [nlit, nI_add, pk_mul]; with_reducible rfl) | rfl) (by first | assumption | omega) (by first | assumption | decide) ?_
  rw [h0.1, hd]
  refine u_callV_3 dX12_day_9 ml_X12_235 mv_X12_told (by first | assumption | rfl | exact led_1 (by assumption) | exact led_2 (by assumption) | exact bk_m (by assumption) (by first | assumption | omega) | exact bk_p (by assumption) (by first | assumption | omega) | exact bk_o (by assumption) (by first | assumption | omega) | exact bk_s (by assumption) (by first | assumption | omega) | exact bk_1 (by assumption) | exact bk_2 (by assumption) | exact bk_3 (by assumption) | exact bk_4 (by assumption) | exact bk_5 (by assumption) | exact bk_6 (by assumption) | exact bk_7 (by assumption) | exact bk_8 (by assumption) | exact sh_ring _ (by first | assumption | omega) | exact sh_imgs _ (by first | assumption | omega)) (by decide) rfl (by decide) (Nat.le_of_ble_eq_true rfl) (c_X12_told (s := s) hi5 (by decide) (by omega) hR h (fun f p q J j1 j2 => ?_) (fun v u q eu g1 g2 g3 J j1 j2 => ?_))
  · refine v_iret dX12_day_12 rfl rfl rfl rfl ?_
    exact hF f p q J j1 j2
  · refine v_iret dX12_day_12 rfl rfl rfl rfl ?_
    exact hY v u q eu g1 g2 g3 J j1 j2
theorem z_X12_day {i : Nat} (hR : RO R) (h : I 157 13 = nI 1) (hQ : Q (some (.int (nI 1))) SH I L R) : KK 8 mX12_day b ad [.ref (b + 157), .ref (ad i)] I L R Q := by
  refine K.of (M := mX12_day) (lv := [some (.ref (b + 157)), some (.ref (ad i))]) (by decide) (Nat.le_of_ble_eq_true rfl) rfl ?_
  refine v_aload_0 dX12_day_0 ?_
  refine v_aload_1 dX12_day_1 ?_
  refine v_iconst (v := nI 1) dX12_day_2 (by decide) ?_
  refine v_aload_0 dX12_day_3 ?_
  refine u_getR dX12_day_4 gf_X12_23 (by first | assumption | rfl | exact led_1 (by assumption) | exact led_2 (by assumption) | exact bk_m (by assumption) (by first | assumption | omega) | exact bk_p (by assumption) (by first | assumption | omega) | exact bk_o (by assumption) (by first | assumption | omega) | exact bk_s (by assumption) (by first | assumption | omega) | exact bk_1 (by assumption) | exact bk_2 (by assumption) | exact bk_3 (by assumption) | exact bk_4 (by assumption) | exact bk_5 (by assumption) | exact bk_6 (by assumption) | exact bk_7 (by assumption) | exact bk_8 (by assumption) | exact sh_ring _ (by first | assumption | omega) | exact sh_imgs _ (by first | assumption | omega)) (ro_X12_16 (by assumption)) ?_
  refine v_iconst (v := nI 0) dX12_day_7 (by decide) ?_
  refine u_iald dX12_day_8 (by first | assumption | rfl | exact led_1 (by assumption) | exact led_2 (by assumption) | exact bk_m (by assumption) (by first | assumption | omega) | exact bk_p (by assumption) (by first | assumption | omega) | exact bk_o (by assumption) (by first | assumption | omega) | exact bk_s (by assumption) (by first | assumption | omega) | exact bk_1 (by assumption) | exact bk_2 (by assumption) | exact bk_3 (by assumption) | exact bk_4 (by assumption) | exact bk_5 (by assumption) | exact bk_6 (by assumption) | exact bk_7 (by assumption) | exact bk_8 (by assumption) | exact sh_ring _ (by first | assumption | omega) | exact sh_imgs _ (by first | assumption | omega)) (by first | with_reducible rfl | (simp only [nlit, nI_add, pk_mul]; with_reducible rfl) | rfl) (by first | assumption | omega) (by first | assumption | decide) ?_
  refine u_callV_3 dX12_day_9 ml_X12_235 mv_X12_told (by first | assumption | rfl | exact led_1 (by assumption) | exact led_2 (by assumption) | exact bk_m (by assumption) (by first | assumption | omega) | exact bk_p (by assumption) (by first | assumption | omega) | exact bk_o (by assumption) (by first | assumption | omega) | exact bk_s (by assumption) (by first | assumption | omega) | exact bk_1 (by assumption) | exact bk_2 (by assumption) | exact bk_3 (by assumption) | exact bk_4 (by assumption) | exact bk_5 (by assumption) | exact bk_6 (by assumption) | exact bk_7 (by assumption) | exact bk_8 (by assumption) | exact sh_ring _ (by first | assumption | omega) | exact sh_imgs _ (by first | assumption | omega)) (by decide) rfl (by decide) (Nat.le_of_ble_eq_true rfl) (z_X12_told h ?_)
  refine v_iret dX12_day_12 rfl rfl rfl rfl ?_
  exact hQ
theorem c_X12_begins {i o : Nat} {can : Bool} (hi5 : i < 56) (hR : RO R) (h : LvM I tp sz e G l) (hN : isW tp sz (wd i) e = false → Q (some (.int (bI false))) SH I L R) (hF : isW tp sz (wd i) e = true → can = false → ∀ J : HI, FlM J o (tA tp sz e) → FrP I J → Q (some (.int (bI true))) SH J L R) (hY : isW tp sz (wd i) e = true → can = true → ∀ J : HI, LvM J tp sz (tE tp sz e) G l → FrP I J → Q (some (.int (bI true))) SH J L R) : KK 5 mX12_begins b ad [.ref (b + 157), .ref (ad i), .int (bI can), .int (nI o)] I L R Q := by
  have h13 := h.2.2.1
  have t4 := h.2.2.2.1.1
  refine K.of (M := mX12_begins) (lv := [some (.ref (b + 157)), some (.ref (ad i)), some (.int (bI can)), some (.int (nI o))]) (by decide) (Nat.le_of_ble_eq_true rfl) rfl ?_
  refine v_aload_0 dX12_begins_0 ?_
  refine v_aload_1 dX12_begins_1 ?_
  refine u_callV_1 dX12_begins_2 ml_X12_109 mv_X12_isWord (by first | assumption | rfl | exact led_1 (by assumption) | exact led_2 (by assumption) | exact bk_m (by assumption) (by first | assumption | omega) | exact bk_p (by assumption) (by first | assumption | omega) | exact bk_o (by assumption) (by first | assumption | omega) | exact bk_s (by assumption) (by first | assumption | omega) | exact bk_1 (by assumption) | exact bk_2 (by assumption) | exact bk_3 (by assumption) | exact bk_4 (by assumption) | exact bk_5 (by assumption) | exact bk_6 (by assumption) | exact bk_7 (by assumption) | exact bk_8 (by assumption) | exact sh_ring _ (by first | assumption | omega) | exact sh_imgs _ (by first | assumption | omega)) (by decide) rfl (by decide) (Nat.le_of_ble_eq_true rfl) (c_X12_isWord hi5 hR h ?_)
  refine v_if_ne (tgt := 10) dX12_begins_5 (by decide) (fun hc5 => ?_) (fun hc5 => ?_)
  · (first | rw [bI_0, Bool.not_eq_false] at hc5 | rw [bI_0] at hc5 | rw [show (0 : Int32) = nI 0 from rfl, nI_eq (by omega) (by omega)] at hc5 | skip)
    refine v_iload_2 dX12_begins_10 ?_
    refine v_if_ne (tgt := 23) dX12_begins_11 (by decide) (fun hc11 => ?_) (fun hc11 => ?_)
    · (first | rw [bI_0, Bool.not_eq_false] at hc11 | rw [bI_0] at hc11 | rw [show (0 : Int32) = nI 0 from rfl, nI_eq (by omega) (by omega)] at hc11 | skip)
      first
        | (refine v_aload_0 dX12_begins_23 ?_
           refine u_getI dX12_begins_24 gf_X12_92 (by first | assumption | rfl | exact led_1 (by assumption) | exact led_2 (by assumption) | exact bk_m (by assumption) (by first | assumption | omega) | exact bk_p (by assumption) (by first | assumption | omega) | exact bk_o (by assumption) (by first | assumption | omega) | exact bk_s (by assumption) (by first | assumption | omega) | exact bk_1 (by assumption) | exact bk_2 (by assumption) | exact bk_3 (by assumption) | exact bk_4 (by assumption) | exact bk_5 (by assumption) | exact bk_6 (by assumption) | exact bk_7 (by assumption) | exact bk_8 (by assumption) | exact sh_ring _ (by first | assumption | omega) | exact sh_imgs _ (by first | assumption | omega)) ?_
           rw [wrong_fl.1.1]
           refine v_if_ne (tgt := 34) dX12_begins_27 (by decide) (fun hc27 => ?_) (fun hc27 => ?_)
           · (first | rw [bI_0, Bool.not_eq_false] at hc27 | rw [bI_0] at hc27 | rw [show (0 : Int32) = nI 0 from rfl, nI_eq (by omega) (by omega)] at hc27 | skip)
             refine v_iconst (v := nI 1) dX12_begins_34 (by decide) ?_
             refine v_zret dX12_begins_35 (by first | rfl | exact bI_n _) rfl rfl rfl rfl ?_
             exact hF hc5 hc11 _ wrong_fl.1 wrong_fl.2
           · exact absurd hc27 (by decide))
        | (refine v_aload_0 dX12_begins_23 ?_
           refine u_getI dX12_begins_24 gf_X12_92 (by first | assumption | rfl | exact led_1 (by assumption) | exact led_2 (by assumption) | exact bk_m (by assumption) (by first | assumption | omega) | exact bk_p (by assumption) (by first | assumption | omega) | exact bk_o (by assumption) (by first | assumption | omega) | exact bk_s (by assumption) (by first | assumption | omega) | exact bk_1 (by assumption) | exact bk_2 (by assumption) | exact bk_3 (by assumption) | exact bk_4 (by assumption) | exact bk_5 (by assumption) | exact bk_6 (by assumption) | exact bk_7 (by assumption) | exact bk_8 (by assumption) | exact sh_ring _ (by first | assumption | omega) | exact sh_imgs _ (by first | assumption | omega)) ?_
           rw [h13]
           refine v_if_ne (tgt := 34) dX12_begins_27 (by decide) (fun hc27 => ?_) (fun hc27 => ?_)
           · exact absurd rfl hc27
           · (first | rw [bI_0, Bool.not_eq_false] at hc27 | rw [bI_0] at hc27 | rw [show (0 : Int32) = nI 0 from rfl, nI_eq (by omega) (by omega)] at hc27 | skip)
             refine v_aload_0 dX12_begins_30 ?_
             refine u_callV_0 dX12_begins_31 ml_X12_113 mv_X12_next (by first | assumption | rfl | exact led_1 (by assumption) | exact led_2 (by assumption) | exact bk_m (by assumption) (by first | assumption | omega) | exact bk_p (by assumption) (by first | assumption | omega) | exact bk_o (by assumption) (by first | assumption | omega) | exact bk_s (by assumption) (by first | assumption | omega) | exact bk_1 (by assumption) | exact bk_2 (by assumption) | exact bk_3 (by assumption) | exact bk_4 (by assumption) | exact bk_5 (by assumption) | exact bk_6 (by assumption) | exact bk_7 (by assumption) | exact bk_8 (by assumption) | exact sh_ring _ (by first | assumption | omega) | exact sh_imgs _ (by first | assumption | omega)) (by decide) rfl (by decide) (Nat.le_of_ble_eq_true rfl) (c_X12_next hR h.1 h.E h.2.2.2.1.2.1 (fun J t1 f1 => ?_))
             refine v_iconst (v := nI 1) dX12_begins_34 (by decide) ?_
             refine v_zret dX12_begins_35 (by first | rfl | exact bI_n _) rfl rfl rfl rfl ?_
             exact hY hc5 hc11 J (h.nx h.E t1 f1) f1.p)
    · (first | rw [bI_0, Bool.not_eq_false] at hc11 | rw [bI_0] at hc11 | rw [show (0 : Int32) = nI 0 from rfl, nI_eq (by omega) (by omega)] at hc11 | skip)
      refine v_aload_0 dX12_begins_14 ?_
      refine v_iload_3 dX12_begins_15 ?_
      refine v_aload_0 dX12_begins_16 ?_
      refine u_getI dX12_begins_17 gf_X12_73 (by first | assumption | rfl | exact led_1 (by assumption) | exact led_2 (by assumption) | exact bk_m (by assumption) (by first | assumption | omega) | exact bk_p (by assumption) (by first | assumption | omega) | exact bk_o (by assumption) (by first | assumption | omega) | exact bk_s (by assumption) (by first | assumption | omega) | exact bk_1 (by assumption) | exact bk_2 (by assumption) | exact bk_3 (by assumption) | exact bk_4 (by assumption) | exact bk_5 (by assumption) | exact bk_6 (by assumption) | exact bk_7 (by assumption) | exact bk_8 (by assumption) | exact sh_ring _ (by first | assumption | omega) | exact sh_imgs _ (by first | assumption | omega)) ?_
      rw [t4]
      refine u_callV_2 dX12_begins_20 ml_X12_119 mv_X12_wrong (by first | assumption | rfl | exact led_1 (by assumption) | exact led_2 (by assumption) | exact bk_m (by assumption) (by first | assumption | omega) | exact bk_p (by assumption) (by first | assumption | omega) | exact bk_o (by assumption) (by first | assumption | omega) | exact bk_s (by assumption) (by first | assumption | omega) | exact bk_1 (by assumption) | exact bk_2 (by assumption) | exact bk_3 (by assumption) | exact bk_4 (by assumption) | exact bk_5 (by assumption) | exact bk_6 (by assumption) | exact bk_7 (by assumption) | exact bk_8 (by assumption) | exact sh_ring _ (by first | assumption | omega) | exact sh_imgs _ (by first | assumption | omega)) (by decide) rfl (by decide) (Nat.le_of_ble_eq_true rfl) (c_X12_wrong h13 ?_)
      first
        | (refine v_aload_0 dX12_begins_23 ?_
           refine u_getI dX12_begins_24 gf_X12_92 (by first | assumption | rfl | exact led_1 (by assumption) | exact led_2 (by assumption) | exact bk_m (by assumption) (by first | assumption | omega) | exact bk_p (by assumption) (by first | assumption | omega) | exact bk_o (by assumption) (by first | assumption | omega) | exact bk_s (by assumption) (by first | assumption | omega) | exact bk_1 (by assumption) | exact bk_2 (by assumption) | exact bk_3 (by assumption) | exact bk_4 (by assumption) | exact bk_5 (by assumption) | exact bk_6 (by assumption) | exact bk_7 (by assumption) | exact bk_8 (by assumption) | exact sh_ring _ (by first | assumption | omega) | exact sh_imgs _ (by first | assumption | omega)) ?_
           rw [wrong_fl.1.1]
           refine v_if_ne (tgt := 34) dX12_begins_27 (by decide) (fun hc27 => ?_) (fun hc27 => ?_)
           · (first | rw [bI_0, Bool.not_eq_false] at hc27 | rw [bI_0] at hc27 | rw [show (0 : Int32) = nI 0 from rfl, nI_eq (by omega) (by omega)] at hc27 | skip)
             refine v_iconst (v := nI 1) dX12_begins_34 (by decide) ?_
             refine v_zret dX12_begins_35 (by first | rfl | exact bI_n _) rfl rfl rfl rfl ?_
             exact hF hc5 hc11 _ wrong_fl.1 wrong_fl.2
           · exact absurd hc27 (by decide))
        | (refine v_aload_0 dX12_begins_23 ?_
           refine u_getI dX12_begins_24 gf_X12_92 (by first | assumption | rfl | exact led_1 (by assumption) | exact led_2 (by assumption) | exact bk_m (by assumption) (by first | assumption | omega) | exact bk_p (by assumption) (by first | assumption | omega) | exact bk_o (by assumption) (by first | assumption | omega) | exact bk_s (by assumption) (by first | assumption | omega) | exact bk_1 (by assumption) | exact bk_2 (by assumption) | exact bk_3 (by assumption) | exact bk_4 (by assumption) | exact bk_5 (by assumption) | exact bk_6 (by assumption) | exact bk_7 (by assumption) | exact bk_8 (by assumption) | exact sh_ring _ (by first | assumption | omega) | exact sh_imgs _ (by first | assumption | omega)) ?_
           rw [h13]
           refine v_if_ne (tgt := 34) dX12_begins_27 (by decide) (fun hc27 => ?_) (fun hc27 => ?_)
           · exact absurd rfl hc27
           · (first | rw [bI_0, Bool.not_eq_false] at hc27 | rw [bI_0] at hc27 | rw [show (0 : Int32) = nI 0 from rfl, nI_eq (by omega) (by omega)] at hc27 | skip)
             refine v_aload_0 dX12_begins_30 ?_
             refine u_callV_0 dX12_begins_31 ml_X12_113 mv_X12_next (by first | assumption | rfl | exact led_1 (by assumption) | exact led_2 (by assumption) | exact bk_m (by assumption) (by first | assumption | omega) | exact bk_p (by assumption) (by first | assumption | omega) | exact bk_o (by assumption) (by first | assumption | omega) | exact bk_s (by assumption) (by first | assumption | omega) | exact bk_1 (by assumption) | exact bk_2 (by assumption) | exact bk_3 (by assumption) | exact bk_4 (by assumption) | exact bk_5 (by assumption) | exact bk_6 (by assumption) | exact bk_7 (by assumption) | exact bk_8 (by assumption) | exact sh_ring _ (by first | assumption | omega) | exact sh_imgs _ (by first | assumption | omega)) (by decide) rfl (by decide) (Nat.le_of_ble_eq_true rfl) (c_X12_next hR h.1 h.E h.2.2.2.1.2.1 (fun J t1 f1 => ?_))
             refine v_iconst (v := nI 1) dX12_begins_34 (by decide) ?_
             refine v_zret dX12_begins_35 (by first | rfl | exact bI_n _) rfl rfl rfl rfl ?_
             exact hY hc5 hc11 J (h.nx h.E t1 f1) f1.p)
  · (first | rw [bI_0, Bool.not_eq_false] at hc5 | rw [bI_0] at hc5 | rw [show (0 : Int32) = nI 0 from rfl, nI_eq (by omega) (by omega)] at hc5 | skip)
    refine v_iconst (v := nI 0) dX12_begins_8 (by decide) ?_
    refine v_zret dX12_begins_9 (by first | rfl | exact bI_n _) rfl rfl rfl rfl ?_
    exact hN hc5
theorem z_X12_begins {i : Nat} {x y : Int32} (h : I 157 13 = nI 1) (hQ : Q (some (.int (bI false))) SH I L R) : KK 5 mX12_begins b ad [.ref (b + 157), .ref (ad i), .int x, .int y] I L R Q := by
  refine K.of (M := mX12_begins) (lv := [some (.ref (b + 157)), some (.ref (ad i)), some (.int x), some (.int y)]) (by decide) (Nat.le_of_ble_eq_true rfl) rfl ?_
  refine v_aload_0 dX12_begins_0 ?_
  refine v_aload_1 dX12_begins_1 ?_
  refine u_callV_1 dX12_begins_2 ml_X12_109 mv_X12_isWord (by first | assumption | rfl | exact led_1 (by assumption) | exact led_2 (by assumption) | exact bk_m (by assumption) (by first | assumption | omega) | exact bk_p (by assumption) (by first | assumption | omega) | exact bk_o (by assumption) (by first | assumption | omega) | exact bk_s (by assumption) (by first | assumption | omega) | exact bk_1 (by assumption) | exact bk_2 (by assumption) | exact bk_3 (by assumption) | exact bk_4 (by assumption) | exact bk_5 (by assumption) | exact bk_6 (by assumption) | exact bk_7 (by assumption) | exact bk_8 (by assumption) | exact sh_ring _ (by first | assumption | omega) | exact sh_imgs _ (by first | assumption | omega)) (by decide) rfl (by decide) (Nat.le_of_ble_eq_true rfl) (z_X12_isWord h ?_)
  refine v_if_ne (tgt := 10) dX12_begins_5 (by decide) (fun hc5 => ?_) (fun hc5 => ?_)
  · exact absurd rfl hc5
  · (first | rw [bI_0, Bool.not_eq_false] at hc5 | rw [bI_0] at hc5 | rw [show (0 : Int32) = nI 0 from rfl, nI_eq (by omega) (by omega)] at hc5 | skip)
    refine v_iconst (v := nI 0) dX12_begins_8 (by decide) ?_
    refine v_zret dX12_begins_9 (by first | rfl | exact bI_n _) rfl rfl rfl rfl ?_
    exact hQ
theorem c_X12_beginsDay {i : Nat} {can : Bool} (hi5 : i < 56) (hz : G 0 = 0 → can = true) (hR : RO R) (h : LvM I tp sz e G l) (hN : isW tp sz (wd i) e = false → Q (some (.int (bI false))) SH I L R) (hF : isW tp sz (wd i) e = true → ∀ o, (G 0 = 0 ∧ o = 6 ∨ G 0 ≠ 0 ∧ can = false ∧ o = 5) → ∀ J : HI, FlM J o (tA tp sz e) → FrP I J → Q (some (.int (bI true))) SH J L R) (hY : isW tp sz (wd i) e = true → G 0 ≠ 0 → can = true → ∀ J : HI, LvM J tp sz (tE tp sz e) G l → FrP I J → Q (some (.int (bI true))) SH J L R) : KK 5 mX12_beginsDay b ad [.ref (b + 157), .ref (ad i), .int (bI can)] I L R Q := by
  have h13 := h.2.2.1
  have t4 := h.2.2.2.1.1
  have h0 := h.2.2.2.2.1 0 (by decide)
  refine K.of (M := mX12_beginsDay) (lv := [some (.ref (b + 157)), some (.ref (ad i)), some (.int (bI can))]) (by decide) (Nat.le_of_ble_eq_true rfl) rfl ?_
  refine v_aload_0 dX12_beginsDay_0 ?_
  refine v_aload_1 dX12_beginsDay_1 ?_
  refine u_callV_1 dX12_beginsDay_2 ml_X12_109 mv_X12_isWord (by first | assumption | rfl | exact led_1 (by assumption) | exact led_2 (by assumption) | exact bk_m (by assumption) (by first | assumption | omega) | exact bk_p (by assumption) (by first | assumption | omega) | exact bk_o (by assumption) (by first | assumption | omega) | exact bk_s (by assumption) (by first | assumption | omega) | exact bk_1 (by assumption) | exact bk_2 (by assumption) | exact bk_3 (by assumption) | exact bk_4 (by assumption) | exact bk_5 (by assumption) | exact bk_6 (by assumption) | exact bk_7 (by assumption) | exact bk_8 (by assumption) | exact sh_ring _ (by first | assumption | omega) | exact sh_imgs _ (by first | assumption | omega)) (by decide) rfl (by decide) (Nat.le_of_ble_eq_true rfl) (c_X12_isWord hi5 hR h ?_)
  refine v_if_ne (tgt := 10) dX12_beginsDay_5 (by decide) (fun hc5 => ?_) (fun hc5 => ?_)
  · (first | rw [bI_0, Bool.not_eq_false] at hc5 | rw [bI_0] at hc5 | rw [show (0 : Int32) = nI 0 from rfl, nI_eq (by omega) (by omega)] at hc5 | skip)
    refine v_iload_2 dX12_beginsDay_10 ?_
    refine v_if_ne (tgt := 23) dX12_beginsDay_11 (by decide) (fun hc11 => ?_) (fun hc11 => ?_)
    · (first | rw [bI_0, Bool.not_eq_false] at hc11 | rw [bI_0] at hc11 | rw [show (0 : Int32) = nI 0 from rfl, nI_eq (by omega) (by omega)] at hc11 | skip)
      first
        | (refine v_aload_0 dX12_beginsDay_23 ?_
           refine u_getR dX12_beginsDay_24 gf_X12_23 (by first | assumption | rfl | exact led_1 (by assumption) | exact led_2 (by assumption) | exact bk_m (by assumption) (by first | assumption | omega) | exact bk_p (by assumption) (by first | assumption | omega) | exact bk_o (by assumption) (by first | assumption | omega) | exact bk_s (by assumption) (by first | assumption | omega) | exact bk_1 (by assumption) | exact bk_2 (by assumption) | exact bk_3 (by assumption) | exact bk_4 (by assumption) | exact bk_5 (by assumption) | exact bk_6 (by assumption) | exact bk_7 (by assumption) | exact bk_8 (by assumption) | exact sh_ring _ (by first | assumption | omega) | exact sh_imgs _ (by first | assumption | omega)) (ro_X12_16 (by assumption)) ?_
           refine v_iconst (v := nI 0) dX12_beginsDay_27 (by decide) ?_
           refine u_iald dX12_beginsDay_28 (by first | assumption | rfl | exact led_1 (by assumption) | exact led_2 (by assumption) | exact bk_m (by assumption) (by first | assumption | omega) | exact bk_p (by assumption) (by first | assumption | omega) | exact bk_o (by assumption) (by first | assumption | omega) | exact bk_s (by assumption) (by first | assumption | omega) | exact bk_1 (by assumption) | exact bk_2 (by assumption) | exact bk_3 (by assumption) | exact bk_4 (by assumption) | exact bk_5 (by assumption) | exact bk_6 (by assumption) | exact bk_7 (by assumption) | exact bk_8 (by assumption) | exact sh_ring _ (by first | assumption | omega) | exact sh_imgs _ (by first | assumption | omega)) (by first | with_reducible rfl | (simp only [nlit, nI_add, pk_mul]; with_reducible rfl) | rfl) (by first | assumption | omega) (by first | assumption | decide) ?_
           rw [ui_ne (by decide), ui_ne (by decide), ui_ne (by decide)]
           rw [h0.1]
           refine v_if_ne (tgt := 42) dX12_beginsDay_29 (by decide) (fun hc29 => ?_) (fun hc29 => ?_)
           · rw [show (0 : Int32) = nI 0 from rfl, nI_eq (by omega) (by omega)] at hc29
             refine v_aload_0 dX12_beginsDay_42 ?_
             refine u_getI dX12_beginsDay_43 gf_X12_92 (by first | assumption | rfl | exact led_1 (by assumption) | exact led_2 (by assumption) | exact bk_m (by assumption) (by first | assumption | omega) | exact bk_p (by assumption) (by first | assumption | omega) | exact bk_o (by assumption) (by first | assumption | omega) | exact bk_s (by assumption) (by first | assumption | omega) | exact bk_1 (by assumption) | exact bk_2 (by assumption) | exact bk_3 (by assumption) | exact bk_4 (by assumption) | exact bk_5 (by assumption) | exact bk_6 (by assumption) | exact bk_7 (by assumption) | exact bk_8 (by assumption) | exact sh_ring _ (by first | assumption | omega) | exact sh_imgs _ (by first | assumption | omega)) ?_
             rw [wrong_fl.1.1]
             refine v_if_ne (tgt := 53) dX12_beginsDay_46 (by decide) (fun hc46 => ?_) (fun hc46 => ?_)
             · (first | rw [bI_0, Bool.not_eq_false] at hc46 | rw [bI_0] at hc46 | rw [show (0 : Int32) = nI 0 from rfl, nI_eq (by omega) (by omega)] at hc46 | skip)
               refine v_iconst (v := nI 1) dX12_beginsDay_53 (by decide) ?_
               refine v_zret dX12_beginsDay_54 (by first | rfl | exact bI_n _) rfl rfl rfl rfl ?_
               exact hF hc5 5 (Or.inr ⟨hc29, hc11, rfl⟩) _ wrong_fl.1 wrong_fl.2
             · exact absurd hc46 (by decide)
           · (rw [show (0 : Int32) = nI 0 from rfl, nI_eq (by omega) (by omega)] at hc29; rw [hz hc29] at hc11; cases hc11))
        | (refine v_aload_0 dX12_beginsDay_23 ?_
           refine u_getR dX12_beginsDay_24 gf_X12_23 (by first | assumption | rfl | exact led_1 (by assumption) | exact led_2 (by assumption) | exact bk_m (by assumption) (by first | assumption | omega) | exact bk_p (by assumption) (by first | assumption | omega) | exact bk_o (by assumption) (by first | assumption | omega) | exact bk_s (by assumption) (by first | assumption | omega) | exact bk_1 (by assumption) | exact bk_2 (by assumption) | exact bk_3 (by assumption) | exact bk_4 (by assumption) | exact bk_5 (by assumption) | exact bk_6 (by assumption) | exact bk_7 (by assumption) | exact bk_8 (by assumption) | exact sh_ring _ (by first | assumption | omega) | exact sh_imgs _ (by first | assumption | omega)) (ro_X12_16 (by assumption)) ?_
           refine v_iconst (v := nI 0) dX12_beginsDay_27 (by decide) ?_
           refine u_iald dX12_beginsDay_28 (by first | assumption | rfl | exact led_1 (by assumption) | exact led_2 (by assumption) | exact bk_m (by assumption) (by first | assumption | omega) | exact bk_p (by assumption) (by first | assumption | omega) | exact bk_o (by assumption) (by first | assumption | omega) | exact bk_s (by assumption) (by first | assumption | omega) | exact bk_1 (by assumption) | exact bk_2 (by assumption) | exact bk_3 (by assumption) | exact bk_4 (by assumption) | exact bk_5 (by assumption) | exact bk_6 (by assumption) | exact bk_7 (by assumption) | exact bk_8 (by assumption) | exact sh_ring _ (by first | assumption | omega) | exact sh_imgs _ (by first | assumption | omega)) (by first | with_reducible rfl | (simp only [nlit, nI_add, pk_mul]; with_reducible rfl) | rfl) (by first | assumption | omega) (by first | assumption | decide) ?_
           rw [h0.1]
           refine v_if_ne (tgt := 42) dX12_beginsDay_29 (by decide) (fun hc29 => ?_) (fun hc29 => ?_)
           · rw [show (0 : Int32) = nI 0 from rfl, nI_eq (by omega) (by omega)] at hc29
             first
               | (refine v_aload_0 dX12_beginsDay_42 ?_
                  refine u_getI dX12_beginsDay_43 gf_X12_92 (by first | assumption | rfl | exact led_1 (by assumption) | exact led_2 (by assumption) | exact bk_m (by assumption) (by first | assumption | omega) | exact bk_p (by assumption) (by first | assumption | omega) | exact bk_o (by assumption) (by first | assumption | omega) | exact bk_s (by assumption) (by first | assumption | omega) | exact bk_1 (by assumption) | exact bk_2 (by assumption) | exact bk_3 (by assumption) | exact bk_4 (by assumption) | exact bk_5 (by assumption) | exact bk_6 (by assumption) | exact bk_7 (by assumption) | exact bk_8 (by assumption) | exact sh_ring _ (by first | assumption | omega) | exact sh_imgs _ (by first | assumption | omega)) ?_
                  rw [wrong_fl.1.1]
                  refine v_if_ne (tgt := 53) dX12_beginsDay_46 (by decide) (fun hc46 => ?_) (fun hc46 => ?_)
                  · (first | rw [bI_0, Bool.not_eq_false] at hc46 | rw [bI_0] at hc46 | rw [show (0 : Int32) = nI 0 from rfl, nI_eq (by omega) (by omega)] at hc46 | skip)
                    refine v_iconst (v := nI 1) dX12_beginsDay_53 (by decide) ?_
                    refine v_zret dX12_beginsDay_54 (by first | rfl | exact bI_n _) rfl rfl rfl rfl ?_
                    exact hF hc5 6 (Or.inl ⟨hc29, rfl⟩) _ wrong_fl.1 wrong_fl.2
                  · exact absurd hc46 (by decide))
               | (refine v_aload_0 dX12_beginsDay_42 ?_
                  refine u_getI dX12_beginsDay_43 gf_X12_92 (by first | assumption | rfl | exact led_1 (by assumption) | exact led_2 (by assumption) | exact bk_m (by assumption) (by first | assumption | omega) | exact bk_p (by assumption) (by first | assumption | omega) | exact bk_o (by assumption) (by first | assumption | omega) | exact bk_s (by assumption) (by first | assumption | omega) | exact bk_1 (by assumption) | exact bk_2 (by assumption) | exact bk_3 (by assumption) | exact bk_4 (by assumption) | exact bk_5 (by assumption) | exact bk_6 (by assumption) | exact bk_7 (by assumption) | exact bk_8 (by assumption) | exact sh_ring _ (by first | assumption | omega) | exact sh_imgs _ (by first | assumption | omega)) ?_
                  rw [h13]
                  refine v_if_ne (tgt := 53) dX12_beginsDay_46 (by decide) (fun hc46 => ?_) (fun hc46 => ?_)
                  · exact absurd rfl hc46
                  · (first | rw [bI_0, Bool.not_eq_false] at hc46 | rw [bI_0] at hc46 | rw [show (0 : Int32) = nI 0 from rfl, nI_eq (by omega) (by omega)] at hc46 | skip)
                    refine v_aload_0 dX12_beginsDay_49 ?_
                    refine u_callV_0 dX12_beginsDay_50 ml_X12_113 mv_X12_next (by first | assumption | rfl | exact led_1 (by assumption) | exact led_2 (by assumption) | exact bk_m (by assumption) (by first | assumption | omega) | exact bk_p (by assumption) (by first | assumption | omega) | exact bk_o (by assumption) (by first | assumption | omega) | exact bk_s (by assumption) (by first | assumption | omega) | exact bk_1 (by assumption) | exact bk_2 (by assumption) | exact bk_3 (by assumption) | exact bk_4 (by assumption) | exact bk_5 (by assumption) | exact bk_6 (by assumption) | exact bk_7 (by assumption) | exact bk_8 (by assumption) | exact sh_ring _ (by first | assumption | omega) | exact sh_imgs _ (by first | assumption | omega)) (by decide) rfl (by decide) (Nat.le_of_ble_eq_true rfl) (c_X12_next hR h.1 h.E h.2.2.2.1.2.1 (fun J t1 f1 => ?_))
                    refine v_iconst (v := nI 1) dX12_beginsDay_53 (by decide) ?_
                    refine v_zret dX12_beginsDay_54 (by first | rfl | exact bI_n _) rfl rfl rfl rfl ?_
                    exact hY hc5 hc29 hc11 J (h.nx h.E t1 f1) f1.p)
           · rw [show (0 : Int32) = nI 0 from rfl, nI_eq (by omega) (by omega)] at hc29
             refine v_aload_0 dX12_beginsDay_32 ?_
             refine v_bipush (v := nI 6) dX12_beginsDay_33 (by decide) ?_
             refine v_aload_0 dX12_beginsDay_35 ?_
             refine u_getI dX12_beginsDay_36 gf_X12_73 (by first | assumption | rfl | exact led_1 (by assumption) | exact led_2 (by assumption) | exact bk_m (by assumption) (by first | assumption | omega) | exact bk_p (by assumption) (by first | assumption | omega) | exact bk_o (by assumption) (by first | assumption | omega) | exact bk_s (by assumption) (by first | assumption | omega) | exact bk_1 (by assumption) | exact bk_2 (by assumption) | exact bk_3 (by assumption) | exact bk_4 (by assumption) | exact bk_5 (by assumption) | exact bk_6 (by assumption) | exact bk_7 (by assumption) | exact bk_8 (by assumption) | exact sh_ring _ (by first | assumption | omega) | exact sh_imgs _ (by first | assumption | omega)) ?_
             rw [t4]
             refine u_callV_2 dX12_beginsDay_39 ml_X12_119 mv_X12_wrong (by first | assumption | rfl | exact led_1 (by assumption) | exact led_2 (by assumption) | exact bk_m (by assumption) (by first | assumption | omega) | exact bk_p (by assumption) (by first | assumption | omega) | exact bk_o (by assumption) (by first | assumption | omega) | exact bk_s (by assumption) (by first | assumption | omega) | exact bk_1 (by assumption) | exact bk_2 (by assumption) | exact bk_3 (by assumption) | exact bk_4 (by assumption) | exact bk_5 (by assumption) | exact bk_6 (by assumption) | exact bk_7 (by assumption) | exact bk_8 (by assumption) | exact sh_ring _ (by first | assumption | omega) | exact sh_imgs _ (by first | assumption | omega)) (by decide) rfl (by decide) (Nat.le_of_ble_eq_true rfl) (c_X12_wrong h13 ?_)
             first
               | (refine v_aload_0 dX12_beginsDay_42 ?_
                  refine u_getI dX12_beginsDay_43 gf_X12_92 (by first | assumption | rfl | exact led_1 (by assumption) | exact led_2 (by assumption) | exact bk_m (by assumption) (by first | assumption | omega) | exact bk_p (by assumption) (by first | assumption | omega) | exact bk_o (by assumption) (by first | assumption | omega) | exact bk_s (by assumption) (by first | assumption | omega) | exact bk_1 (by assumption) | exact bk_2 (by assumption) | exact bk_3 (by assumption) | exact bk_4 (by assumption) | exact bk_5 (by assumption) | exact bk_6 (by assumption) | exact bk_7 (by assumption) | exact bk_8 (by assumption) | exact sh_ring _ (by first | assumption | omega) | exact sh_imgs _ (by first | assumption | omega)) ?_
                  rw [wrong_fl.1.1]
                  refine v_if_ne (tgt := 53) dX12_beginsDay_46 (by decide) (fun hc46 => ?_) (fun hc46 => ?_)
                  · (first | rw [bI_0, Bool.not_eq_false] at hc46 | rw [bI_0] at hc46 | rw [show (0 : Int32) = nI 0 from rfl, nI_eq (by omega) (by omega)] at hc46 | skip)
                    refine v_iconst (v := nI 1) dX12_beginsDay_53 (by decide) ?_
                    refine v_zret dX12_beginsDay_54 (by first | rfl | exact bI_n _) rfl rfl rfl rfl ?_
                    exact hF hc5 6 (Or.inl ⟨hc29, rfl⟩) _ wrong_fl.1 wrong_fl.2
                  · exact absurd hc46 (by decide))
               | (refine v_aload_0 dX12_beginsDay_42 ?_
                  refine u_getI dX12_beginsDay_43 gf_X12_92 (by first | assumption | rfl | exact led_1 (by assumption) | exact led_2 (by assumption) | exact bk_m (by assumption) (by first | assumption | omega) | exact bk_p (by assumption) (by first | assumption | omega) | exact bk_o (by assumption) (by first | assumption | omega) | exact bk_s (by assumption) (by first | assumption | omega) | exact bk_1 (by assumption) | exact bk_2 (by assumption) | exact bk_3 (by assumption) | exact bk_4 (by assumption) | exact bk_5 (by assumption) | exact bk_6 (by assumption) | exact bk_7 (by assumption) | exact bk_8 (by assumption) | exact sh_ring _ (by first | assumption | omega) | exact sh_imgs _ (by first | assumption | omega)) ?_
                  rw [h13]
                  refine v_if_ne (tgt := 53) dX12_beginsDay_46 (by decide) (fun hc46 => ?_) (fun hc46 => ?_)
                  · exact absurd rfl hc46
                  · (first | rw [bI_0, Bool.not_eq_false] at hc46 | rw [bI_0] at hc46 | rw [show (0 : Int32) = nI 0 from rfl, nI_eq (by omega) (by omega)] at hc46 | skip)
                    refine v_aload_0 dX12_beginsDay_49 ?_
                    refine u_callV_0 dX12_beginsDay_50 ml_X12_113 mv_X12_next (by first | assumption | rfl | exact led_1 (by assumption) | exact led_2 (by assumption) | exact bk_m (by assumption) (by first | assumption | omega) | exact bk_p (by assumption) (by first | assumption | omega) | exact bk_o (by assumption) (by first | assumption | omega) | exact bk_s (by assumption) (by first | assumption | omega) | exact bk_1 (by assumption) | exact bk_2 (by assumption) | exact bk_3 (by assumption) | exact bk_4 (by assumption) | exact bk_5 (by assumption) | exact bk_6 (by assumption) | exact bk_7 (by assumption) | exact bk_8 (by assumption) | exact sh_ring _ (by first | assumption | omega) | exact sh_imgs _ (by first | assumption | omega)) (by decide) rfl (by decide) (Nat.le_of_ble_eq_true rfl) (c_X12_next hR h.1 h.E h.2.2.2.1.2.1 (fun J t1 f1 => ?_))
                    refine v_iconst (v := nI 1) dX12_beginsDay_53 (by decide) ?_
                    refine v_zret dX12_beginsDay_54 (by first | rfl | exact bI_n _) rfl rfl rfl rfl ?_
                    exact hY hc5 hc29 hc11 J (h.nx h.E t1 f1) f1.p))
    · (first | rw [bI_0, Bool.not_eq_false] at hc11 | rw [bI_0] at hc11 | rw [show (0 : Int32) = nI 0 from rfl, nI_eq (by omega) (by omega)] at hc11 | skip)
      refine v_aload_0 dX12_beginsDay_14 ?_
      refine v_iconst (v := nI 5) dX12_beginsDay_15 (by decide) ?_
      refine v_aload_0 dX12_beginsDay_16 ?_
      refine u_getI dX12_beginsDay_17 gf_X12_73 (by first | assumption | rfl | exact led_1 (by assumption) | exact led_2 (by assumption) | exact bk_m (by assumption) (by first | assumption | omega) | exact bk_p (by assumption) (by first | assumption | omega) | exact bk_o (by assumption) (by first | assumption | omega) | exact bk_s (by assumption) (by first | assumption | omega) | exact bk_1 (by assumption) | exact bk_2 (by assumption) | exact bk_3 (by assumption) | exact bk_4 (by assumption) | exact bk_5 (by assumption) | exact bk_6 (by assumption) | exact bk_7 (by assumption) | exact bk_8 (by assumption) | exact sh_ring _ (by first | assumption | omega) | exact sh_imgs _ (by first | assumption | omega)) ?_
      rw [t4]
      refine u_callV_2 dX12_beginsDay_20 ml_X12_119 mv_X12_wrong (by first | assumption | rfl | exact led_1 (by assumption) | exact led_2 (by assumption) | exact bk_m (by assumption) (by first | assumption | omega) | exact bk_p (by assumption) (by first | assumption | omega) | exact bk_o (by assumption) (by first | assumption | omega) | exact bk_s (by assumption) (by first | assumption | omega) | exact bk_1 (by assumption) | exact bk_2 (by assumption) | exact bk_3 (by assumption) | exact bk_4 (by assumption) | exact bk_5 (by assumption) | exact bk_6 (by assumption) | exact bk_7 (by assumption) | exact bk_8 (by assumption) | exact sh_ring _ (by first | assumption | omega) | exact sh_imgs _ (by first | assumption | omega)) (by decide) rfl (by decide) (Nat.le_of_ble_eq_true rfl) (c_X12_wrong h13 ?_)
      first
        | (refine v_aload_0 dX12_beginsDay_23 ?_
           refine u_getR dX12_beginsDay_24 gf_X12_23 (by first | assumption | rfl | exact led_1 (by assumption) | exact led_2 (by assumption) | exact bk_m (by assumption) (by first | assumption | omega) | exact bk_p (by assumption) (by first | assumption | omega) | exact bk_o (by assumption) (by first | assumption | omega) | exact bk_s (by assumption) (by first | assumption | omega) | exact bk_1 (by assumption) | exact bk_2 (by assumption) | exact bk_3 (by assumption) | exact bk_4 (by assumption) | exact bk_5 (by assumption) | exact bk_6 (by assumption) | exact bk_7 (by assumption) | exact bk_8 (by assumption) | exact sh_ring _ (by first | assumption | omega) | exact sh_imgs _ (by first | assumption | omega)) (ro_X12_16 (by assumption)) ?_
           refine v_iconst (v := nI 0) dX12_beginsDay_27 (by decide) ?_
           refine u_iald dX12_beginsDay_28 (by first | assumption | rfl | exact led_1 (by assumption) | exact led_2 (by assumption) | exact bk_m (by assumption) (by first | assumption | omega) | exact bk_p (by assumption) (by first | assumption | omega) | exact bk_o (by assumption) (by first | assumption | omega) | exact bk_s (by assumption) (by first | assumption | omega) | exact bk_1 (by assumption) | exact bk_2 (by assumption) | exact bk_3 (by assumption) | exact bk_4 (by assumption) | exact bk_5 (by assumption) | exact bk_6 (by assumption) | exact bk_7 (by assumption) | exact bk_8 (by assumption) | exact sh_ring _ (by first | assumption | omega) | exact sh_imgs _ (by first | assumption | omega)) (by first | with_reducible rfl | (simp only [nlit, nI_add, pk_mul]; with_reducible rfl) | rfl) (by first | assumption | omega) (by first | assumption | decide) ?_
           rw [ui_ne (by decide), ui_ne (by decide), ui_ne (by decide)]
           rw [h0.1]
           refine v_if_ne (tgt := 42) dX12_beginsDay_29 (by decide) (fun hc29 => ?_) (fun hc29 => ?_)
           · rw [show (0 : Int32) = nI 0 from rfl, nI_eq (by omega) (by omega)] at hc29
             refine v_aload_0 dX12_beginsDay_42 ?_
             refine u_getI dX12_beginsDay_43 gf_X12_92 (by first | assumption | rfl | exact led_1 (by assumption) | exact led_2 (by assumption) | exact bk_m (by assumption) (by first | assumption | omega) | exact bk_p (by assumption) (by first | assumption | omega) | exact bk_o (by assumption) (by first | assumption | omega) | exact bk_s (by assumption) (by first | assumption | omega) | exact bk_1 (by assumption) | exact bk_2 (by assumption) | exact bk_3 (by assumption) | exact bk_4 (by assumption) | exact bk_5 (by assumption) | exact bk_6 (by assumption) | exact bk_7 (by assumption) | exact bk_8 (by assumption) | exact sh_ring _ (by first | assumption | omega) | exact sh_imgs _ (by first | assumption | omega)) ?_
             rw [wrong_fl.1.1]
             refine v_if_ne (tgt := 53) dX12_beginsDay_46 (by decide) (fun hc46 => ?_) (fun hc46 => ?_)
             · (first | rw [bI_0, Bool.not_eq_false] at hc46 | rw [bI_0] at hc46 | rw [show (0 : Int32) = nI 0 from rfl, nI_eq (by omega) (by omega)] at hc46 | skip)
               refine v_iconst (v := nI 1) dX12_beginsDay_53 (by decide) ?_
               refine v_zret dX12_beginsDay_54 (by first | rfl | exact bI_n _) rfl rfl rfl rfl ?_
               exact hF hc5 5 (Or.inr ⟨hc29, hc11, rfl⟩) _ wrong_fl.1 wrong_fl.2
             · exact absurd hc46 (by decide)
           · (rw [show (0 : Int32) = nI 0 from rfl, nI_eq (by omega) (by omega)] at hc29; rw [hz hc29] at hc11; cases hc11))
        | (refine v_aload_0 dX12_beginsDay_23 ?_
           refine u_getR dX12_beginsDay_24 gf_X12_23 (by first | assumption | rfl | exact led_1 (by assumption) | exact led_2 (by assumption) | exact bk_m (by assumption) (by first | assumption | omega) | exact bk_p (by assumption) (by first | assumption | omega) | exact bk_o (by assumption) (by first | assumption | omega) | exact bk_s (by assumption) (by first | assumption | omega) | exact bk_1 (by assumption) | exact bk_2 (by assumption) | exact bk_3 (by assumption) | exact bk_4 (by assumption) | exact bk_5 (by assumption) | exact bk_6 (by assumption) | exact bk_7 (by assumption) | exact bk_8 (by assumption) | exact sh_ring _ (by first | assumption | omega) | exact sh_imgs _ (by first | assumption | omega)) (ro_X12_16 (by assumption)) ?_
           refine v_iconst (v := nI 0) dX12_beginsDay_27 (by decide) ?_
           refine u_iald dX12_beginsDay_28 (by first | assumption | rfl | exact led_1 (by assumption) | exact led_2 (by assumption) | exact bk_m (by assumption) (by first | assumption | omega) | exact bk_p (by assumption) (by first | assumption | omega) | exact bk_o (by assumption) (by first | assumption | omega) | exact bk_s (by assumption) (by first | assumption | omega) | exact bk_1 (by assumption) | exact bk_2 (by assumption) | exact bk_3 (by assumption) | exact bk_4 (by assumption) | exact bk_5 (by assumption) | exact bk_6 (by assumption) | exact bk_7 (by assumption) | exact bk_8 (by assumption) | exact sh_ring _ (by first | assumption | omega) | exact sh_imgs _ (by first | assumption | omega)) (by first | with_reducible rfl | (simp only [nlit, nI_add, pk_mul]; with_reducible rfl) | rfl) (by first | assumption | omega) (by first | assumption | decide) ?_
           rw [h0.1]
           refine v_if_ne (tgt := 42) dX12_beginsDay_29 (by decide) (fun hc29 => ?_) (fun hc29 => ?_)
           · rw [show (0 : Int32) = nI 0 from rfl, nI_eq (by omega) (by omega)] at hc29
             first
               | (refine v_aload_0 dX12_beginsDay_42 ?_
                  refine u_getI dX12_beginsDay_43 gf_X12_92 (by first | assumption | rfl | exact led_1 (by assumption) | exact led_2 (by assumption) | exact bk_m (by assumption) (by first | assumption | omega) | exact bk_p (by assumption) (by first | assumption | omega) | exact bk_o (by assumption) (by first | assumption | omega) | exact bk_s (by assumption) (by first | assumption | omega) | exact bk_1 (by assumption) | exact bk_2 (by assumption) | exact bk_3 (by assumption) | exact bk_4 (by assumption) | exact bk_5 (by assumption) | exact bk_6 (by assumption) | exact bk_7 (by assumption) | exact bk_8 (by assumption) | exact sh_ring _ (by first | assumption | omega) | exact sh_imgs _ (by first | assumption | omega)) ?_
                  rw [wrong_fl.1.1]
                  refine v_if_ne (tgt := 53) dX12_beginsDay_46 (by decide) (fun hc46 => ?_) (fun hc46 => ?_)
                  · (first | rw [bI_0, Bool.not_eq_false] at hc46 | rw [bI_0] at hc46 | rw [show (0 : Int32) = nI 0 from rfl, nI_eq (by omega) (by omega)] at hc46 | skip)
                    refine v_iconst (v := nI 1) dX12_beginsDay_53 (by decide) ?_
                    refine v_zret dX12_beginsDay_54 (by first | rfl | exact bI_n _) rfl rfl rfl rfl ?_
                    exact hF hc5 6 (Or.inl ⟨hc29, rfl⟩) _ wrong_fl.1 wrong_fl.2
                  · exact absurd hc46 (by decide))
               | (refine v_aload_0 dX12_beginsDay_42 ?_
                  refine u_getI dX12_beginsDay_43 gf_X12_92 (by first | assumption | rfl | exact led_1 (by assumption) | exact led_2 (by assumption) | exact bk_m (by assumption) (by first | assumption | omega) | exact bk_p (by assumption) (by first | assumption | omega) | exact bk_o (by assumption) (by first | assumption | omega) | exact bk_s (by assumption) (by first | assumption | omega) | exact bk_1 (by assumption) | exact bk_2 (by assumption) | exact bk_3 (by assumption) | exact bk_4 (by assumption) | exact bk_5 (by assumption) | exact bk_6 (by assumption) | exact bk_7 (by assumption) | exact bk_8 (by assumption) | exact sh_ring _ (by first | assumption | omega) | exact sh_imgs _ (by first | assumption | omega)) ?_
                  rw [h13]
                  refine v_if_ne (tgt := 53) dX12_beginsDay_46 (by decide) (fun hc46 => ?_) (fun hc46 => ?_)
                  · exact absurd rfl hc46
                  · (first | rw [bI_0, Bool.not_eq_false] at hc46 | rw [bI_0] at hc46 | rw [show (0 : Int32) = nI 0 from rfl, nI_eq (by omega) (by omega)] at hc46 | skip)
                    refine v_aload_0 dX12_beginsDay_49 ?_
                    refine u_callV_0 dX12_beginsDay_50 ml_X12_113 mv_X12_next (by first | assumption | rfl | exact led_1 (by assumption) | exact led_2 (by assumption) | exact bk_m (by assumption) (by first | assumption | omega) | exact bk_p (by assumption) (by first | assumption | omega) | exact bk_o (by assumption) (by first | assumption | omega) | exact bk_s (by assumption) (by first | assumption | omega) | exact bk_1 (by assumption) | exact bk_2 (by assumption) | exact bk_3 (by assumption) | exact bk_4 (by assumption) | exact bk_5 (by assumption) | exact bk_6 (by assumption) | exact bk_7 (by assumption) | exact bk_8 (by assumption) | exact sh_ring _ (by first | assumption | omega) | exact sh_imgs _ (by first | assumption | omega)) (by decide) rfl (by decide) (Nat.le_of_ble_eq_true rfl) (c_X12_next hR h.1 h.E h.2.2.2.1.2.1 (fun J t1 f1 => ?_))
                    refine v_iconst (v := nI 1) dX12_beginsDay_53 (by decide) ?_
                    refine v_zret dX12_beginsDay_54 (by first | rfl | exact bI_n _) rfl rfl rfl rfl ?_
                    exact hY hc5 hc29 hc11 J (h.nx h.E t1 f1) f1.p)
           · rw [show (0 : Int32) = nI 0 from rfl, nI_eq (by omega) (by omega)] at hc29
             refine v_aload_0 dX12_beginsDay_32 ?_
             refine v_bipush (v := nI 6) dX12_beginsDay_33 (by decide) ?_
             refine v_aload_0 dX12_beginsDay_35 ?_
             refine u_getI dX12_beginsDay_36 gf_X12_73 (by first | assumption | rfl | exact led_1 (by assumption) | exact led_2 (by assumption) | exact bk_m (by assumption) (by first | assumption | omega) | exact bk_p (by assumption) (by first | assumption | omega) | exact bk_o (by assumption) (by first | assumption | omega) | exact bk_s (by assumption) (by first | assumption | omega) | exact bk_1 (by assumption) | exact bk_2 (by assumption) | exact bk_3 (by assumption) | exact bk_4 (by assumption) | exact bk_5 (by assumption) | exact bk_6 (by assumption) | exact bk_7 (by assumption) | exact bk_8 (by assumption) | exact sh_ring _ (by first | assumption | omega) | exact sh_imgs _ (by first | assumption | omega)) ?_
             rw [t4]
             refine u_callV_2 dX12_beginsDay_39 ml_X12_119 mv_X12_wrong (by first | assumption | rfl | exact led_1 (by assumption) | exact led_2 (by assumption) | exact bk_m (by assumption) (by first | assumption | omega) | exact bk_p (by assumption) (by first | assumption | omega) | exact bk_o (by assumption) (by first | assumption | omega) | exact bk_s (by assumption) (by first | assumption | omega) | exact bk_1 (by assumption) | exact bk_2 (by assumption) | exact bk_3 (by assumption) | exact bk_4 (by assumption) | exact bk_5 (by assumption) | exact bk_6 (by assumption) | exact bk_7 (by assumption) | exact bk_8 (by assumption) | exact sh_ring _ (by first | assumption | omega) | exact sh_imgs _ (by first | assumption | omega)) (by decide) rfl (by decide) (Nat.le_of_ble_eq_true rfl) (c_X12_wrong h13 ?_)
             first
               | (refine v_aload_0 dX12_beginsDay_42 ?_
                  refine u_getI dX12_beginsDay_43 gf_X12_92 (by first | assumption | rfl | exact led_1 (by assumption) | exact led_2 (by assumption) | exact bk_m (by assumption) (by first | assumption | omega) | exact bk_p (by assumption) (by first | assumption | omega) | exact bk_o (by assumption) (by first | assumption | omega) | exact bk_s (by assumption) (by first | assumption | omega) | exact bk_1 (by assumption) | exact bk_2 (by assumption) | exact bk_3 (by assumption) | exact bk_4 (by assumption) | exact bk_5 (by assumption) | exact bk_6 (by assumption) | exact bk_7 (by assumption) | exact bk_8 (by assumption) | exact sh_ring _ (by first | assumption | omega) | exact sh_imgs _ (by first | assumption | omega)) ?_
                  rw [wrong_fl.1.1]
                  refine v_if_ne (tgt := 53) dX12_beginsDay_46 (by decide) (fun hc46 => ?_) (fun hc46 => ?_)
                  · (first | rw [bI_0, Bool.not_eq_false] at hc46 | rw [bI_0] at hc46 | rw [show (0 : Int32) = nI 0 from rfl, nI_eq (by omega) (by omega)] at hc46 | skip)
                    refine v_iconst (v := nI 1) dX12_beginsDay_53 (by decide) ?_
                    refine v_zret dX12_beginsDay_54 (by first | rfl | exact bI_n _) rfl rfl rfl rfl ?_
                    exact hF hc5 6 (Or.inl ⟨hc29, rfl⟩) _ wrong_fl.1 wrong_fl.2
                  · exact absurd hc46 (by decide))
               | (refine v_aload_0 dX12_beginsDay_42 ?_
                  refine u_getI dX12_beginsDay_43 gf_X12_92 (by first | assumption | rfl | exact led_1 (by assumption) | exact led_2 (by assumption) | exact bk_m (by assumption) (by first | assumption | omega) | exact bk_p (by assumption) (by first | assumption | omega) | exact bk_o (by assumption) (by first | assumption | omega) | exact bk_s (by assumption) (by first | assumption | omega) | exact bk_1 (by assumption) | exact bk_2 (by assumption) | exact bk_3 (by assumption) | exact bk_4 (by assumption) | exact bk_5 (by assumption) | exact bk_6 (by assumption) | exact bk_7 (by assumption) | exact bk_8 (by assumption) | exact sh_ring _ (by first | assumption | omega) | exact sh_imgs _ (by first | assumption | omega)) ?_
                  rw [h13]
                  refine v_if_ne (tgt := 53) dX12_beginsDay_46 (by decide) (fun hc46 => ?_) (fun hc46 => ?_)
                  · exact absurd rfl hc46
                  · (first | rw [bI_0, Bool.not_eq_false] at hc46 | rw [bI_0] at hc46 | rw [show (0 : Int32) = nI 0 from rfl, nI_eq (by omega) (by omega)] at hc46 | skip)
                    refine v_aload_0 dX12_beginsDay_49 ?_
                    refine u_callV_0 dX12_beginsDay_50 ml_X12_113 mv_X12_next (by first | assumption | rfl | exact led_1 (by assumption) | exact led_2 (by assumption) | exact bk_m (by assumption) (by first | assumption | omega) | exact bk_p (by assumption) (by first | assumption | omega) | exact bk_o (by assumption) (by first | assumption | omega) | exact bk_s (by assumption) (by first | assumption | omega) | exact bk_1 (by assumption) | exact bk_2 (by assumption) | exact bk_3 (by assumption) | exact bk_4 (by assumption) | exact bk_5 (by assumption) | exact bk_6 (by assumption) | exact bk_7 (by assumption) | exact bk_8 (by assumption) | exact sh_ring _ (by first | assumption | omega) | exact sh_imgs _ (by first | assumption | omega)) (by decide) rfl (by decide) (Nat.le_of_ble_eq_true rfl) (c_X12_next hR h.1 h.E h.2.2.2.1.2.1 (fun J t1 f1 => ?_))
                    refine v_iconst (v := nI 1) dX12_beginsDay_53 (by decide) ?_
                    refine v_zret dX12_beginsDay_54 (by first | rfl | exact bI_n _) rfl rfl rfl rfl ?_
                    exact hY hc5 hc29 hc11 J (h.nx h.E t1 f1) f1.p))
  · (first | rw [bI_0, Bool.not_eq_false] at hc5 | rw [bI_0] at hc5 | rw [show (0 : Int32) = nI 0 from rfl, nI_eq (by omega) (by omega)] at hc5 | skip)
    refine v_iconst (v := nI 0) dX12_beginsDay_8 (by decide) ?_
    refine v_zret dX12_beginsDay_9 (by first | rfl | exact bI_n _) rfl rfl rfl rfl ?_
    exact hN hc5
end
