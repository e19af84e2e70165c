section
variable {b : Nat} {ad : Nat → Nat} {I : HI} {L : HL} {R : HR} {Q : QT} {a : Nat}
theorem c_X2_add {n m p f u : Nat} {g : lends} (hR : RO R) (ha : SH a = .inl 2) (hL : LedI I a n g) (hn20 : n < 20) (ho : ok4 (m, p, f, u)) (hQ : ∀ I', LedI I' a (n + 1) (insg g (m, p, f, u) (stp (fun z => decide (pk4 (m, p, f, u) < pk4 (g z))) n)) → (∀ x, x ≠ a → x ≠ a + 1 → I' x = I x) → Q none SH I' L R) : KK 1 mX2_add b ad [.ref (b + a), .int (nI m), .int (nI p), .int (nI f), .int (nI u)] I L R Q := by
  obtain ⟨hn, hn2, hrow⟩ := hL
  have ho2 := ho
  obtain ⟨hm, hp, hf1, hf2, hu⟩ := ho2
  have hm : m < 6 := hm
  have hp : p < 6 := hp
  have hu : u ≤ 20 := hu
  have hf2 : f ≤ u := hf2
  have hf : f ≤ 20 := by omega
  refine K.of (M := mX2_add) (lv := [some (.ref (b + a)), some (.int (nI m)), some (.int (nI p)), some (.int (nI f)), some (.int (nI u)), none, none]) (by decide) (Nat.le_of_ble_eq_true rfl) rfl ?_
  generalize hqe : ((m, p, f, u) : q4) = q at hQ ho
  have hqb : pk4 q < 2 ^ 31 := by obtain ⟨z1, z2, z3, z4, z5⟩ := ho; unfold pk4; omega
  have hgb : ∀ z, z < n → pk4 (g z) < 2 ^ 31 := fun z hz => by obtain ⟨z1, z2, z3, z4, z5⟩ := (hrow z hz).2; unfold pk4; omega
  have loop : ∀ (k : Nat) (J : HI), k ≤ n → stp (fun z => decide (pk4 q < pk4 (g z))) k = stp (fun z => decide (pk4 q < pk4 (g z))) n → (∀ z, z < k → J (a + 1) z = I (a + 1) z) → (∀ z, k < z → z ≤ n → J (a + 1) z = I (a + 1) (z - 1)) → (∀ x, x ≠ a + 1 → J x = I x) → VV yX2_add cX2_add 7 none 1 Q b ad 32 [some (.ref (b + a)), some (.int (nI m)), some (.int (nI p)), some (.int (nI f)), some (.int (nI u)), some (.int (nI (pk4 q))), some (.int (nI k))] [] J L R := by
    intro k
    induction k with
    | zero =>
      intro J hkn hst hJ1 hJ2 hJ3
      obtain ⟨k, hk0⟩ : ∃ k : Nat, k = 0 := ⟨0, rfl⟩
      rw [← hk0] at hst hJ1 hJ2 ⊢
      refine v_iload_6 dX2_add_32 ?_
      refine v_if_le (tgt := 73) dX2_add_34 (by decide) (fun hc34 => ?_) (fun hc34 => ?_)
      · (first | rw [show (0 : Int32) = nI 0 from rfl, nI_ltI (by omega) (by omega)] at hc34 | rw [show (0 : Int32) = nI 0 from rfl, nI_leI (by omega) (by omega)] at hc34 | skip)
        refine v_aload_0 dX2_add_73 ?_
        refine u_getR dX2_add_74 gf_X2_9 (by first | assumption | exact led_1 (by assumption) | exact led_2 (by assumption) | exact bk_m (by assumption) (by first | assumption | omega) | exact bk_p (by assumption) (by first | assumption | omega) | exact bk_o (by assumption) (by first | assumption | omega) | exact bk_s (by assumption) (by first | assumption | omega) | exact bk_1 (by assumption) | exact bk_2 (by assumption) | exact bk_3 (by assumption) | exact bk_4 (by assumption) | exact bk_5 (by assumption) | exact bk_6 (by assumption) | exact bk_7 (by assumption) | exact bk_8 (by assumption) | rfl) (ro_X2_1 (by assumption) (by assumption)) ?_
        refine v_iload_6 dX2_add_77 ?_
        refine v_iload_5 dX2_add_79 ?_
        refine u_iast dX2_add_81 (by first | assumption | exact led_1 (by assumption) | exact led_2 (by assumption) | exact bk_m (by assumption) (by first | assumption | omega) | exact bk_p (by assumption) (by first | assumption | omega) | exact bk_o (by assumption) (by first | assumption | omega) | exact bk_s (by assumption) (by first | assumption | omega) | exact bk_1 (by assumption) | exact bk_2 (by assumption) | exact bk_3 (by assumption) | exact bk_4 (by assumption) | exact bk_5 (by assumption) | exact bk_6 (by assumption) | exact bk_7 (by assumption) | exact bk_8 (by assumption) | rfl) (by first | rfl | (simp only [nlit, nI_add, pk_mul]; rfl)) (by first | assumption | omega) (by first | assumption | decide) ?_
        refine v_aload_0 dX2_add_82 ?_
        refine v_dup dX2_add_83 rfl ?_
        refine u_getI dX2_add_84 gf_X2_18 (by first | assumption | exact led_1 (by assumption) | exact led_2 (by assumption) | exact bk_m (by assumption) (by first | assumption | omega) | exact bk_p (by assumption) (by first | assumption | omega) | exact bk_o (by assumption) (by first | assumption | omega) | exact bk_s (by assumption) (by first | assumption | omega) | exact bk_1 (by assumption) | exact bk_2 (by assumption) | exact bk_3 (by assumption) | exact bk_4 (by assumption) | exact bk_5 (by assumption) | exact bk_6 (by assumption) | exact bk_7 (by assumption) | exact bk_8 (by assumption) | rfl) ?_
        rw [ui_ne (by omega), hJ3 a (by omega)]
        refine v_iconst (v := nI 1) dX2_add_87 (by decide) ?_
        refine v_iadd dX2_add_88 ?_
        refine u_putI dX2_add_89 gf_X2_18 (by first | assumption | exact led_1 (by assumption) | exact led_2 (by assumption) | exact bk_m (by assumption) (by first | assumption | omega) | exact bk_p (by assumption) (by first | assumption | omega) | exact bk_o (by assumption) (by first | assumption | omega) | exact bk_s (by assumption) (by first | assumption | omega) | exact bk_1 (by assumption) | exact bk_2 (by assumption) | exact bk_3 (by assumption) | exact bk_4 (by assumption) | exact bk_5 (by assumption) | exact bk_6 (by assumption) | exact bk_7 (by assumption) | exact bk_8 (by assumption) | rfl) rfl rfl rfl ?_
        refine v_vret dX2_add_92 rfl rfl rfl rfl ?_
        have ek : k = stp (fun z => decide (pk4 q < pk4 (g z))) n := by rw [← hst]; rw [hk0]; rfl
        refine hQ _ ⟨?_, by omega, ?_⟩ ?_
        · rw [ui_s, hn, nI_add]
        · intro z hz; rw [ui_ne (by omega), ← ek]; simp only [insg]
          by_cases e1 : z < k
          · rw [if_pos e1, ui_o (by omega), hJ1 z e1]; exact hrow z (by omega)
          · rw [if_neg e1]
            by_cases e2 : z = k
            · subst e2; rw [if_pos rfl, ui_s]; exact ⟨rfl, ho⟩
            · rw [if_neg e2, ui_o e2, hJ2 z (by omega) (by omega)]; exact hrow (z - 1) (by omega)
        · intro x h1 h2; rw [ui_ne h1, ui_ne h2]; exact hJ3 x h2
      · (first | rw [show (0 : Int32) = nI 0 from rfl, nI_ltI (by omega) (by omega)] at hc34 | rw [show (0 : Int32) = nI 0 from rfl, nI_leI (by omega) (by omega)] at hc34 | skip)
        exfalso; omega
    | succ k ih =>
      intro J hkn hst hJ1 hJ2 hJ3
      have hgk := hgb k (by omega)
      refine v_iload_6 dX2_add_32 ?_
      refine v_if_le (tgt := 73) dX2_add_34 (by decide) (fun hc34 => absurd hc34 (nI_nle (by omega) (by omega))) (fun hc34 => ?_)
      skip
      refine v_aload_0 dX2_add_37 ?_
      refine u_getR dX2_add_38 gf_X2_9 (by first | assumption | exact led_1 (by assumption) | exact led_2 (by assumption) | exact bk_m (by assumption) (by first | assumption | omega) | exact bk_p (by assumption) (by first | assumption | omega) | exact bk_o (by assumption) (by first | assumption | omega) | exact bk_s (by assumption) (by first | assumption | omega) | exact bk_1 (by assumption) | exact bk_2 (by assumption) | exact bk_3 (by assumption) | exact bk_4 (by assumption) | exact bk_5 (by assumption) | exact bk_6 (by assumption) | exact bk_7 (by assumption) | exact bk_8 (by assumption) | rfl) (ro_X2_1 (by assumption) (by assumption)) ?_
      refine v_iload_6 dX2_add_41 ?_
      refine v_iconst (v := nI 1) dX2_add_43 (by decide) ?_
      refine v_isub dX2_add_44 ?_
      rw [pk_sub (by omega), Nat.add_sub_cancel]
      refine u_iald dX2_add_45 (by first | assumption | exact led_1 (by assumption) | exact led_2 (by assumption) | exact bk_m (by assumption) (by first | assumption | omega) | exact bk_p (by assumption) (by first | assumption | omega) | exact bk_o (by assumption) (by first | assumption | omega) | exact bk_s (by assumption) (by first | assumption | omega) | exact bk_1 (by assumption) | exact bk_2 (by assumption) | exact bk_3 (by assumption) | exact bk_4 (by assumption) | exact bk_5 (by assumption) | exact bk_6 (by assumption) | exact bk_7 (by assumption) | exact bk_8 (by assumption) | rfl) (by first | rfl | (simp only [nlit, nI_add, pk_mul]; rfl)) (by first | assumption | omega) (by first | assumption | decide) ?_
      rw [hJ1 k (by omega), (hrow k (by omega)).1]
      refine v_iload_5 dX2_add_46 ?_
      refine v_icmp_le (tgt := 73) dX2_add_48 (by decide) (fun hc48 => ?_) (fun hc48 => ?_)
      · (try rw [nI_leI (by omega) (by omega)] at hc48)
        refine v_aload_0 dX2_add_73 ?_
        refine u_getR dX2_add_74 gf_X2_9 (by first | assumption | exact led_1 (by assumption) | exact led_2 (by assumption) | exact bk_m (by assumption) (by first | assumption | omega) | exact bk_p (by assumption) (by first | assumption | omega) | exact bk_o (by assumption) (by first | assumption | omega) | exact bk_s (by assumption) (by first | assumption | omega) | exact bk_1 (by assumption) | exact bk_2 (by assumption) | exact bk_3 (by assumption) | exact bk_4 (by assumption) | exact bk_5 (by assumption) | exact bk_6 (by assumption) | exact bk_7 (by assumption) | exact bk_8 (by assumption) | rfl) (ro_X2_1 (by assumption) (by assumption)) ?_
        refine v_iload_6 dX2_add_77 ?_
        refine v_iload_5 dX2_add_79 ?_
        refine u_iast dX2_add_81 (by first | assumption | exact led_1 (by assumption) | exact led_2 (by assumption) | exact bk_m (by assumption) (by first | assumption | omega) | exact bk_p (by assumption) (by first | assumption | omega) | exact bk_o (by assumption) (by first | assumption | omega) | exact bk_s (by assumption) (by first | assumption | omega) | exact bk_1 (by assumption) | exact bk_2 (by assumption) | exact bk_3 (by assumption) | exact bk_4 (by assumption) | exact bk_5 (by assumption) | exact bk_6 (by assumption) | exact bk_7 (by assumption) | exact bk_8 (by assumption) | rfl) (by first | rfl | (simp only [nlit, nI_add, pk_mul]; rfl)) (by first | assumption | omega) (by first | assumption | decide) ?_
        refine v_aload_0 dX2_add_82 ?_
        refine v_dup dX2_add_83 rfl ?_
        refine u_getI dX2_add_84 gf_X2_18 (by first | assumption | exact led_1 (by assumption) | exact led_2 (by assumption) | exact bk_m (by assumption) (by first | assumption | omega) | exact bk_p (by assumption) (by first | assumption | omega) | exact bk_o (by assumption) (by first | assumption | omega) | exact bk_s (by assumption) (by first | assumption | omega) | exact bk_1 (by assumption) | exact bk_2 (by assumption) | exact bk_3 (by assumption) | exact bk_4 (by assumption) | exact bk_5 (by assumption) | exact bk_6 (by assumption) | exact bk_7 (by assumption) | exact bk_8 (by assumption) | rfl) ?_
        rw [ui_ne (by omega), hJ3 a (by omega)]
        refine v_iconst (v := nI 1) dX2_add_87 (by decide) ?_
        refine v_iadd dX2_add_88 ?_
        refine u_putI dX2_add_89 gf_X2_18 (by first | assumption | exact led_1 (by assumption) | exact led_2 (by assumption) | exact bk_m (by assumption) (by first | assumption | omega) | exact bk_p (by assumption) (by first | assumption | omega) | exact bk_o (by assumption) (by first | assumption | omega) | exact bk_s (by assumption) (by first | assumption | omega) | exact bk_1 (by assumption) | exact bk_2 (by assumption) | exact bk_3 (by assumption) | exact bk_4 (by assumption) | exact bk_5 (by assumption) | exact bk_6 (by assumption) | exact bk_7 (by assumption) | exact bk_8 (by assumption) | rfl) rfl rfl rfl ?_
        refine v_vret dX2_add_92 rfl rfl rfl rfl ?_
        have ek : k + 1 = stp (fun z => decide (pk4 q < pk4 (g z))) n := by rw [← hst]; simp only [stp]; rw [if_neg (by simp; omega)]
        refine hQ _ ⟨?_, by omega, ?_⟩ ?_
        · rw [ui_s, hn, nI_add]
        · intro z hz; rw [ui_ne (by omega), ← ek]; simp only [insg]
          by_cases e1 : z < k + 1
          · rw [if_pos e1, ui_o (by omega), hJ1 z e1]; exact hrow z (by omega)
          · rw [if_neg e1]
            by_cases e2 : z = k + 1
            · subst e2; rw [if_pos rfl, ui_s]; exact ⟨rfl, ho⟩
            · rw [if_neg e2, ui_o e2, hJ2 z (by omega) (by omega)]; exact hrow (z - 1) (by omega)
        · intro x h1 h2; rw [ui_ne h1, ui_ne h2]; exact hJ3 x h2
      · (try rw [nI_leI (by omega) (by omega)] at hc48)
        refine v_aload_0 dX2_add_51 ?_
        refine u_getR dX2_add_52 gf_X2_9 (by first | assumption | exact led_1 (by assumption) | exact led_2 (by assumption) | exact bk_m (by assumption) (by first | assumption | omega) | exact bk_p (by assumption) (by first | assumption | omega) | exact bk_o (by assumption) (by first | assumption | omega) | exact bk_s (by assumption) (by first | assumption | omega) | exact bk_1 (by assumption) | exact bk_2 (by assumption) | exact bk_3 (by assumption) | exact bk_4 (by assumption) | exact bk_5 (by assumption) | exact bk_6 (by assumption) | exact bk_7 (by assumption) | exact bk_8 (by assumption) | rfl) (ro_X2_1 (by assumption) (by assumption)) ?_
        refine v_iload_6 dX2_add_55 ?_
        refine v_aload_0 dX2_add_57 ?_
        refine u_getR dX2_add_58 gf_X2_9 (by first | assumption | exact led_1 (by assumption) | exact led_2 (by assumption) | exact bk_m (by assumption) (by first | assumption | omega) | exact bk_p (by assumption) (by first | assumption | omega) | exact bk_o (by assumption) (by first | assumption | omega) | exact bk_s (by assumption) (by first | assumption | omega) | exact bk_1 (by assumption) | exact bk_2 (by assumption) | exact bk_3 (by assumption) | exact bk_4 (by assumption) | exact bk_5 (by assumption) | exact bk_6 (by assumption) | exact bk_7 (by assumption) | exact bk_8 (by assumption) | rfl) (ro_X2_1 (by assumption) (by assumption)) ?_
        refine v_iload_6 dX2_add_61 ?_
        refine v_iconst (v := nI 1) dX2_add_63 (by decide) ?_
        refine v_isub dX2_add_64 ?_
        rw [pk_sub (by omega), Nat.add_sub_cancel]
        refine u_iald dX2_add_65 (by first | assumption | exact led_1 (by assumption) | exact led_2 (by assumption) | exact bk_m (by assumption) (by first | assumption | omega) | exact bk_p (by assumption) (by first | assumption | omega) | exact bk_o (by assumption) (by first | assumption | omega) | exact bk_s (by assumption) (by first | assumption | omega) | exact bk_1 (by assumption) | exact bk_2 (by assumption) | exact bk_3 (by assumption) | exact bk_4 (by assumption) | exact bk_5 (by assumption) | exact bk_6 (by assumption) | exact bk_7 (by assumption) | exact bk_8 (by assumption) | rfl) (by first | rfl | (simp only [nlit, nI_add, pk_mul]; rfl)) (by first | assumption | omega) (by first | assumption | decide) ?_
        skip
        refine u_iast dX2_add_66 (by first | assumption | exact led_1 (by assumption) | exact led_2 (by assumption) | exact bk_m (by assumption) (by first | assumption | omega) | exact bk_p (by assumption) (by first | assumption | omega) | exact bk_o (by assumption) (by first | assumption | omega) | exact bk_s (by assumption) (by first | assumption | omega) | exact bk_1 (by assumption) | exact bk_2 (by assumption) | exact bk_3 (by assumption) | exact bk_4 (by assumption) | exact bk_5 (by assumption) | exact bk_6 (by assumption) | exact bk_7 (by assumption) | exact bk_8 (by assumption) | rfl) (by first | rfl | (simp only [nlit, nI_add, pk_mul]; rfl)) (by first | assumption | omega) (by first | assumption | decide) ?_
        refine v_iinc_6 (v := -1) rfl dX2_add_67 (by decide) ?_
        rw [pk_m1]
        refine v_goto (tgt := 32) dX2_add_70 (by decide) ?_
        refine ih _ (by omega) (by rw [← hst]; simp only [stp]; rw [if_pos (by simp; omega)]) ?_ ?_ ?_
        · intro z hz; rw [ui_o (by omega)]; exact hJ1 z (by omega)
        · intro z h1 h2; by_cases e : z = k + 1
          · subst e; rw [ui_s, hJ1 k (by omega), Nat.add_sub_cancel]
          · rw [ui_o e]; exact hJ2 z (by omega) h2
        · intro x hx; rw [ui_ne hx]; exact hJ3 x hx
  refine v_aload_0 dX2_add_0 ?_
  refine u_callV_0 dX2_add_1 ml_X2_55 mv_X2_isFull (by first | assumption | exact led_1 (by assumption) | exact led_2 (by assumption) | exact bk_m (by assumption) (by first | assumption | omega) | exact bk_p (by assumption) (by first | assumption | omega) | exact bk_o (by assumption) (by first | assumption | omega) | exact bk_s (by assumption) (by first | assumption | omega) | exact bk_1 (by assumption) | exact bk_2 (by assumption) | exact bk_3 (by assumption) | exact bk_4 (by assumption) | exact bk_5 (by assumption) | exact bk_6 (by assumption) | exact bk_7 (by assumption) | exact bk_8 (by assumption) | rfl) (by decide) rfl (by decide) (Nat.le_of_ble_eq_true rfl) (c_X2_isFull ha hn (by omega) ?_)
  refine v_if_eq (tgt := 8) dX2_add_4 (by decide) (fun hc4 => ?_) (fun hc4 => ?_)
  · (first | rw [bI_0, Bool.not_eq_false] at hc4 | rw [bI_0] at hc4 | rw [show (0 : Int32) = nI 0 from rfl, nI_eq (by omega) (by omega)] at hc4 | skip)
    refine v_iload_1 dX2_add_8 ?_
    refine v_bipush (v := nI 15) dX2_add_9 (by decide) ?_
    refine v_ishl dX2_add_11 ?_
    refine v_iload_3 dX2_add_12 ?_
    refine v_bipush (v := nI 10) dX2_add_13 (by decide) ?_
    refine v_ishl dX2_add_15 ?_
    refine v_ior dX2_add_16 ?_
    refine v_iload_4 dX2_add_17 ?_
    refine v_iconst (v := nI 5) dX2_add_19 (by decide) ?_
    refine v_ishl dX2_add_20 ?_
    refine v_ior dX2_add_21 ?_
    refine v_iload_2 dX2_add_22 ?_
    refine v_ior dX2_add_23 ?_
    rw [pk4_mk hm hp hf hu, hqe]
    refine v_istore_5 rfl dX2_add_24 ?_
    refine v_aload_0 dX2_add_26 ?_
    refine u_getI dX2_add_27 gf_X2_18 (by first | assumption | exact led_1 (by assumption) | exact led_2 (by assumption) | exact bk_m (by assumption) (by first | assumption | omega) | exact bk_p (by assumption) (by first | assumption | omega) | exact bk_o (by assumption) (by first | assumption | omega) | exact bk_s (by assumption) (by first | assumption | omega) | exact bk_1 (by assumption) | exact bk_2 (by assumption) | exact bk_3 (by assumption) | exact bk_4 (by assumption) | exact bk_5 (by assumption) | exact bk_6 (by assumption) | exact bk_7 (by assumption) | exact bk_8 (by assumption) | rfl) ?_
    rw [hn]
    refine v_istore_6 rfl dX2_add_30 ?_
    exact loop n I (by omega) rfl (fun z _ => rfl) (fun z h1 h2 => by omega) (fun x _ => rfl)
  · (first | rw [bI_0, Bool.not_eq_false] at hc4 | rw [bI_0] at hc4 | rw [show (0 : Int32) = nI 0 from rfl, nI_eq (by omega) (by omega)] at hc4 | skip)
    exfalso; simp at hc4; omega
end
