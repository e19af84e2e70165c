section
variable {b : Nat} {ad : Nat → Nat} {I : HI} {L : HL} {R : HR} {Q : QT} {a B n d : Nat} {F : bkF} {g : lends} {br : Nat → Nat} {pg : Nat → Bool} {c : Nat → Nat}
theorem c_X10_pairCount {pt : Nat → Nat} (hR : RO R) (hB : SH B = .inl 0) (hb : R 150 0 = some B) (hF : BkI I B F) (hO : FOK F) (hpt : ∀ p, p < F 3 → I 156 p = nI (pt p)) (h64 : ∀ p, pt p < 64) (hQ : Q (some (.int (nI (sun (fun p => bitc (pt p)) 0 (F 3) 0)))) SH I L R) : KK 1 mX10_pairCount b ad [.ref (b + 150)] I L R Q := by
  obtain ⟨k0, k1, k2, k3, k4, k5, k6, -⟩ := id hO
  refine K.of (M := mX10_pairCount) (lv := [some (.ref (b + 150)), none, none]) (by decide) (Nat.le_of_ble_eq_true rfl) rfl ?_
  have loop : ∀ (j p acc : Nat), p + j = F 3 → Q (some (.int (nI (sun (fun p => bitc (pt p)) p j acc)))) SH I L R → VV yX10_pairCount cX10_pairCount 3 (some .int) 1 Q b ad 4 [some (.ref (b + 150)), some (.int (nI acc)), some (.int (nI p))] [] I L R := by
    intro j
    induction j with
    | zero =>
      intro p acc hij hQ
      refine v_iload_2 dX10_pairCount_4 ?_
      refine v_aload_0 dX10_pairCount_5 ?_
      refine u_getR dX10_pairCount_6 gf_X10_31 (by first | assumption | rfl | exact led_1 (by assumption) | exact led_2 (by assumption) | exact bk_m (by assumption) (by first | assumption | omega) | exact bk_p (by assumption) (by first | assumption | omega) | exact bk_o (by assumption) (by first | assumption | omega) | exact bk_s (by assumption) (by first | assumption | omega) | exact bk_1 (by assumption) | exact bk_2 (by assumption) | exact bk_3 (by assumption) | exact bk_4 (by assumption) | exact bk_5 (by assumption) | exact bk_6 (by assumption) | exact bk_7 (by assumption) | exact bk_8 (by assumption) | exact sh_ring _ (by first | assumption | omega) | exact sh_imgs _ (by first | assumption | omega)) (by assumption) ?_
      refine u_getI dX10_pairCount_9 gf_X10_90 (by first | assumption | rfl | exact led_1 (by assumption) | exact led_2 (by assumption) | exact bk_m (by assumption) (by first | assumption | omega) | exact bk_p (by assumption) (by first | assumption | omega) | exact bk_o (by assumption) (by first | assumption | omega) | exact bk_s (by assumption) (by first | assumption | omega) | exact bk_1 (by assumption) | exact bk_2 (by assumption) | exact bk_3 (by assumption) | exact bk_4 (by assumption) | exact bk_5 (by assumption) | exact bk_6 (by assumption) | exact bk_7 (by assumption) | exact bk_8 (by assumption) | exact sh_ring _ (by first | assumption | omega) | exact sh_imgs _ (by first | assumption | omega)) ?_
      (try rw [bx3 hF])
      refine v_icmp_ge (tgt := 33) dX10_pairCount_12 (by decide) (fun hc12 => ?_) (fun hc12 => ?_)
      · (try rw [nI_leI (by omega) (by omega)] at hc12)
        refine v_iload_1 dX10_pairCount_33 ?_
        refine v_iret dX10_pairCount_34 rfl rfl rfl rfl ?_
        exact hQ
      · (try rw [nI_leI (by omega) (by omega)] at hc12)
        exfalso; omega
    | succ j ih =>
      intro p acc hij hQ
      refine v_iload_2 dX10_pairCount_4 ?_
      refine v_aload_0 dX10_pairCount_5 ?_
      refine u_getR dX10_pairCount_6 gf_X10_31 (by first | assumption | rfl | exact led_1 (by assumption) | exact led_2 (by assumption) | exact bk_m (by assumption) (by first | assumption | omega) | exact bk_p (by assumption) (by first | assumption | omega) | exact bk_o (by assumption) (by first | assumption | omega) | exact bk_s (by assumption) (by first | assumption | omega) | exact bk_1 (by assumption) | exact bk_2 (by assumption) | exact bk_3 (by assumption) | exact bk_4 (by assumption) | exact bk_5 (by assumption) | exact bk_6 (by assumption) | exact bk_7 (by assumption) | exact bk_8 (by assumption) | exact sh_ring _ (by first | assumption | omega) | exact sh_imgs _ (by first | assumption | omega)) (by assumption) ?_
      refine u_getI dX10_pairCount_9 gf_X10_90 (by first | assumption | rfl | exact led_1 (by assumption) | exact led_2 (by assumption) | exact bk_m (by assumption) (by first | assumption | omega) | exact bk_p (by assumption) (by first | assumption | omega) | exact bk_o (by assumption) (by first | assumption | omega) | exact bk_s (by assumption) (by first | assumption | omega) | exact bk_1 (by assumption) | exact bk_2 (by assumption) | exact bk_3 (by assumption) | exact bk_4 (by assumption) | exact bk_5 (by assumption) | exact bk_6 (by assumption) | exact bk_7 (by assumption) | exact bk_8 (by assumption) | exact sh_ring _ (by first | assumption | omega) | exact sh_imgs _ (by first | assumption | omega)) ?_
      (try rw [bx3 hF])
      refine v_icmp_ge (tgt := 33) dX10_pairCount_12 (by decide) (fun hc12 => ?_) (fun hc12 => ?_)
      · (try rw [nI_leI (by omega) (by omega)] at hc12)
        exfalso; omega
      · (try rw [nI_leI (by omega) (by omega)] at hc12)
        refine v_iload_1 dX10_pairCount_15 ?_
        refine v_aload_0 dX10_pairCount_16 ?_
        refine u_getR dX10_pairCount_17 gf_X10_28 (by first | assumption | rfl | exact led_1 (by assumption) | exact led_2 (by assumption) | exact bk_m (by assumption) (by first | assumption | omega) | exact bk_p (by assumption) (by first | assumption | omega) | exact bk_o (by assumption) (by first | assumption | omega) | exact bk_s (by assumption) (by first | assumption | omega) | exact bk_1 (by assumption) | exact bk_2 (by assumption) | exact bk_3 (by assumption) | exact bk_4 (by assumption) | exact bk_5 (by assumption) | exact bk_6 (by assumption) | exact bk_7 (by assumption) | exact bk_8 (by assumption) | exact sh_ring _ (by first | assumption | omega) | exact sh_imgs _ (by first | assumption | omega)) (ro_X10_8 (by assumption)) ?_
        refine v_iload_2 dX10_pairCount_20 ?_
        refine u_iald dX10_pairCount_21 (by first | assumption | rfl | exact led_1 (by assumption) | exact led_2 (by assumption) | exact bk_m (by assumption) (by first | assumption | omega) | exact bk_p (by assumption) (by first | assumption | omega) | exact bk_o (by assumption) (by first | assumption | omega) | exact bk_s (by assumption) (by first | assumption | omega) | exact bk_1 (by assumption) | exact bk_2 (by assumption) | exact bk_3 (by assumption) | exact bk_4 (by assumption) | exact bk_5 (by assumption) | exact bk_6 (by assumption) | exact bk_7 (by assumption) | exact bk_8 (by assumption) | exact sh_ring _ (by first | assumption | omega) | exact sh_imgs _ (by first | assumption | omega)) (by first | with_reducible rfl | (simp only [nlit, nI_add, pk_mul]; with_reducible rfl) | rfl) (by first | assumption | omega) (by first | assumption | decide) ?_
        rw [hpt p (by omega)]
        refine u_callS_1 dX10_pairCount_22 ml_X10_51 ms_J6_bitCount_0f7a4 (by decide) (Nat.le_of_ble_eq_true rfl) (c_bitCount (by have := h64 p; omega) ?_)
        refine v_iadd dX10_pairCount_25 ?_
        rw [nI_add]
        refine v_istore_1 rfl dX10_pairCount_26 ?_
        refine v_iinc_2 (v := 1) rfl dX10_pairCount_27 (by decide) ?_
        refine v_goto (tgt := 4) dX10_pairCount_30 (by decide) ?_
        rw [← nI_succ]
        exact ih (p + 1) _ (by omega) (by simp only [sun] at hQ; exact hQ)
  refine v_iconst (v := nI 0) dX10_pairCount_0 (by decide) ?_
  refine v_istore_1 rfl dX10_pairCount_1 ?_
  refine v_iconst (v := nI 0) dX10_pairCount_2 (by decide) ?_
  refine v_istore_2 rfl dX10_pairCount_3 ?_
  exact loop (F 3) 0 0 (by omega) hQ
theorem opi_le {pt : Nat} : ∀ (j q i i2 N : Nat), opi pt q j i = .inr i2 → i < N → i2 < N
  | 0, _, i, i2, N, h, hi => by simp only [opi] at h; cases h; exact hi
  | j + 1, q, i, i2, N, h, hi => by
    simp only [opi] at h
    split at h
    · split at h
      · cases h
      · exact opi_le j _ _ _ N h (by omega)
    · exact opi_le j _ _ _ N h hi
theorem c_X10_ofPair {i0 : Nat} {sec : Bool} {pt : Nat → Nat} (hR : RO R) (hB : SH B = .inl 0) (hb : R 150 0 = some B) (hF : BkI I B F) (hO : FOK F) (hpt : ∀ p, p < F 3 → I 156 p = nI (pt p)) (h64 : ∀ p, pt p < 64) (hi0 : i0 < 2 ^ 30) (hQ : Q (some (.int (eQ sec (opo (F 3) pt 0 (F 3) i0)))) SH I L R) : KK 1 mX10_ofPair b ad [.ref (b + 150), .int (nI i0), .int (bI sec)] I L R Q := by
  obtain ⟨k0, k1, k2, k3, k4, k5, k6, -⟩ := id hO
  refine K.of (M := mX10_ofPair) (lv := [some (.ref (b + 150)), some (.int (nI i0)), some (.int (bI sec)), none, none, none]) (by decide) (Nat.le_of_ble_eq_true rfl) rfl ?_
  have inner : ∀ (p : Nat), p < F 3 → ∀ (j q i : Nat), q + j = F 3 → i < 2 ^ 30 → (∀ z, opi (pt p) q j i = .inl z → Q (some (.int (eQ sec (some (p, z))))) SH I L R) → (∀ i2, opi (pt p) q j i = .inr i2 → ∀ z5, VV yX10_ofPair cX10_ofPair 6 (some .int) 1 Q b ad 72 [some (.ref (b + 150)), some (.int (nI i0)), some (.int (bI sec)), some (.int (nI i2)), some (.int (nI p)), z5] [] I L R) → VV yX10_ofPair cX10_ofPair 6 (some .int) 1 Q b ad 20 [some (.ref (b + 150)), some (.int (nI i0)), some (.int (bI sec)), some (.int (nI i)), some (.int (nI p)), some (.int (nI q))] [] I L R := by
    intro p hp j
    induction j with
    | zero =>
      intro q i hij hi hq hk
      refine v_iload_5 dX10_ofPair_20 ?_
      refine v_aload_0 dX10_ofPair_22 ?_
      refine u_getR dX10_ofPair_23 gf_X10_31 (by first | assumption | rfl | exact led_1 (by assumption) | exact led_2 (by assumption) | exact bk_m (by assumption) (by first | assumption | omega) | exact bk_p (by assumption) (by first | assumption | omega) | exact bk_o (by assumption) (by first | assumption | omega) | exact bk_s (by assumption) (by first | assumption | omega) | exact bk_1 (by assumption) | exact bk_2 (by assumption) | exact bk_3 (by assumption) | exact bk_4 (by assumption) | exact bk_5 (by assumption) | exact bk_6 (by assumption) | exact bk_7 (by assumption) | exact bk_8 (by assumption) | exact sh_ring _ (by first | assumption | omega) | exact sh_imgs _ (by first | assumption | omega)) (by assumption) ?_
      refine u_getI dX10_ofPair_26 gf_X10_90 (by first | assumption | rfl | exact led_1 (by assumption) | exact led_2 (by assumption) | exact bk_m (by assumption) (by first | assumption | omega) | exact bk_p (by assumption) (by first | assumption | omega) | exact bk_o (by assumption) (by first | assumption | omega) | exact bk_s (by assumption) (by first | assumption | omega) | exact bk_1 (by assumption) | exact bk_2 (by assumption) | exact bk_3 (by assumption) | exact bk_4 (by assumption) | exact bk_5 (by assumption) | exact bk_6 (by assumption) | exact bk_7 (by assumption) | exact bk_8 (by assumption) | exact sh_ring _ (by first | assumption | omega) | exact sh_imgs _ (by first | assumption | omega)) ?_
      (try rw [bx3 hF])
      refine v_icmp_ge (tgt := 72) dX10_ofPair_29 (by decide) (fun hc29 => ?_) (fun hc29 => ?_)
      · (try rw [nI_leI (by omega) (by omega)] at hc29)
        exact hk i rfl _
      · (try rw [nI_leI (by omega) (by omega)] at hc29)
        exfalso; omega
    | succ j ih =>
      intro q i hij hi hq hk
      refine v_iload_5 dX10_ofPair_20 ?_
      refine v_aload_0 dX10_ofPair_22 ?_
      refine u_getR dX10_ofPair_23 gf_X10_31 (by first | assumption | rfl | exact led_1 (by assumption) | exact led_2 (by assumption) | exact bk_m (by assumption) (by first | assumption | omega) | exact bk_p (by assumption) (by first | assumption | omega) | exact bk_o (by assumption) (by first | assumption | omega) | exact bk_s (by assumption) (by first | assumption | omega) | exact bk_1 (by assumption) | exact bk_2 (by assumption) | exact bk_3 (by assumption) | exact bk_4 (by assumption) | exact bk_5 (by assumption) | exact bk_6 (by assumption) | exact bk_7 (by assumption) | exact bk_8 (by assumption) | exact sh_ring _ (by first | assumption | omega) | exact sh_imgs _ (by first | assumption | omega)) (by assumption) ?_
      refine u_getI dX10_ofPair_26 gf_X10_90 (by first | assumption | rfl | exact led_1 (by assumption) | exact led_2 (by assumption) | exact bk_m (by assumption) (by first | assumption | omega) | exact bk_p (by assumption) (by first | assumption | omega) | exact bk_o (by assumption) (by first | assumption | omega) | exact bk_s (by assumption) (by first | assumption | omega) | exact bk_1 (by assumption) | exact bk_2 (by assumption) | exact bk_3 (by assumption) | exact bk_4 (by assumption) | exact bk_5 (by assumption) | exact bk_6 (by assumption) | exact bk_7 (by assumption) | exact bk_8 (by assumption) | exact sh_ring _ (by first | assumption | omega) | exact sh_imgs _ (by first | assumption | omega)) ?_
      (try rw [bx3 hF])
      refine v_icmp_ge (tgt := 72) dX10_ofPair_29 (by decide) (fun hc29 => ?_) (fun hc29 => ?_)
      · (try rw [nI_leI (by omega) (by omega)] at hc29)
        exfalso; omega
      · (try rw [nI_leI (by omega) (by omega)] at hc29)
        refine v_aload_0 dX10_ofPair_32 ?_
        refine u_getR dX10_ofPair_33 gf_X10_28 (by first | assumption | rfl | exact led_1 (by assumption) | exact led_2 (by assumption) | exact bk_m (by assumption) (by first | assumption | omega) | exact bk_p (by assumption) (by first | assumption | omega) | exact bk_o (by assumption) (by first | assumption | omega) | exact bk_s (by assumption) (by first | assumption | omega) | exact bk_1 (by assumption) | exact bk_2 (by assumption) | exact bk_3 (by assumption) | exact bk_4 (by assumption) | exact bk_5 (by assumption) | exact bk_6 (by assumption) | exact bk_7 (by assumption) | exact bk_8 (by assumption) | exact sh_ring _ (by first | assumption | omega) | exact sh_imgs _ (by first | assumption | omega)) (ro_X10_8 (by assumption)) ?_
        refine v_iload_4 dX10_ofPair_36 ?_
        refine u_iald dX10_ofPair_38 (by first | assumption | rfl | exact led_1 (by assumption) | exact led_2 (by assumption) | exact bk_m (by assumption) (by first | assumption | omega) | exact bk_p (by assumption) (by first | assumption | omega) | exact bk_o (by assumption) (by first | assumption | omega) | exact bk_s (by assumption) (by first | assumption | omega) | exact bk_1 (by assumption) | exact bk_2 (by assumption) | exact bk_3 (by assumption) | exact bk_4 (by assumption) | exact bk_5 (by assumption) | exact bk_6 (by assumption) | exact bk_7 (by assumption) | exact bk_8 (by assumption) | exact sh_ring _ (by first | assumption | omega) | exact sh_imgs _ (by first | assumption | omega)) (by first | with_reducible rfl | (simp only [nlit, nI_add, pk_mul]; with_reducible rfl) | rfl) (by first | assumption | omega) (by first | assumption | decide) ?_
        rw [hpt p hp]
        refine v_iload_5 dX10_ofPair_39 ?_
        refine v_ishr dX10_ofPair_41 ?_
        refine v_iconst (v := nI 1) dX10_ofPair_42 (by decide) ?_
        refine v_iand dX10_ofPair_43 ?_
        rw [bit_b (by have := h64 p; omega) (by omega)]
        refine v_if_eq (tgt := 66) dX10_ofPair_44 (by decide) (fun hc44 => ?_) (fun hc44 => ?_)
        · (first | rw [bI_0, Bool.not_eq_false] at hc44 | rw [bI_0] at hc44 | rw [show (0 : Int32) = nI 0 from rfl, nI_eq (by omega) (by omega)] at hc44 | skip)
          refine v_iinc_5 (v := 1) rfl dX10_ofPair_66 (by decide) ?_
          refine v_goto (tgt := 20) dX10_ofPair_69 (by decide) ?_
          rw [← nI_succ]
          first
            | (have e : (pt p).testBit q = false := hc44; exact ih (q + 1) i (by omega) (by omega) (fun z h => hq z (by simp only [opi, e]; exact h)) (fun z h => hk z (by simp only [opi, e]; exact h)))
            | (have e : (pt p).testBit q = true := hc44; have e0 : ¬ i = 0 := hc48; rw [show nI i + -1 = nI (i - 1) from by rw [show i = i - 1 + 1 by omega, pk_m1, Nat.add_sub_cancel]]; exact ih (q + 1) (i - 1) (by omega) (by omega) (fun z h => hq z (by simp only [opi, e, if_neg e0, if_true]; exact h)) (fun z h => hk z (by simp only [opi, e, if_neg e0, if_true]; exact h)))
        · (first | rw [bI_0, Bool.not_eq_false] at hc44 | rw [bI_0] at hc44 | rw [show (0 : Int32) = nI 0 from rfl, nI_eq (by omega) (by omega)] at hc44 | skip)
          refine v_iload_3 dX10_ofPair_47 ?_
          refine v_if_ne (tgt := 63) dX10_ofPair_48 (by decide) (fun hc48 => ?_) (fun hc48 => ?_)
          · (first | rw [bI_0, Bool.not_eq_false] at hc48 | rw [bI_0] at hc48 | rw [show (0 : Int32) = nI 0 from rfl, nI_eq (by omega) (by omega)] at hc48 | skip)
            refine v_iinc_3 (v := -1) rfl dX10_ofPair_63 (by decide) ?_
            refine v_iinc_5 (v := 1) rfl dX10_ofPair_66 (by decide) ?_
            refine v_goto (tgt := 20) dX10_ofPair_69 (by decide) ?_
            rw [← nI_succ]
            first
              | (have e : (pt p).testBit q = false := hc44; exact ih (q + 1) i (by omega) (by omega) (fun z h => hq z (by simp only [opi, e]; exact h)) (fun z h => hk z (by simp only [opi, e]; exact h)))
              | (have e : (pt p).testBit q = true := hc44; have e0 : ¬ i = 0 := hc48; rw [show nI i + -1 = nI (i - 1) from by rw [show i = i - 1 + 1 by omega, pk_m1, Nat.add_sub_cancel]]; exact ih (q + 1) (i - 1) (by omega) (by omega) (fun z h => hq z (by simp only [opi, e, if_neg e0, if_true]; exact h)) (fun z h => hk z (by simp only [opi, e, if_neg e0, if_true]; exact h)))
          · (first | rw [bI_0, Bool.not_eq_false] at hc48 | rw [bI_0] at hc48 | rw [show (0 : Int32) = nI 0 from rfl, nI_eq (by omega) (by omega)] at hc48 | skip)
            refine v_iload_2 dX10_ofPair_51 ?_
            refine v_if_eq (tgt := 60) dX10_ofPair_52 (by decide) (fun hc52 => ?_) (fun hc52 => ?_)
            · (first | rw [bI_0, Bool.not_eq_false] at hc52 | rw [bI_0] at hc52 | rw [show (0 : Int32) = nI 0 from rfl, nI_eq (by omega) (by omega)] at hc52 | skip)
              refine v_iload_4 dX10_ofPair_60 ?_
              refine v_iret dX10_ofPair_62 rfl rfl rfl rfl ?_
              have e : (pt p).testBit q = true := hc44
              have e0 : i = 0 := hc48
              first
                | (have es : sec = false := hc52; have h := hq q (by simp only [opi, e, e0, if_true]); simp only [eQ, es] at h; exact h)
                | (have es : sec = true := hc52; have h := hq q (by simp only [opi, e, e0, if_true]); simp only [eQ, es, if_true] at h; exact h)
            · (first | rw [bI_0, Bool.not_eq_false] at hc52 | rw [bI_0] at hc52 | rw [show (0 : Int32) = nI 0 from rfl, nI_eq (by omega) (by omega)] at hc52 | skip)
              refine v_iload_5 dX10_ofPair_55 ?_
              refine v_goto (tgt := 62) dX10_ofPair_57 (by decide) ?_
              refine v_iret dX10_ofPair_62 rfl rfl rfl rfl ?_
              have e : (pt p).testBit q = true := hc44
              have e0 : i = 0 := hc48
              first
                | (have es : sec = false := hc52; have h := hq q (by simp only [opi, e, e0, if_true]); simp only [eQ, es] at h; exact h)
                | (have es : sec = true := hc52; have h := hq q (by simp only [opi, e, e0, if_true]); simp only [eQ, es, if_true] at h; exact h)
  have outer : ∀ (j p i : Nat) (z5 : Option Value), p + j = F 3 → i < 2 ^ 30 → Q (some (.int (eQ sec (opo (F 3) pt p j i)))) SH I L R → VV yX10_ofPair cX10_ofPair 6 (some .int) 1 Q b ad 5 [some (.ref (b + 150)), some (.int (nI i0)), some (.int (bI sec)), some (.int (nI i)), some (.int (nI p)), z5] [] I L R := by
    intro j
    induction j with
    | zero =>
      intro p i z5 hij hi hQ
      refine v_iload_4 dX10_ofPair_5 ?_
      refine v_aload_0 dX10_ofPair_7 ?_
      refine u_getR dX10_ofPair_8 gf_X10_31 (by first | assumption | rfl | exact led_1 (by assumption) | exact led_2 (by assumption) | exact bk_m (by assumption) (by first | assumption | omega) | exact bk_p (by assumption) (by first | assumption | omega) | exact bk_o (by assumption) (by first | assumption | omega) | exact bk_s (by assumption) (by first | assumption | omega) | exact bk_1 (by assumption) | exact bk_2 (by assumption) | exact bk_3 (by assumption) | exact bk_4 (by assumption) | exact bk_5 (by assumption) | exact bk_6 (by assumption) | exact bk_7 (by assumption) | exact bk_8 (by assumption) | exact sh_ring _ (by first | assumption | omega) | exact sh_imgs _ (by first | assumption | omega)) (by assumption) ?_
      refine u_getI dX10_ofPair_11 gf_X10_90 (by first | assumption | rfl | exact led_1 (by assumption) | exact led_2 (by assumption) | exact bk_m (by assumption) (by first | assumption | omega) | exact bk_p (by assumption) (by first | assumption | omega) | exact bk_o (by assumption) (by first | assumption | omega) | exact bk_s (by assumption) (by first | assumption | omega) | exact bk_1 (by assumption) | exact bk_2 (by assumption) | exact bk_3 (by assumption) | exact bk_4 (by assumption) | exact bk_5 (by assumption) | exact bk_6 (by assumption) | exact bk_7 (by assumption) | exact bk_8 (by assumption) | exact sh_ring _ (by first | assumption | omega) | exact sh_imgs _ (by first | assumption | omega)) ?_
      (try rw [bx3 hF])
      refine v_icmp_ge (tgt := 78) dX10_ofPair_14 (by decide) (fun hc14 => ?_) (fun hc14 => ?_)
      · (try rw [nI_leI (by omega) (by omega)] at hc14)
        refine v_iconst (v := -1) dX10_ofPair_78 (by decide) ?_
        refine v_iret dX10_ofPair_79 rfl rfl rfl rfl ?_
        exact hQ
      · (try rw [nI_leI (by omega) (by omega)] at hc14)
        exfalso; omega
    | succ j ih =>
      intro p i z5 hij hi hQ
      refine v_iload_4 dX10_ofPair_5 ?_
      refine v_aload_0 dX10_ofPair_7 ?_
      refine u_getR dX10_ofPair_8 gf_X10_31 (by first | assumption | rfl | exact led_1 (by assumption) | exact led_2 (by assumption) | exact bk_m (by assumption) (by first | assumption | omega) | exact bk_p (by assumption) (by first | assumption | omega) | exact bk_o (by assumption) (by first | assumption | omega) | exact bk_s (by assumption) (by first | assumption | omega) | exact bk_1 (by assumption) | exact bk_2 (by assumption) | exact bk_3 (by assumption) | exact bk_4 (by assumption) | exact bk_5 (by assumption) | exact bk_6 (by assumption) | exact bk_7 (by assumption) | exact bk_8 (by assumption) | exact sh_ring _ (by first | assumption | omega) | exact sh_imgs _ (by first | assumption | omega)) (by assumption) ?_
      refine u_getI dX10_ofPair_11 gf_X10_90 (by first | assumption | rfl | exact led_1 (by assumption) | exact led_2 (by assumption) | exact bk_m (by assumption) (by first | assumption | omega) | exact bk_p (by assumption) (by first | assumption | omega) | exact bk_o (by assumption) (by first | assumption | omega) | exact bk_s (by assumption) (by first | assumption | omega) | exact bk_1 (by assumption) | exact bk_2 (by assumption) | exact bk_3 (by assumption) | exact bk_4 (by assumption) | exact bk_5 (by assumption) | exact bk_6 (by assumption) | exact bk_7 (by assumption) | exact bk_8 (by assumption) | exact sh_ring _ (by first | assumption | omega) | exact sh_imgs _ (by first | assumption | omega)) ?_
      (try rw [bx3 hF])
      refine v_icmp_ge (tgt := 78) dX10_ofPair_14 (by decide) (fun hc14 => ?_) (fun hc14 => ?_)
      · (try rw [nI_leI (by omega) (by omega)] at hc14)
        exfalso; omega
      · (try rw [nI_leI (by omega) (by omega)] at hc14)
        refine v_iconst (v := nI 0) dX10_ofPair_17 (by decide) ?_
        refine v_istore_5 rfl dX10_ofPair_18 ?_
        simp only [opo] at hQ
        refine inner p (by omega) (F 3) 0 i (by omega) hi (fun z h => ?_) (fun i2 h z5 => ?_)
        · rw [h] at hQ; exact hQ
        · rw [h] at hQ
          refine v_iinc_4 (v := 1) rfl dX10_ofPair_72 (by decide) ?_
          refine v_goto (tgt := 5) dX10_ofPair_75 (by decide) ?_
          rw [← nI_succ]
          exact ih (p + 1) i2 z5 (by omega) (opi_le _ _ _ _ _ h hi) hQ
  refine v_iload_1 dX10_ofPair_0 ?_
  refine v_istore_3 rfl dX10_ofPair_1 ?_
  refine v_iconst (v := nI 0) dX10_ofPair_2 (by decide) ?_
  refine v_istore_4 rfl dX10_ofPair_3 ?_
  exact outer (F 3) 0 i0 none (by omega) hi0 hQ
end
