theorem and63 (x : Int32) : ∃ k, k < 64 ∧ x &&& nI 63 = nI k := by
  refine ⟨(x.toBitVec &&& 63#32).toNat, ?_, ?_⟩
  · rw [BitVec.toNat_and]; exact Nat.lt_of_le_of_lt Nat.and_le_right (by decide)
  · apply Int32.toBitVec_inj.mp
    rw [Int32.toBitVec_and]
    show x.toBitVec &&& BitVec.ofNat 32 63 = BitVec.ofNat 32 _
    rw [BitVec.ofNat_toNat, BitVec.setWidth_eq]
theorem sh_b : ∀ a, a < 172 → SH a = .inl 0 → a = 2 ∨ a = 45 := by decide +kernel
theorem sh_l : ∀ a, a < 172 → SH a = .inl 2 → a = 10 ∨ a = 53 ∨ (97 ≤ a ∧ a < 136 ∧ (a - 97) % 3 = 0) ∨ (136 ≤ a ∧ a < 145 ∧ (a - 136) % 3 = 0) := by decide +kernel
/-- both objects, new: they tell the same -/
theorem lj_0 {I : HI} {L : HL} {R : HR} (h : ClsN I L R) (hz : Zr 157 I L R) : LJ (ui I 157 10 (-1)) L (ur (ur (ur (ur (ur (ur (ur (ur (ur (ur (ur (ur (ur R 157 1 (some 158)) 157 12 (some 159)) 157 15 (some 160)) 157 16 (some 161)) 157 17 (some 162)) 157 18 (some 163)) 157 19 (some 164)) 157 20 (some 165)) 157 21 (some 166)) 157 22 (some 167)) 157 26 (some 168)) 157 27 (some 169)) 157 32 (some 170)) := by
  obtain ⟨⟨k1, k2, k3⟩, r0, r88, r145, r150, ⟨i1, i2, i3, iz⟩, w⟩ := h
  have hp := inv_0 (sz := 0)
  have e : ∀ q, q ≠ 157 → (ur (ur (ur (ur (ur (ur (ur (ur (ur (ur (ur (ur (ur R 157 1 (some 158)) 157 12 (some 159)) 157 15 (some 160)) 157 16 (some 161)) 157 17 (some 162)) 157 18 (some 163)) 157 19 (some 164)) 157 20 (some 165)) 157 21 (some 166)) 157 22 (some 167)) 157 26 (some 168)) 157 27 (some 169)) 157 32 (some 170)) q = R q := fun q hq => by simp only [ur_ne hq]
  have z157 : I 157 = fun _ => 0 := (hz 157 (by decide)).1
  have zq : ∀ q, q ≠ 0 → q ≠ 88 → q ≠ 92 → q ≠ 157 → ui I 157 10 (-1) q = fun _ => 0 := fun q a1 a2 a3 a4 => by rw [ui_ne a4]; exact iz q a1 a2 a3
  have hRO : RO (ur (ur (ur (ur (ur (ur (ur (ur (ur (ur (ur (ur (ur R 157 1 (some 158)) 157 12 (some 159)) 157 15 (some 160)) 157 16 (some 161)) 157 17 (some 162)) 157 18 (some 163)) 157 19 (some 164)) 157 20 (some 165)) 157 21 (some 166)) 157 22 (some 167)) 157 26 (some 168)) 157 27 (some 169)) 157 32 (some 170)) := by
    refine ⟨fun a ha => ?_, fun a ha => ?_, ?_, ?_, ?_, ?_, ?_, ?_⟩
    · have ha2 := sh_lto ha
      rcases sh_l a ha2 ha with rfl | rfl | ⟨a1, a2, a3⟩ | ⟨a1, a2, a3⟩
      · rw [e 10 (by decide)]; exact k1.1.2
      · rw [e 53 (by decide)]; exact k2.1.2
      · obtain ⟨i, rfl, hi⟩ : ∃ i, a = 97 + 3 * i ∧ i < 13 := ⟨(a - 97) / 3, by omega, by omega⟩
        rw [e _ (by omega)]; exact (k3.2.1 i hi).2
      · obtain ⟨i, rfl, hi⟩ : ∃ i, a = 136 + 3 * i ∧ i < 3 := ⟨(a - 136) / 3, by omega, by omega⟩
        rw [e _ (by omega)]; exact (k3.2.2 i hi).2
    · have ha2 := sh_lto ha
      rcases sh_b a ha2 ha with rfl | rfl
      · rw [e 2 (by decide), e (2 + 1) (by decide), e (2 + 2) (by decide), e (2 + 3) (by decide), e (2 + 4) (by decide)]
        obtain ⟨⟨⟨b1, b2, b3, b4, b5, b6, b7, b8⟩, -⟩, c1, c2, c3, c4⟩ := k1
        exact ⟨b1, b2, b3, b4, b5, b6, b7, b8, c1, c2, c3, c4⟩
      · rw [e 45 (by decide), e (45 + 1) (by decide), e (45 + 2) (by decide), e (45 + 3) (by decide), e (45 + 4) (by decide)]
        obtain ⟨⟨⟨b1, b2, b3, b4, b5, b6, b7, b8⟩, -⟩, c1, c2, c3, c4⟩ := k2
        exact ⟨b1, b2, b3, b4, b5, b6, b7, b8, c1, c2, c3, c4⟩
    · rw [e 0 (by decide)]; exact ⟨r0.1, r0.2.2.2.1, r0.2.2.2.2.1, r0.2.2.2.2.2.1, r0.2.2.2.2.2.2⟩
    · rw [e 88 (by decide)]; exact r88
    · rw [e 94 (by decide), e 95 (by decide), e 96 (by decide)]
      exact ⟨k3.1.1, k3.1.2, fun i hi => (k3.2.1 i hi).1, fun i hi => (k3.2.2 i hi).1⟩
    · rw [e 145 (by decide)]; exact r145
    · rw [e 150 (by decide)]; exact r150
    · simp [ur, va_up]
  have z94 := zq 94 (by decide) (by decide) (by decide) (by decide)
  have zL : ∀ a, 97 ≤ a → a < 145 → LDI (ui I 157 10 (-1)) a 0 (fun _ => (0, 0, 0, 0)) (fun _ => 0) := fun a a1 a2 => by
    refine ⟨⟨by rw [zq a (by omega) (by omega) (by omega) (by omega)]; rfl, by decide, fun i hi => absurd hi (Nat.not_lt_zero i)⟩, ?_⟩
    unfold BrI
    intro p hp
    rw [zq (a + 2) (by omega) (by omega) (by omega) (by omega)]
    exact ⟨rfl, (by decide : 0 < 2097152)⟩
  have z2 := zq 2 (by decide) (by decide) (by decide) (by decide)
  have zs : ∀ a o, a ≠ 0 → a ≠ 88 → a ≠ 92 → a ≠ 157 → StI (ui I 157 10 (-1)) a o ps0.2.2 := fun a o a1 a2 a3 a4 => by
    refine ⟨by rw [zq a a1 a2 a3 a4]; rfl, fun i hi => absurd hi (Nat.not_lt_zero i), fun p hp => by rw [zq a a1 a2 a3 a4]; rfl⟩
  have y157 : ∀ j, j ≠ 10 → ui I 157 10 (-1) 157 j = nI 0 := fun j hj => by rw [ui_o hj, z157]; rfl
  refine ⟨2, 45, 0, fun _ => 0, 0, 0, 0, 0, ps0.2.1, fun _ => ps0.2.2, 0, 0, fun _ => ps0.2.2, 0, ?_, ?_⟩
  · refine ⟨hRO, ⟨by rw [e 0 (by decide)]; exact r0.2.1, by rw [e 0 (by decide)]; exact r0.2.2.1, rfl, rfl, by decide⟩, ⟨by rw [ui_ne (by decide)]; exact i1, by decide, fun i hi => absurd hi (Nat.not_lt_zero i)⟩, ⟨by rw [ui_ne (by decide)]; exact i2, by decide, by rw [ui_ne (by decide)]; exact i3, by decide, fun q => absurd q (by decide)⟩, ⟨?_, hp.2.1, fun _ => ⟨rfl, rfl, rfl, rfl, rfl, rfl⟩⟩, ⟨by rw [z94]; rfl, by decide, by rw [z94]; rfl, by rw [z94]; rfl, by decide, fun k hk => ⟨?_, hp.2.2.2.2.2.1⟩⟩, ⟨by rw [z94]; rfl, by decide, fun c hc => absurd hc (Nat.not_lt_zero c)⟩, fun i hi => ?_⟩
    · exact ⟨fun j hj => by rw [z2]; rfl, fun m hm => absurd hm (Nat.not_lt_zero m), fun m hm => absurd hm (Nat.not_lt_zero m), fun m hm => absurd hm (Nat.not_lt_zero m), fun m hm => absurd hm (Nat.not_lt_zero m), fun m hm => absurd hm (Nat.not_lt_zero m)⟩
    · exact zL (ring 0 k) (by unfold ring; omega) (by unfold ring; omega)
    · rw [rsv_l64 hi, (rsv_wok i hi).2.2, ui_ne (by decide)]; exact w i hi
  · refine ⟨⟨y157 2 (by decide), by decide, fun i hi => absurd hi (Nat.not_lt_zero i)⟩, ⟨y157 11 (by decide), y157 9 (by decide), fun q => absurd q (by decide), by decide⟩, ⟨⟨⟨rfl, fun k hk => by rw [zq 160 (by decide) (by decide) (by decide) (by decide)]; rfl⟩, by rw [y157 14 (by decide)]; rfl, hp.2.1, fun _ => ⟨rfl, rfl, rfl, rfl, rfl, rfl⟩⟩, zs 162 0 (by decide) (by decide) (by decide) (by decide), hp.2.2.2.2.2.1⟩, ⟨y157 23 (by decide), y157 24 (by decide), by decide, fun j hj => absurd hj (Nat.not_lt_zero j), fun j hj => absurd hj (Nat.not_lt_zero j)⟩, ⟨y157 25 (by decide), by decide, fun c hc => absurd hc (Nat.not_lt_zero c)⟩, fun _ => ⟨rfl, rfl, rfl⟩⟩
section
variable {sb Ls b : Nat} {xs : Nat → Int32} {ad : Nat → Nat}
theorem l_law (hLs : Ls ≤ 3072) : ∀ (m n : Nat) (I : HI) (L : HL) (R : HR) (x5 x6 : Option Value), n + m = 512 → LJ I L R → VG yL_law cL_law 7 (some .boolean) room_1 (PW sb Ls b xs) b ad false (172 + n) (7753 + 6 * n) 23 [some (.ref sb), some (.ref (b + 0)), some (.ref (b + 157)), some (.ref (b + 171)), some (.int (nI (6 * n))), x5, x6] [] NN SH I L R := by
  intro m
  have over : ∀ (n : Nat) (I : HI) (L : HL) (R : HR) (x5 x6 : Option Value), n ≤ 512 → ¬ 6 * n + 6 ≤ Ls → VG yL_law cL_law 7 (some .boolean) room_1 (PW sb Ls b xs) b ad false (172 + n) (7753 + 6 * n) 23 [some (.ref sb), some (.ref (b + 0)), some (.ref (b + 157)), some (.ref (b + 171)), some (.int (nI (6 * n))), x5, x6] [] NN SH I L R := by
    intro n I L R x5 x6 h5 hlen
    refine g_iload_4 dL_law_23 ?_
    refine g_aload_0 dL_law_25 ?_
    refine g_slen dL_law_26 ?_
    refine g_bipush (v := nI 6) dL_law_27 (by decide) ?_
    refine g_isub dL_law_29 ?_
    rw [show nI Ls - nI 6 = zI ((Ls : Int) - 6) by rw [zI_nat, zI_nat, zI_sub]; rfl]
    refine g_icmp_gt (tgt := 1695) dL_law_30 (by decide) (fun hc30 => ?_) (fun hc30 => ?_)
    · refine g_iconst (v := 1) dL_law_1695 (by decide) ?_
      exact g_lret dL_law_1696 (by omega) (by omega)
    · exact absurd (by rw [zI_nat, zI_lt (by omega) (by omega) (by omega) (by omega)]; omega) hc30
  induction m with
  | zero =>
    intro n I L R x5 x6 hnm hJ
    exact over n I L R x5 x6 (by omega) (by omega)
  | succ m ih =>
    intro n I L R x5 x6 hnm hJ
    by_cases hlen : 6 * n + 6 ≤ Ls
    case neg => exact over n I L R x5 x6 (by omega) hlen
    have nxt : ∀ (I' : HI) (L' : HL) (R' : HR) (y5 y6 : Option Value), LJ I' L' R' → VG yL_law cL_law 7 (some .boolean) room_1 (PW sb Ls b xs) b ad false (172 + (n + 1)) (7753 + 6 * (n + 1)) 1689 [some (.ref sb), some (.ref (b + 0)), some (.ref (b + 157)), some (.ref (b + 171)), some (.int (nI (6 * n))), y5, y6] [] NN SH I' L' R' := by
      intro I' L' R' y5 y6 hJ'
      refine g_iinc_4 (v := 6) rfl dL_law_1689 (by decide) ?_
      rw [show nI (6 * n) + 6 = nI (6 * (n + 1)) by rw [show (6 : Int32) = nI 6 from rfl, nI_add]; congr 1]
      refine g_goto (tgt := 23) dL_law_1692 (by decide) ?_
      exact ih (n + 1) I' L' R' y5 y6 (by omega) hJ'
    obtain ⟨B, B2, t, tp, nt, tr, fa, pl, F, S, u, r, im, ic, h, hr⟩ := hJ
    obtain ⟨k, hk, ek⟩ := and63 (xs (6 * n))
    refine g_iload_4 dL_law_23 ?_
    refine g_aload_0 dL_law_25 ?_
    refine g_slen dL_law_26 ?_
    refine g_bipush (v := nI 6) dL_law_27 (by decide) ?_
    refine g_isub dL_law_29 ?_
    rw [show nI Ls - nI 6 = zI ((Ls : Int) - 6) by rw [zI_nat, zI_nat, zI_sub]; rfl]
    refine g_icmp_gt (tgt := 1695) dL_law_30 (by decide) (fun hc30 => ?_) (fun hc30 => ?_)
    · exfalso; rw [zI_nat, zI_lt (by omega) (by omega) (by omega) (by omega)] at hc30; omega
    · refine g_aload_0 dL_law_33 ?_
      refine g_iload_4 dL_law_34 ?_
      refine g_sld dL_law_36 (by omega) hLs ?_
      refine g_bipush (v := nI 63) dL_law_37 (by decide) ?_
      refine g_iand dL_law_39 ?_
      rw [ek]
      have hks : k = 0 ∨ k = 1 ∨ k = 2 ∨ k = 3 ∨ k = 4 ∨ k = 5 ∨ k = 6 ∨ k = 7 ∨ k = 8 ∨ k = 9 ∨ k = 10 ∨ k = 11 ∨ k = 12 ∨ k = 13 ∨ k = 14 ∨ k = 15 ∨ k = 16 ∨ k = 17 ∨ k = 18 ∨ k = 19 ∨ k = 20 ∨ k = 21 ∨ k = 22 ∨ k = 23 ∨ k = 24 ∨ k = 25 ∨ k = 26 ∨ k = 27 ∨ k = 28 ∨ k = 29 ∨ k = 30 ∨ k = 31 ∨ k = 32 ∨ k = 33 ∨ k = 34 ∨ k = 35 ∨ k = 36 ∨ k = 37 ∨ k = 38 ∨ k = 39 ∨ k = 40 ∨ k = 41 ∨ 42 ≤ k := by omega
      rcases hks with rfl | rfl | rfl | rfl | rfl | rfl | rfl | rfl | rfl | rfl | rfl | rfl | rfl | rfl | rfl | rfl | rfl | rfl | rfl | rfl | rfl | rfl | rfl | rfl | rfl | rfl | rfl | rfl | rfl | rfl | rfl | rfl | rfl | rfl | rfl | rfl | rfl | rfl | rfl | rfl | rfl | rfl | hk42
      · refine g_tableIn (off := 184) (tgt := 224) dL_law_40 (by decide) (by decide) rfl (by decide) ?_
        exact lw_feed hLs hlen h hr nxt
      · refine g_tableIn (off := 257) (tgt := 297) dL_law_40 (by decide) (by decide) rfl (by decide) ?_
        exact lw_book hLs hlen h hr nxt
      · refine g_tableIn (off := 282) (tgt := 322) dL_law_40 (by decide) (by decide) rfl (by decide) ?_
        exact lw_fault hLs hlen h hr nxt
      · refine g_tableIn (off := 295) (tgt := 335) dL_law_40 (by decide) (by decide) rfl (by decide) ?_
        exact lw_where hLs hlen h hr nxt
      · refine g_tableIn (off := 308) (tgt := 348) dL_law_40 (by decide) (by decide) rfl (by decide) ?_
        exact lw_fits hLs hlen h hr nxt
      · refine g_tableIn (off := 345) (tgt := 385) dL_law_40 (by decide) (by decide) rfl (by decide) ?_
        exact lw_wearer hLs hlen h hr nxt
      · refine g_tableIn (off := 382) (tgt := 422) dL_law_40 (by decide) (by decide) rfl (by decide) ?_
        exact lw_worn hLs hlen h hr nxt
      · refine g_tableIn (off := 419) (tgt := 459) dL_law_40 (by decide) (by decide) rfl (by decide) ?_
        exact lw_owes hLs hlen h hr nxt
      · refine g_tableIn (off := 444) (tgt := 484) dL_law_40 (by decide) (by decide) rfl (by decide) ?_
        exact lw_done hLs hlen h hr nxt
      · refine g_tableIn (off := 469) (tgt := 509) dL_law_40 (by decide) (by decide) rfl (by decide) ?_
        exact lw_credit hLs hlen h hr nxt
      · refine g_tableIn (off := 506) (tgt := 546) dL_law_40 (by decide) (by decide) rfl (by decide) ?_
        exact lw_debt hLs hlen h hr nxt
      · refine g_tableIn (off := 543) (tgt := 583) dL_law_40 (by decide) (by decide) rfl (by decide) ?_
        exact lw_gain hLs hlen h hr nxt
      · refine g_tableIn (off := 580) (tgt := 620) dL_law_40 (by decide) (by decide) rfl (by decide) ?_
        exact lw_guild hLs hlen h hr nxt
      · refine g_tableIn (off := 593) (tgt := 633) dL_law_40 (by decide) (by decide) rfl (by decide) ?_
        exact lw_breaks hLs hlen h hr nxt
      · refine g_tableIn (off := 630) (tgt := 670) dL_law_40 (by decide) (by decide) rfl (by decide) ?_
        exact lw_value hLs hlen h hr nxt
      · refine g_tableIn (off := 655) (tgt := 695) dL_law_40 (by decide) (by decide) rfl (by decide) ?_
        exact lw_plan hLs hlen h hr nxt
      · refine g_tableIn (off := 692) (tgt := 732) dL_law_40 (by decide) (by decide) rfl (by decide) ?_
        exact lw_needed hLs hlen h hr nxt
      · refine g_tableIn (off := 729) (tgt := 769) dL_law_40 (by decide) (by decide) rfl (by decide) ?_
        exact lw_worth hLs hlen h hr nxt
      · refine g_tableIn (off := 742) (tgt := 782) dL_law_40 (by decide) (by decide) rfl (by decide) ?_
        exact lw_real hLs hlen h hr nxt
      · refine g_tableIn (off := 767) (tgt := 807) dL_law_40 (by decide) (by decide) rfl (by decide) ?_
        exact lw_terms hLs hlen h hr nxt
      · refine g_tableIn (off := 780) (tgt := 820) dL_law_40 (by decide) (by decide) rfl (by decide) ?_
        exact lw_ask hLs hlen h hr nxt
      · refine g_tableIn (off := 841) (tgt := 881) dL_law_40 (by decide) (by decide) rfl (by decide) ?_
        exact lw_wearers hLs hlen h hr nxt
      · refine g_tableIn (off := 866) (tgt := 906) dL_law_40 (by decide) (by decide) rfl (by decide) ?_
        exact lw_odds hLs hlen h hr nxt
      · refine g_tableIn (off := 943) (tgt := 983) dL_law_40 (by decide) (by decide) rfl (by decide) ?_
        exact lw_may hLs hlen h hr nxt
      · refine g_tableIn (off := 980) (tgt := 1020) dL_law_40 (by decide) (by decide) rfl (by decide) ?_
        exact lw_untrue hLs hlen h hr nxt
      · refine g_tableIn (off := 1005) (tgt := 1045) dL_law_40 (by decide) (by decide) rfl (by decide) ?_
        exact lw_agrees hLs hlen h hr nxt
      · refine g_tableIn (off := 1042) (tgt := 1082) dL_law_40 (by decide) (by decide) rfl (by decide) ?_
        exact lw_lovers hLs hlen h hr nxt
      · refine g_tableIn (off := 1079) (tgt := 1119) dL_law_40 (by decide) (by decide) rfl (by decide) ?_
        exact lw_lover hLs hlen h hr nxt
      · refine g_tableIn (off := 1156) (tgt := 1196) dL_law_40 (by decide) (by decide) rfl (by decide) ?_
        exact lw_lend hLs hlen h hr nxt
      · refine g_tableIn (off := 1217) (tgt := 1257) dL_law_40 (by decide) (by decide) rfl (by decide) ?_
        exact lw_give hLs hlen h hr nxt
      · refine g_tableIn (off := 1254) (tgt := 1294) dL_law_40 (by decide) (by decide) rfl (by decide) ?_
        exact lw_pass hLs hlen h hr nxt
      · refine g_tableIn (off := 1303) (tgt := 1343) dL_law_40 (by decide) (by decide) rfl (by decide) ?_
        exact lw_breaking hLs hlen h hr nxt
      · refine g_tableIn (off := 1368) (tgt := 1408) dL_law_40 (by decide) (by decide) rfl (by decide) ?_
        exact lw_undo hLs hlen h hr nxt
      · refine g_tableIn (off := 1381) (tgt := 1421) dL_law_40 (by decide) (by decide) rfl (by decide) ?_
        exact lw_redo hLs hlen h hr nxt
      · refine g_tableIn (off := 1394) (tgt := 1434) dL_law_40 (by decide) (by decide) rfl (by decide) ?_
        exact lw_image hLs hlen h hr nxt
      · refine g_tableIn (off := 1407) (tgt := 1447) dL_law_40 (by decide) (by decide) rfl (by decide) ?_
        exact lw_back hLs hlen h hr nxt
      · refine g_tableIn (off := 1432) (tgt := 1472) dL_law_40 (by decide) (by decide) rfl (by decide) ?_
        exact lw_lending hLs hlen h hr nxt
      · refine g_tableIn (off := 1469) (tgt := 1509) dL_law_40 (by decide) (by decide) rfl (by decide) ?_
        exact lw_mask hLs hlen h hr nxt
      · refine g_tableIn (off := 1506) (tgt := 1546) dL_law_40 (by decide) (by decide) rfl (by decide) ?_
        exact lw_person hLs hlen h hr nxt
      · refine g_tableIn (off := 1543) (tgt := 1583) dL_law_40 (by decide) (by decide) rfl (by decide) ?_
        exact lw_led hLs hlen h hr nxt
      · refine g_tableIn (off := 1611) (tgt := 1651) dL_law_40 (by decide) (by decide) rfl (by decide) ?_
        exact lw_size hLs hlen h hr nxt
      · refine g_tableIn (off := 1636) (tgt := 1676) dL_law_40 (by decide) (by decide) rfl (by decide) ?_
        exact lw_trouble hLs hlen h hr nxt
      · refine g_tableOut (tgt := 1689) dL_law_40 (Or.inr (by rw [show (nI k).toInt = (k : Int) from Int32.toInt_ofNat_of_lt (by omega)]; omega)) (by decide) ?_
        exact VG.widen (by omega) (by omega) (nxt _ _ _ _ _ ⟨B, B2, t, tp, nt, tr, fa, pl, F, S, u, r, im, ic, h, hr⟩)
/-- from the law's entry on -/
theorem l_start (hLs : Ls ≤ 3072) : VG yL_law cL_law 7 (some .boolean) room_1 (PW sb Ls b xs) b ad true (0) (0) 0 [some (.ref sb), none, none, none, none, none, none] [] 0 SH (fun _ _ => 0) (fun _ _ => 0) (fun _ _ => none) := by
  have hz : Zr 0 (fun _ _ => 0) (fun _ _ => 0) (fun _ _ => none) := fun q _ => ⟨rfl, rfl, rfl⟩
  refine ng_new (c := 11) (nf := 11) dL_law_0 (by decide) (uu (i := 136) (by decide +kernel) rfl) (uu (i := 137) (by decide +kernel) rfl) (uu (i := 111) (by decide +kernel) rfl) rfl hz (by decide) (by decide) ?_
  refine g_dup dL_law_3 rfl ?_
  refine g_callIA (a := 0) PW.need dL_law_4 ml_L_15 mi_X11_init (by decide) (by decide) (by decide) (by decide) (Nat.le_of_ble_eq_true rfl) (c_X11_init (hz.mono (by decide)) (fun I1 L1 R1 hC hz1 => ?_))
  refine g_astore_1 rfl dL_law_7 ?_
  refine ng_new (c := 12) (nf := 33) dL_law_8 (by decide) (uu (i := 1413) (by decide +kernel) rfl) (uu (i := 1414) (by decide +kernel) rfl) (uu (i := 127) (by decide +kernel) rfl) rfl hz1 (by decide) (by decide) ?_
  refine g_dup dL_law_11 rfl ?_
  refine g_callI (a := 157) dL_law_12 ml_L_18 mi_X12_init (by decide) (by decide) (by decide) (by decide) (Nat.le_of_ble_eq_true rfl) (fun h => h) (c_X12_init (hz1.mono (by decide)) ?_)
  refine g_astore_2 rfl dL_law_15 ?_
  refine g_iconst (v := nI 1) dL_law_16 (by decide) ?_
  refine ng_newa (t := 1) (len := 1) dL_law_17 rfl (by decide) rfl (uu (i := 523) (by decide +kernel) rfl) (by decide) (by decide) (by decide) rfl (by repeat (first | exact Zr.mono (by assumption) (by first | decide | omega) | refine Zr.ur ?_ (by first | decide | omega) | refine Zr.ul ?_ (by first | decide | omega) | refine Zr.ui ?_ (by first | decide | omega))) (by decide) (by decide) ?_
  refine g_astore_3 rfl dL_law_19 ?_
  refine g_iconst (v := nI 0) dL_law_20 (by decide) ?_
  refine g_istore_4 rfl dL_law_21 ?_
  exact VG.relax (l_law hLs 512 0 _ _ _ none none rfl (lj_0 hC hz1))
end
