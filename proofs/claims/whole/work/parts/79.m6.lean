section
variable {b : Nat} {ad : Nat → Nat} {I J : HI} {L M : HL} {R : HR} {Q : QT} {F : bkF} {s : LSt} {a o : Nat}
variable {c : Nat}
theorem c_X12_dropLending {i : Nat} (hc : SH c = .inr (0, 87)) (hS : StI I c 0 s) (hn : s.1 ≤ 20) (hi : i < s.1) (hQ : ∀ J : HI, StI J c 0 (s.1 - 1, cutg s.2.1 i, s.2.2) → (∀ x, x ≠ c → J x = I x) → Q none SH J L R) : KK 0 mX12_dropLending b ad [.ref (b + c), .int (nI i)] I L R Q := by
  have tail : ∀ (k : Nat) (J : HI), J c 0 = nI s.1 → (∀ z, 1 + 4 * i ≤ z → z < 4 * s.1 - 3 → J c z = I c (z + 4)) → (∀ z, z < 1 + 4 * i ∨ 4 * s.1 - 3 ≤ z → J c z = I c z) → (∀ x, x ≠ c → J x = I x) → VV yX12_dropLending cX12_dropLending 3 none 0 Q b ad 33 [some (.ref (b + c)), some (.int (nI i)), some (.int (nI k))] [] J L R := by
    intro k J j0 j1 j2 jx
    refine v_aload_0 dX12_dropLending_33 ?_
    refine v_iconst (v := nI 0) dX12_dropLending_34 (by decide) ?_
    refine v_dup2 dX12_dropLending_35 rfl rfl ?_
    refine u_iald dX12_dropLending_36 (by first | assumption | rfl | exact led_1 (by assumption) | exact led_2 (by assumption) | exact bk_m (by assumption) (by first | assumption | omega) | exact bk_p (by assumption) (by first | assumption | omega) | exact bk_o (by assumption) (by first | assumption | omega) | exact bk_s (by assumption) (by first | assumption | omega) | exact bk_1 (by assumption) | exact bk_2 (by assumption) | exact bk_3 (by assumption) | exact bk_4 (by assumption) | exact bk_5 (by assumption) | exact bk_6 (by assumption) | exact bk_7 (by assumption) | exact bk_8 (by assumption) | exact sh_ring _ (by first | assumption | omega) | exact sh_imgs _ (by first | assumption | omega)) (by first | with_reducible rfl | (simp only [nlit, nI_add, pk_mul]; with_reducible rfl) | rfl) (by first | assumption | omega) (by first | assumption | decide) ?_
    rw [j0]
    refine v_iconst (v := nI 1) dX12_dropLending_37 (by decide) ?_
    refine v_isub dX12_dropLending_38 ?_
    rw [pk_sub (by omega)]
    refine u_iast dX12_dropLending_39 (by first | assumption | rfl | exact led_1 (by assumption) | exact led_2 (by assumption) | exact bk_m (by assumption) (by first | assumption | omega) | exact bk_p (by assumption) (by first | assumption | omega) | exact bk_o (by assumption) (by first | assumption | omega) | exact bk_s (by assumption) (by first | assumption | omega) | exact bk_1 (by assumption) | exact bk_2 (by assumption) | exact bk_3 (by assumption) | exact bk_4 (by assumption) | exact bk_5 (by assumption) | exact bk_6 (by assumption) | exact bk_7 (by assumption) | exact bk_8 (by assumption) | exact sh_ring _ (by first | assumption | omega) | exact sh_imgs _ (by first | assumption | omega)) (by first | with_reducible rfl | (simp only [nlit, nI_add, pk_mul]; with_reducible rfl) | rfl) (by first | assumption | omega) (by first | assumption | decide) ?_
    refine v_iconst (v := nI 0) dX12_dropLending_40 (by decide) ?_
    refine v_istore_2 rfl dX12_dropLending_41 ?_
    refine v_iload_2 dX12_dropLending_42 ?_
    refine v_iconst (v := nI 4) dX12_dropLending_43 (by decide) ?_
    refine v_icmp_ge (tgt := 65) dX12_dropLending_44 (by decide) (fun hc44 => ?_) (fun hc44 => ?_)
    · exact absurd hc44 (by decide)
    · (try rw [nI_leI (by omega) (by omega)] at hc44)
      refine v_aload_0 dX12_dropLending_47 ?_
      refine v_iconst (v := nI 1) dX12_dropLending_48 (by decide) ?_
      refine v_iconst (v := nI 4) dX12_dropLending_49 (by decide) ?_
      refine v_aload_0 dX12_dropLending_50 ?_
      refine v_iconst (v := nI 0) dX12_dropLending_51 (by decide) ?_
      refine u_iald dX12_dropLending_52 (by first | assumption | rfl | exact led_1 (by assumption) | exact led_2 (by assumption) | exact bk_m (by assumption) (by first | assumption | omega) | exact bk_p (by assumption) (by first | assumption | omega) | exact bk_o (by assumption) (by first | assumption | omega) | exact bk_s (by assumption) (by first | assumption | omega) | exact bk_1 (by assumption) | exact bk_2 (by assumption) | exact bk_3 (by assumption) | exact bk_4 (by assumption) | exact bk_5 (by assumption) | exact bk_6 (by assumption) | exact bk_7 (by assumption) | exact bk_8 (by assumption) | exact sh_ring _ (by first | assumption | omega) | exact sh_imgs _ (by first | assumption | omega)) (by first | with_reducible rfl | (simp only [nlit, nI_add, pk_mul]; with_reducible rfl) | rfl) (by first | assumption | omega) (by first | assumption | decide) ?_
      rw [ui_s]
      refine v_imul dX12_dropLending_53 ?_
      refine v_iadd dX12_dropLending_54 ?_
      refine v_iload_2 dX12_dropLending_55 ?_
      refine v_iadd dX12_dropLending_56 ?_
      refine v_iconst (v := nI 0) dX12_dropLending_57 (by decide) ?_
      refine u_iast dX12_dropLending_58 (by first | assumption | rfl | exact led_1 (by assumption) | exact led_2 (by assumption) | exact bk_m (by assumption) (by first | assumption | omega) | exact bk_p (by assumption) (by first | assumption | omega) | exact bk_o (by assumption) (by first | assumption | omega) | exact bk_s (by assumption) (by first | assumption | omega) | exact bk_1 (by assumption) | exact bk_2 (by assumption) | exact bk_3 (by assumption) | exact bk_4 (by assumption) | exact bk_5 (by assumption) | exact bk_6 (by assumption) | exact bk_7 (by assumption) | exact bk_8 (by assumption) | exact sh_ring _ (by first | assumption | omega) | exact sh_imgs _ (by first | assumption | omega)) (by first | with_reducible rfl | (simp only [nlit, nI_add, pk_mul]; with_reducible rfl) | rfl) (by first | assumption | omega) (by first | assumption | decide) ?_
      refine v_iinc_2 (v := 1) rfl dX12_dropLending_59 (by decide) ?_
      rw [show nI 0 + 1 = nI 1 from rfl]
      refine v_goto (tgt := 42) dX12_dropLending_62 (by decide) ?_
      refine v_iload_2 dX12_dropLending_42 ?_
      refine v_iconst (v := nI 4) dX12_dropLending_43 (by decide) ?_
      refine v_icmp_ge (tgt := 65) dX12_dropLending_44 (by decide) (fun hc44 => ?_) (fun hc44 => ?_)
      · exact absurd hc44 (by decide)
      · (try rw [nI_leI (by omega) (by omega)] at hc44)
        refine v_aload_0 dX12_dropLending_47 ?_
        refine v_iconst (v := nI 1) dX12_dropLending_48 (by decide) ?_
        refine v_iconst (v := nI 4) dX12_dropLending_49 (by decide) ?_
        refine v_aload_0 dX12_dropLending_50 ?_
        refine v_iconst (v := nI 0) dX12_dropLending_51 (by decide) ?_
        refine u_iald dX12_dropLending_52 (by first | assumption | rfl | exact led_1 (by assumption) | exact led_2 (by assumption) | exact bk_m (by assumption) (by first | assumption | omega) | exact bk_p (by assumption) (by first | assumption | omega) | exact bk_o (by assumption) (by first | assumption | omega) | exact bk_s (by assumption) (by first | assumption | omega) | exact bk_1 (by assumption) | exact bk_2 (by assumption) | exact bk_3 (by assumption) | exact bk_4 (by assumption) | exact bk_5 (by assumption) | exact bk_6 (by assumption) | exact bk_7 (by assumption) | exact bk_8 (by assumption) | exact sh_ring _ (by first | assumption | omega) | exact sh_imgs _ (by first | assumption | omega)) (by first | with_reducible rfl | (simp only [nlit, nI_add, pk_mul]; with_reducible rfl) | rfl) (by first | assumption | omega) (by first | assumption | decide) ?_
        rw [ui_o (by omega), ui_s]
        refine v_imul dX12_dropLending_53 ?_
        refine v_iadd dX12_dropLending_54 ?_
        refine v_iload_2 dX12_dropLending_55 ?_
        refine v_iadd dX12_dropLending_56 ?_
        refine v_iconst (v := nI 0) dX12_dropLending_57 (by decide) ?_
        refine u_iast dX12_dropLending_58 (by first | assumption | rfl | exact led_1 (by assumption) | exact led_2 (by assumption) | exact bk_m (by assumption) (by first | assumption | omega) | exact bk_p (by assumption) (by first | assumption | omega) | exact bk_o (by assumption) (by first | assumption | omega) | exact bk_s (by assumption) (by first | assumption | omega) | exact bk_1 (by assumption) | exact bk_2 (by assumption) | exact bk_3 (by assumption) | exact bk_4 (by assumption) | exact bk_5 (by assumption) | exact bk_6 (by assumption) | exact bk_7 (by assumption) | exact bk_8 (by assumption) | exact sh_ring _ (by first | assumption | omega) | exact sh_imgs _ (by first | assumption | omega)) (by first | with_reducible rfl | (simp only [nlit, nI_add, pk_mul]; with_reducible rfl) | rfl) (by first | assumption | omega) (by first | assumption | decide) ?_
        refine v_iinc_2 (v := 1) rfl dX12_dropLending_59 (by decide) ?_
        rw [show nI 1 + 1 = nI 2 from rfl]
        refine v_goto (tgt := 42) dX12_dropLending_62 (by decide) ?_
        refine v_iload_2 dX12_dropLending_42 ?_
        refine v_iconst (v := nI 4) dX12_dropLending_43 (by decide) ?_
        refine v_icmp_ge (tgt := 65) dX12_dropLending_44 (by decide) (fun hc44 => ?_) (fun hc44 => ?_)
        · exact absurd hc44 (by decide)
        · (try rw [nI_leI (by omega) (by omega)] at hc44)
          refine v_aload_0 dX12_dropLending_47 ?_
          refine v_iconst (v := nI 1) dX12_dropLending_48 (by decide) ?_
          refine v_iconst (v := nI 4) dX12_dropLending_49 (by decide) ?_
          refine v_aload_0 dX12_dropLending_50 ?_
          refine v_iconst (v := nI 0) dX12_dropLending_51 (by decide) ?_
          refine u_iald dX12_dropLending_52 (by first | assumption | rfl | exact led_1 (by assumption) | exact led_2 (by assumption) | exact bk_m (by assumption) (by first | assumption | omega) | exact bk_p (by assumption) (by first | assumption | omega) | exact bk_o (by assumption) (by first | assumption | omega) | exact bk_s (by assumption) (by first | assumption | omega) | exact bk_1 (by assumption) | exact bk_2 (by assumption) | exact bk_3 (by assumption) | exact bk_4 (by assumption) | exact bk_5 (by assumption) | exact bk_6 (by assumption) | exact bk_7 (by assumption) | exact bk_8 (by assumption) | exact sh_ring _ (by first | assumption | omega) | exact sh_imgs _ (by first | assumption | omega)) (by first | with_reducible rfl | (simp only [nlit, nI_add, pk_mul]; with_reducible rfl) | rfl) (by first | assumption | omega) (by first | assumption | decide) ?_
          rw [ui_o (by omega), ui_o (by omega), ui_s]
          refine v_imul dX12_dropLending_53 ?_
          refine v_iadd dX12_dropLending_54 ?_
          refine v_iload_2 dX12_dropLending_55 ?_
          refine v_iadd dX12_dropLending_56 ?_
          refine v_iconst (v := nI 0) dX12_dropLending_57 (by decide) ?_
          refine u_iast dX12_dropLending_58 (by first | assumption | rfl | exact led_1 (by assumption) | exact led_2 (by assumption) | exact bk_m (by assumption) (by first | assumption | omega) | exact bk_p (by assumption) (by first | assumption | omega) | exact bk_o (by assumption) (by first | assumption | omega) | exact bk_s (by assumption) (by first | assumption | omega) | exact bk_1 (by assumption) | exact bk_2 (by assumption) | exact bk_3 (by assumption) | exact bk_4 (by assumption) | exact bk_5 (by assumption) | exact bk_6 (by assumption) | exact bk_7 (by assumption) | exact bk_8 (by assumption) | exact sh_ring _ (by first | assumption | omega) | exact sh_imgs _ (by first | assumption | omega)) (by first | with_reducible rfl | (simp only [nlit, nI_add, pk_mul]; with_reducible rfl) | rfl) (by first | assumption | omega) (by first | assumption | decide) ?_
          refine v_iinc_2 (v := 1) rfl dX12_dropLending_59 (by decide) ?_
          rw [show nI 2 + 1 = nI 3 from rfl]
          refine v_goto (tgt := 42) dX12_dropLending_62 (by decide) ?_
          refine v_iload_2 dX12_dropLending_42 ?_
          refine v_iconst (v := nI 4) dX12_dropLending_43 (by decide) ?_
          refine v_icmp_ge (tgt := 65) dX12_dropLending_44 (by decide) (fun hc44 => ?_) (fun hc44 => ?_)
          · exact absurd hc44 (by decide)
          · (try rw [nI_leI (by omega) (by omega)] at hc44)
            refine v_aload_0 dX12_dropLending_47 ?_
            refine v_iconst (v := nI 1) dX12_dropLending_48 (by decide) ?_
            refine v_iconst (v := nI 4) dX12_dropLending_49 (by decide) ?_
            refine v_aload_0 dX12_dropLending_50 ?_
            refine v_iconst (v := nI 0) dX12_dropLending_51 (by decide) ?_
            refine u_iald dX12_dropLending_52 (by first | assumption | rfl | exact led_1 (by assumption) | exact led_2 (by assumption) | exact bk_m (by assumption) (by first | assumption | omega) | exact bk_p (by assumption) (by first | assumption | omega) | exact bk_o (by assumption) (by first | assumption | omega) | exact bk_s (by assumption) (by first | assumption | omega) | exact bk_1 (by assumption) | exact bk_2 (by assumption) | exact bk_3 (by assumption) | exact bk_4 (by assumption) | exact bk_5 (by assumption) | exact bk_6 (by assumption) | exact bk_7 (by assumption) | exact bk_8 (by assumption) | exact sh_ring _ (by first | assumption | omega) | exact sh_imgs _ (by first | assumption | omega)) (by first | with_reducible rfl | (simp only [nlit, nI_add, pk_mul]; with_reducible rfl) | rfl) (by first | assumption | omega) (by first | assumption | decide) ?_
            rw [ui_o (by omega), ui_o (by omega), ui_o (by omega), ui_s]
            refine v_imul dX12_dropLending_53 ?_
            refine v_iadd dX12_dropLending_54 ?_
            refine v_iload_2 dX12_dropLending_55 ?_
            refine v_iadd dX12_dropLending_56 ?_
            refine v_iconst (v := nI 0) dX12_dropLending_57 (by decide) ?_
            refine u_iast dX12_dropLending_58 (by first | assumption | rfl | exact led_1 (by assumption) | exact led_2 (by assumption) | exact bk_m (by assumption) (by first | assumption | omega) | exact bk_p (by assumption) (by first | assumption | omega) | exact bk_o (by assumption) (by first | assumption | omega) | exact bk_s (by assumption) (by first | assumption | omega) | exact bk_1 (by assumption) | exact bk_2 (by assumption) | exact bk_3 (by assumption) | exact bk_4 (by assumption) | exact bk_5 (by assumption) | exact bk_6 (by assumption) | exact bk_7 (by assumption) | exact bk_8 (by assumption) | exact sh_ring _ (by first | assumption | omega) | exact sh_imgs _ (by first | assumption | omega)) (by first | with_reducible rfl | (simp only [nlit, nI_add, pk_mul]; with_reducible rfl) | rfl) (by first | assumption | omega) (by first | assumption | decide) ?_
            refine v_iinc_2 (v := 1) rfl dX12_dropLending_59 (by decide) ?_
            rw [show nI 3 + 1 = nI 4 from rfl]
            refine v_goto (tgt := 42) dX12_dropLending_62 (by decide) ?_
            refine v_iload_2 dX12_dropLending_42 ?_
            refine v_iconst (v := nI 4) dX12_dropLending_43 (by decide) ?_
            refine v_icmp_ge (tgt := 65) dX12_dropLending_44 (by decide) (fun hc44 => ?_) (fun hc44 => ?_)
            · (try rw [nI_leI (by omega) (by omega)] at hc44)
              refine v_vret dX12_dropLending_65 rfl rfl rfl rfl ?_
              have hx : ∀ z, z ≠ 0 → (z < 1 + 4 * (s.1 - 1) ∨ 5 + 4 * (s.1 - 1) ≤ z) → ui (ui (ui (ui (ui J c 0 (nI (s.1 - 1))) c (1 + 4 * (s.1 - 1) + 0) (nI 0)) c (1 + 4 * (s.1 - 1) + 1) (nI 0)) c (1 + 4 * (s.1 - 1) + 2) (nI 0)) c (1 + 4 * (s.1 - 1) + 3) (nI 0) c z = J c z := fun z h0 h1 => by rw [ui_o (by omega), ui_o (by omega), ui_o (by omega), ui_o (by omega), ui_o h0]
              refine hQ _ ⟨?_, fun z hz => ?_, fun p hp => ?_⟩ (fun x hx => by rw [ui_ne hx, ui_ne hx, ui_ne hx, ui_ne hx, ui_ne hx]; exact jx x hx)
              · rw [ui_o (by omega), ui_o (by omega), ui_o (by omega), ui_o (by omega), ui_s]
              · have hz : z < s.1 - 1 := hz
                show _ = nI (cutg s.2.1 i z).1 ∧ _ = nI (cutg s.2.1 i z).2.1 ∧ _ = nI (cutg s.2.1 i z).2.2.1 ∧ _ = nI (cutg s.2.1 i z).2.2.2
                rw [hx _ (by omega) (by omega), hx _ (by omega) (by omega), hx _ (by omega) (by omega), hx _ (by omega) (by omega)]
                unfold cutg
                by_cases q : z < i
                · rw [if_pos q, j2 _ (by omega), j2 _ (by omega), j2 _ (by omega), j2 _ (by omega)]
                  exact hS.2.1 z (by omega)
                · rw [if_neg q, j1 _ (by omega) (by omega), j1 _ (by omega) (by omega), j1 _ (by omega) (by omega), j1 _ (by omega) (by omega)]
                  exact ⟨hS.m (i := z + 1) (by omega) (by omega), hS.p (i := z + 1) (by omega) (by omega), hS.f (i := z + 1) (by omega) (by omega), hS.u (i := z + 1) (by omega) (by omega)⟩
              · rw [hx _ (by omega) (by omega), j2 _ (by omega)]
                exact hS.2.2 p hp
            · exact absurd (by decide) hc44
  have loop : ∀ (n k : Nat) (J : HI), k + n + 3 = 4 * s.1 → 1 + 4 * i ≤ k → J c 0 = nI s.1 → (∀ z, 1 + 4 * i ≤ z → z < k → J c z = I c (z + 4)) → (∀ z, z < 1 + 4 * i ∨ k ≤ z → J c z = I c z) → (∀ x, x ≠ c → J x = I x) → VV yX12_dropLending cX12_dropLending 3 none 0 Q b ad 6 [some (.ref (b + c)), some (.int (nI i)), some (.int (nI k))] [] J L R := by
    intro n
    induction n with
    | zero =>
      intro k J hk hik j0 j1 j2 jx
      have ek : k = 4 * s.1 - 3 := by omega
      subst ek
      refine v_iload_2 dX12_dropLending_6 ?_
      refine v_iconst (v := nI 4) dX12_dropLending_7 (by decide) ?_
      refine v_iadd dX12_dropLending_8 ?_
      rw [nI_add]
      refine v_iconst (v := nI 1) dX12_dropLending_9 (by decide) ?_
      refine v_iconst (v := nI 4) dX12_dropLending_10 (by decide) ?_
      refine v_aload_0 dX12_dropLending_11 ?_
      refine v_iconst (v := nI 0) dX12_dropLending_12 (by decide) ?_
      refine u_iald dX12_dropLending_13 (by first | assumption | rfl | exact led_1 (by assumption) | exact led_2 (by assumption) | exact bk_m (by assumption) (by first | assumption | omega) | exact bk_p (by assumption) (by first | assumption | omega) | exact bk_o (by assumption) (by first | assumption | omega) | exact bk_s (by assumption) (by first | assumption | omega) | exact bk_1 (by assumption) | exact bk_2 (by assumption) | exact bk_3 (by assumption) | exact bk_4 (by assumption) | exact bk_5 (by assumption) | exact bk_6 (by assumption) | exact bk_7 (by assumption) | exact bk_8 (by assumption) | exact sh_ring _ (by first | assumption | omega) | exact sh_imgs _ (by first | assumption | omega)) (by first | with_reducible rfl | (simp only [nlit, nI_add, pk_mul]; with_reducible rfl) | rfl) (by first | assumption | omega) (by first | assumption | decide) ?_
      rw [j0]
      refine v_imul dX12_dropLending_14 ?_
      rw [pk_mul]
      refine v_iadd dX12_dropLending_15 ?_
      rw [nI_add]
      refine v_icmp_ge (tgt := 33) dX12_dropLending_16 (by decide) (fun hc16 => ?_) (fun hc16 => ?_)
      · (try rw [nI_leI (by omega) (by omega)] at hc16)
        exact tail _ J j0 j1 j2 jx
      · exact absurd (nI_le (by omega) (by omega)) hc16
    | succ n ih =>
      intro k J hk hik j0 j1 j2 jx
      refine v_iload_2 dX12_dropLending_6 ?_
      refine v_iconst (v := nI 4) dX12_dropLending_7 (by decide) ?_
      refine v_iadd dX12_dropLending_8 ?_
      rw [nI_add]
      refine v_iconst (v := nI 1) dX12_dropLending_9 (by decide) ?_
      refine v_iconst (v := nI 4) dX12_dropLending_10 (by decide) ?_
      refine v_aload_0 dX12_dropLending_11 ?_
      refine v_iconst (v := nI 0) dX12_dropLending_12 (by decide) ?_
      refine u_iald dX12_dropLending_13 (by first | assumption | rfl | exact led_1 (by assumption) | exact led_2 (by assumption) | exact bk_m (by assumption) (by first | assumption | omega) | exact bk_p (by assumption) (by first | assumption | omega) | exact bk_o (by assumption) (by first | assumption | omega) | exact bk_s (by assumption) (by first | assumption | omega) | exact bk_1 (by assumption) | exact bk_2 (by assumption) | exact bk_3 (by assumption) | exact bk_4 (by assumption) | exact bk_5 (by assumption) | exact bk_6 (by assumption) | exact bk_7 (by assumption) | exact bk_8 (by assumption) | exact sh_ring _ (by first | assumption | omega) | exact sh_imgs _ (by first | assumption | omega)) (by first | with_reducible rfl | (simp only [nlit, nI_add, pk_mul]; with_reducible rfl) | rfl) (by first | assumption | omega) (by first | assumption | decide) ?_
      rw [j0]
      refine v_imul dX12_dropLending_14 ?_
      rw [pk_mul]
      refine v_iadd dX12_dropLending_15 ?_
      rw [nI_add]
      refine v_icmp_ge (tgt := 33) dX12_dropLending_16 (by decide) (fun hc16 => ?_) (fun hc16 => ?_)
      · exact absurd hc16 (nI_ge (by omega) (by omega))
      · (try rw [nI_leI (by omega) (by omega)] at hc16)
        refine v_aload_0 dX12_dropLending_19 ?_
        refine v_iload_2 dX12_dropLending_20 ?_
        refine v_aload_0 dX12_dropLending_21 ?_
        refine v_iload_2 dX12_dropLending_22 ?_
        refine v_iconst (v := nI 4) dX12_dropLending_23 (by decide) ?_
        refine v_iadd dX12_dropLending_24 ?_
        refine u_iald dX12_dropLending_25 (by first | assumption | rfl | exact led_1 (by assumption) | exact led_2 (by assumption) | exact bk_m (by assumption) (by first | assumption | omega) | exact bk_p (by assumption) (by first | assumption | omega) | exact bk_o (by assumption) (by first | assumption | omega) | exact bk_s (by assumption) (by first | assumption | omega) | exact bk_1 (by assumption) | exact bk_2 (by assumption) | exact bk_3 (by assumption) | exact bk_4 (by assumption) | exact bk_5 (by assumption) | exact bk_6 (by assumption) | exact bk_7 (by assumption) | exact bk_8 (by assumption) | exact sh_ring _ (by first | assumption | omega) | exact sh_imgs _ (by first | assumption | omega)) (by first | with_reducible rfl | (simp only [nlit, nI_add, pk_mul]; with_reducible rfl) | rfl) (by first | assumption | omega) (by first | assumption | decide) ?_
        refine u_iast dX12_dropLending_26 (by first | assumption | rfl | exact led_1 (by assumption) | exact led_2 (by assumption) | exact bk_m (by assumption) (by first | assumption | omega) | exact bk_p (by assumption) (by first | assumption | omega) | exact bk_o (by assumption) (by first | assumption | omega) | exact bk_s (by assumption) (by first | assumption | omega) | exact bk_1 (by assumption) | exact bk_2 (by assumption) | exact bk_3 (by assumption) | exact bk_4 (by assumption) | exact bk_5 (by assumption) | exact bk_6 (by assumption) | exact bk_7 (by assumption) | exact bk_8 (by assumption) | exact sh_ring _ (by first | assumption | omega) | exact sh_imgs _ (by first | assumption | omega)) (by first | with_reducible rfl | (simp only [nlit, nI_add, pk_mul]; with_reducible rfl) | rfl) (by first | assumption | omega) (by first | assumption | decide) ?_
        refine v_iinc_2 (v := 1) rfl dX12_dropLending_27 (by decide) ?_
        rw [show nI k + 1 = nI (k + 1) from nI_1 k]
        refine v_goto (tgt := 6) dX12_dropLending_30 (by decide) ?_
        refine ih (k + 1) _ (by omega) (by omega) (by rw [ui_o (by omega)]; exact j0) (fun z h1 h2 => ?_) (fun z h1 => by rw [ui_o (by omega)]; exact j2 z (by omega)) (fun x hx => by rw [ui_ne hx]; exact jx x hx)
        by_cases hz : z = k
        · subst hz; rw [ui_s]; exact j2 _ (by omega)
        · rw [ui_o hz]; exact j1 z h1 (by omega)
  refine K.of (M := mX12_dropLending) (lv := [some (.ref (b + c)), some (.int (nI i)), none]) (by decide) (Nat.le_of_ble_eq_true rfl) rfl ?_
  refine v_iconst (v := nI 1) dX12_dropLending_0 (by decide) ?_
  refine v_iconst (v := nI 4) dX12_dropLending_1 (by decide) ?_
  refine v_iload_1 dX12_dropLending_2 ?_
  refine v_imul dX12_dropLending_3 ?_
  rw [pk_mul]
  refine v_iadd dX12_dropLending_4 ?_
  rw [nI_add]
  refine v_istore_2 rfl dX12_dropLending_5 ?_
  exact loop (4 * s.1 - 3 - (1 + 4 * i)) (1 + 4 * i) I (by omega) (Nat.le_refl _) hS.1 (fun z h1 h2 => absurd h2 (by omega)) (fun _ _ => rfl) (fun _ _ => rfl)
theorem c_X12_keep {n : Nat} (hc : SH c = .inr (0, 1044)) (ha : SH a = .inr (0, 87)) (hac : a ≠ c) (hn : n ≤ 12) (hQ : ∀ J : HI, (∀ k, k < 1044 → J c k = if n < 12 then (if 87 * n ≤ k ∧ k < 87 * n + 87 then I a (k - 87 * n) else I c k) else (if k < 957 then I c (k + 87) else I a (k - 957))) → (∀ x, x ≠ c → J x = I x) → Q (some (.int (nI (if n < 12 then n + 1 else 12)))) SH J L R) : KK 1 mX12_keep b ad [.ref (b + c), .int (nI n), .ref (b + a)] I L R Q := by
  by_cases h12 : n = 12
  · subst h12
    have tail : ∀ (J : HI) (q : Option Value), (∀ z, z < 957 → J c z = I c (z + 87)) → (∀ x, x ≠ c → J x = I x) → VV yX12_keep cX12_keep 5 (some .int) 1 Q b ad 36 [some (.ref (b + c)), some (.int (nI 12)), some (.ref (b + a)), some (.int (nI 12)), q] [] J L R := by
      intro J q j1 jx
      refine v_iinc_3 (v := -1) rfl dX12_keep_36 (by decide) ?_
      rw [show nI 12 + -1 = nI 11 from by decide]
      refine v_aload_2 dX12_keep_39 ?_
      refine v_iconst (v := nI 0) dX12_keep_40 (by decide) ?_
      refine v_aload_0 dX12_keep_41 ?_
      refine v_bipush (v := nI 87) dX12_keep_42 (by decide) ?_
      refine v_iload_3 dX12_keep_44 ?_
      refine v_imul dX12_keep_45 ?_
      rw [pk_mul]
      refine v_bipush (v := nI 87) dX12_keep_46 (by decide) ?_
      refine u_callS_5 dX12_keep_48 ml_X12_182 ms_X12_copy (by decide) (Nat.le_of_ble_eq_true rfl) (c_X12_copy (i0 := 0) (j0 := 87 * 11) (m := 87) ha hc hac (by decide) (by decide) (by decide) (by decide) (fun J2 q1 q2 => ?_))
      refine v_iload_3 dX12_keep_51 ?_
      refine v_iconst (v := nI 1) dX12_keep_52 (by decide) ?_
      refine v_iadd dX12_keep_53 ?_
      rw [nI_add]
      refine v_iret dX12_keep_54 rfl rfl rfl rfl ?_
      refine hQ J2 (fun k hk => ?_) (fun x hx => by rw [q2 x hx]; exact jx x hx)
      rw [if_neg (by decide), q1 k]
      by_cases h : k < 957
      · rw [if_pos h, if_neg (by omega)]; exact j1 k h
      · rw [if_neg h, if_pos ⟨by omega, by omega⟩, jx a hac, show 0 + (k - 87 * 11) = k - 957 by omega]
    have loop : ∀ (m k : Nat) (J : HI), k + m = 957 → (∀ z, z < k → J c z = I c (z + 87)) → (∀ z, k ≤ z → J c z = I c z) → (∀ x, x ≠ c → J x = I x) → VV yX12_keep cX12_keep 5 (some .int) 1 Q b ad 11 [some (.ref (b + c)), some (.int (nI 12)), some (.ref (b + a)), some (.int (nI 12)), some (.int (nI k))] [] J L R := by
      intro m
      induction m with
      | zero =>
        intro k J hk j1 j2 jx
        refine v_iload_4 dX12_keep_11 ?_
        refine v_sipush (v := nI 957) dX12_keep_13 (by decide) ?_
        refine v_icmp_ge (tgt := 36) dX12_keep_16 (by decide) (fun hc16 => ?_) (fun hc16 => ?_)
        · (try rw [nI_leI (by omega) (by omega)] at hc16)
          exact tail J _ (fun z hz => j1 z (by omega)) jx
        · exact absurd (nI_le (by omega) (by omega)) hc16
      | succ m ih =>
        intro k J hk j1 j2 jx
        refine v_iload_4 dX12_keep_11 ?_
        refine v_sipush (v := nI 957) dX12_keep_13 (by decide) ?_
        refine v_icmp_ge (tgt := 36) dX12_keep_16 (by decide) (fun hc16 => ?_) (fun hc16 => ?_)
        · exact absurd hc16 (nI_ge (by omega) (by omega))
        · (try rw [nI_leI (by omega) (by omega)] at hc16)
          refine v_aload_0 dX12_keep_19 ?_
          refine v_iload_4 dX12_keep_20 ?_
          refine v_aload_0 dX12_keep_22 ?_
          refine v_iload_4 dX12_keep_23 ?_
          refine v_bipush (v := nI 87) dX12_keep_25 (by decide) ?_
          refine v_iadd dX12_keep_27 ?_
          refine u_iald dX12_keep_28 (by first | assumption | rfl | exact led_1 (by assumption) | exact led_2 (by assumption) | exact bk_m (by assumption) (by first | assumption | omega) | exact bk_p (by assumption) (by first | assumption | omega) | exact bk_o (by assumption) (by first | assumption | omega) | exact bk_s (by assumption) (by first | assumption | omega) | exact bk_1 (by assumption) | exact bk_2 (by assumption) | exact bk_3 (by assumption) | exact bk_4 (by assumption) | exact bk_5 (by assumption) | exact bk_6 (by assumption) | exact bk_7 (by assumption) | exact bk_8 (by assumption) | exact sh_ring _ (by first | assumption | omega) | exact sh_imgs _ (by first | assumption | omega)) (by first | with_reducible rfl | (simp only [nlit, nI_add, pk_mul]; with_reducible rfl) | rfl) (by first | assumption | omega) (by first | assumption | decide) ?_
          refine u_iast dX12_keep_29 (by first | assumption | rfl | exact led_1 (by assumption) | exact led_2 (by assumption) | exact bk_m (by assumption) (by first | assumption | omega) | exact bk_p (by assumption) (by first | assumption | omega) | exact bk_o (by assumption) (by first | assumption | omega) | exact bk_s (by assumption) (by first | assumption | omega) | exact bk_1 (by assumption) | exact bk_2 (by assumption) | exact bk_3 (by assumption) | exact bk_4 (by assumption) | exact bk_5 (by assumption) | exact bk_6 (by assumption) | exact bk_7 (by assumption) | exact bk_8 (by assumption) | exact sh_ring _ (by first | assumption | omega) | exact sh_imgs _ (by first | assumption | omega)) (by first | with_reducible rfl | (simp only [nlit, nI_add, pk_mul]; with_reducible rfl) | rfl) (by first | assumption | omega) (by first | assumption | decide) ?_
          refine v_iinc_4 (v := 1) rfl dX12_keep_30 (by decide) ?_
          rw [show nI k + 1 = nI (k + 1) from nI_1 k]
          refine v_goto (tgt := 11) dX12_keep_33 (by decide) ?_
          refine ih (k + 1) _ (by omega) (fun z hz => ?_) (fun z hz => by rw [ui_o (by omega)]; exact j2 z (by omega)) (fun x hx => by rw [ui_ne hx]; exact jx x hx)
          by_cases h : z = k
          · subst h; rw [ui_s]; exact j2 _ (by omega)
          · rw [ui_o h]; exact j1 z (by omega)
    refine K.of (M := mX12_keep) (lv := [some (.ref (b + c)), some (.int (nI 12)), some (.ref (b + a)), none, none]) (by decide) (Nat.le_of_ble_eq_true rfl) rfl ?_
    refine v_iload_1 dX12_keep_0 ?_
    refine v_istore_3 rfl dX12_keep_1 ?_
    refine v_iload_3 dX12_keep_2 ?_
    refine v_bipush (v := nI 12) dX12_keep_3 (by decide) ?_
    refine v_icmp_ne (tgt := 39) dX12_keep_5 (by decide) (fun hc5 => ?_) (fun hc5 => ?_)
    · exact absurd rfl hc5
    · skip
      refine v_iconst (v := nI 0) dX12_keep_8 (by decide) ?_
      refine v_istore_4 rfl dX12_keep_9 ?_
      exact loop 957 0 I rfl (fun z hz => absurd hz (Nat.not_lt_zero _)) (fun _ _ => rfl) (fun _ _ => rfl)
  · refine K.of (M := mX12_keep) (lv := [some (.ref (b + c)), some (.int (nI n)), some (.ref (b + a)), none, none]) (by decide) (Nat.le_of_ble_eq_true rfl) rfl ?_
    refine v_iload_1 dX12_keep_0 ?_
    refine v_istore_3 rfl dX12_keep_1 ?_
    refine v_iload_3 dX12_keep_2 ?_
    refine v_bipush (v := nI 12) dX12_keep_3 (by decide) ?_
    refine v_icmp_ne (tgt := 39) dX12_keep_5 (by decide) (fun hc5 => ?_) (fun hc5 => ?_)
    · skip
      refine v_aload_2 dX12_keep_39 ?_
      refine v_iconst (v := nI 0) dX12_keep_40 (by decide) ?_
      refine v_aload_0 dX12_keep_41 ?_
      refine v_bipush (v := nI 87) dX12_keep_42 (by decide) ?_
      refine v_iload_3 dX12_keep_44 ?_
      refine v_imul dX12_keep_45 ?_
      rw [pk_mul]
      refine v_bipush (v := nI 87) dX12_keep_46 (by decide) ?_
      refine u_callS_5 dX12_keep_48 ml_X12_182 ms_X12_copy (by decide) (Nat.le_of_ble_eq_true rfl) (c_X12_copy (i0 := 0) (j0 := 87 * n) (m := 87) ha hc hac (by decide) (by omega) (by decide) (by decide) (fun J2 q1 q2 => ?_))
      refine v_iload_3 dX12_keep_51 ?_
      refine v_iconst (v := nI 1) dX12_keep_52 (by decide) ?_
      refine v_iadd dX12_keep_53 ?_
      rw [nI_add]
      refine v_iret dX12_keep_54 rfl rfl rfl rfl ?_
      rw [show n + 1 = (if n < 12 then n + 1 else 12) from (if_pos (by omega)).symm]
      refine hQ J2 (fun k hk => ?_) q2
      rw [if_pos (by omega), q1 k]
      by_cases h : 87 * n ≤ k ∧ k < 87 * n + 87
      · rw [if_pos h, if_pos h, Nat.zero_add]
      · rw [if_neg h, if_neg h]
    · exact absurd hc5 (fun q => h12 ((nI_eq (by omega) (by decide)).mp q))
theorem c_X12_did {u : Nat} (hR : RO R) (hu : I 157 23 = nI u) (hu12 : u ≤ 12) (hQ : ∀ J : HI, (∀ k, k < 1044 → J 165 k = if u < 12 then (if 87 * u ≤ k ∧ k < 87 * u + 87 then I 164 (k - 87 * u) else I 165 k) else (if k < 957 then I 165 (k + 87) else I 164 (k - 957))) → J 157 23 = nI (upU u) → J 157 24 = nI 0 → (∀ j, j ≠ 23 → j ≠ 24 → J 157 j = I 157 j) → (∀ x, x ≠ 165 → x ≠ 157 → J x = I x) → Q (some (.int 1)) SH J L R) : KK 2 mX12_did b ad [.ref (b + 157)] I L R Q := by
  refine K.of (M := mX12_did) (lv := [some (.ref (b + 157))]) (by decide) (Nat.le_of_ble_eq_true rfl) rfl ?_
  refine v_aload_0 dX12_did_0 ?_
  refine v_aload_0 dX12_did_1 ?_
  refine u_getR dX12_did_2 gf_X12_35 (by first | assumption | rfl | exact led_1 (by assumption) | exact led_2 (by assumption) | exact bk_m (by assumption) (by first | assumption | omega) | exact bk_p (by assumption) (by first | assumption | omega) | exact bk_o (by assumption) (by first | assumption | omega) | exact bk_s (by assumption) (by first | assumption | omega) | exact bk_1 (by assumption) | exact bk_2 (by assumption) | exact bk_3 (by assumption) | exact bk_4 (by assumption) | exact bk_5 (by assumption) | exact bk_6 (by assumption) | exact bk_7 (by assumption) | exact bk_8 (by assumption) | exact sh_ring _ (by first | assumption | omega) | exact sh_imgs _ (by first | assumption | omega)) (ro_X12_20 (by assumption)) ?_
  refine v_aload_0 dX12_did_5 ?_
  refine u_getI dX12_did_6 gf_X12_189 (by first | assumption | rfl | exact led_1 (by assumption) | exact led_2 (by assumption) | exact bk_m (by assumption) (by first | assumption | omega) | exact bk_p (by assumption) (by first | assumption | omega) | exact bk_o (by assumption) (by first | assumption | omega) | exact bk_s (by assumption) (by first | assumption | omega) | exact bk_1 (by assumption) | exact bk_2 (by assumption) | exact bk_3 (by assumption) | exact bk_4 (by assumption) | exact bk_5 (by assumption) | exact bk_6 (by assumption) | exact bk_7 (by assumption) | exact bk_8 (by assumption) | exact sh_ring _ (by first | assumption | omega) | exact sh_imgs _ (by first | assumption | omega)) ?_
  rw [hu]
  refine v_aload_0 dX12_did_9 ?_
  refine u_getR dX12_did_10 gf_X12_32 (by first | assumption | rfl | exact led_1 (by assumption) | exact led_2 (by assumption) | exact bk_m (by assumption) (by first | assumption | omega) | exact bk_p (by assumption) (by first | assumption | omega) | exact bk_o (by assumption) (by first | assumption | omega) | exact bk_s (by assumption) (by first | assumption | omega) | exact bk_1 (by assumption) | exact bk_2 (by assumption) | exact bk_3 (by assumption) | exact bk_4 (by assumption) | exact bk_5 (by assumption) | exact bk_6 (by assumption) | exact bk_7 (by assumption) | exact bk_8 (by assumption) | exact sh_ring _ (by first | assumption | omega) | exact sh_imgs _ (by first | assumption | omega)) (ro_X12_19 (by assumption)) ?_
  refine u_callS_3 dX12_did_13 ml_X12_419 ms_X12_keep (by decide) (Nat.le_of_ble_eq_true rfl) (c_X12_keep (n := u) rfl rfl (by decide) hu12 (fun J q1 q2 => ?_))
  refine u_putI dX12_did_16 gf_X12_189 (by first | assumption | rfl | exact led_1 (by assumption) | exact led_2 (by assumption) | exact bk_m (by assumption) (by first | assumption | omega) | exact bk_p (by assumption) (by first | assumption | omega) | exact bk_o (by assumption) (by first | assumption | omega) | exact bk_s (by assumption) (by first | assumption | omega) | exact bk_1 (by assumption) | exact bk_2 (by assumption) | exact bk_3 (by assumption) | exact bk_4 (by assumption) | exact bk_5 (by assumption) | exact bk_6 (by assumption) | exact bk_7 (by assumption) | exact bk_8 (by assumption) | exact sh_ring _ (by first | assumption | omega) | exact sh_imgs _ (by first | assumption | omega)) rfl rfl rfl ?_
  refine v_aload_0 dX12_did_19 ?_
  refine v_iconst (v := nI 0) dX12_did_20 (by decide) ?_
  refine u_putI dX12_did_21 gf_X12_192 (by first | assumption | rfl | exact led_1 (by assumption) | exact led_2 (by assumption) | exact bk_m (by assumption) (by first | assumption | omega) | exact bk_p (by assumption) (by first | assumption | omega) | exact bk_o (by assumption) (by first | assumption | omega) | exact bk_s (by assumption) (by first | assumption | omega) | exact bk_1 (by assumption) | exact bk_2 (by assumption) | exact bk_3 (by assumption) | exact bk_4 (by assumption) | exact bk_5 (by assumption) | exact bk_6 (by assumption) | exact bk_7 (by assumption) | exact bk_8 (by assumption) | exact sh_ring _ (by first | assumption | omega) | exact sh_imgs _ (by first | assumption | omega)) rfl rfl rfl ?_
  refine v_iconst (v := nI 1) dX12_did_24 (by decide) ?_
  refine v_zret dX12_did_25 (by first | rfl | exact bI_n _) rfl rfl rfl rfl ?_
  refine hQ _ (fun k hk => by rw [ui_ne (by decide), ui_ne (by decide)]; exact q1 k hk) ?_ (ui_s _ _ _ _) (fun j a1 a2 => by rw [ui_o a2, ui_o a1, q2 157 (by decide)]) (fun x a1 a2 => by rw [ui_ne a2, ui_ne a2]; exact q2 x a1)
  rw [ui_o (by decide), ui_s]
  unfold upU
  by_cases h : u < 12
  · rw [if_pos h]; by_cases h2 : u + 1 < 12
    · rw [if_pos h2]
    · rw [if_neg h2]; congr 1; omega
  · rw [if_neg h, if_neg (by omega)]
end
