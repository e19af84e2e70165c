section
variable {b : Nat} {ad : Nat → Nat} {I : HI} {L : HL} {R : HR} {Q : QT} {a B n d m s : Nat} {F : bkF} {g : lends} {br : Nat → Nat}
theorem BkI.fr {J : HI} (hB : SH B = .inl 0) (h : BkI I B F) (hO : FOK F) (hx : ∀ x, x < 88 → J x = I x) : BkI J B F := by
  have hb : B ≤ 45 := by rcases sh_b2 B (sh_lto hB) hB with rfl | rfl <;> decide
  obtain ⟨k0, k1, k2, k3, k4, k5, k6, -⟩ := id hO
  obtain ⟨q1, q2, q3, q4, q5, q6⟩ := h
  refine ⟨fun j hj => ?_, fun m hm j hj => ?_, fun p hp j hj => ?_, fun o ho j hj => ?_, fun s hs j hj => ?_, fun l hl => ?_⟩
  · rw [hx B (by omega)]; exact q1 j hj
  · rw [hx _ (by omega)]; exact q2 m hm j hj
  · rw [hx _ (by omega)]; exact q3 p hp j hj
  · rw [hx _ (by omega)]; exact q4 o ho j hj
  · rw [hx _ (by omega)]; exact q5 s hs j hj
  · rw [hx _ (by omega), hx _ (by omega), hx _ (by omega)]; exact q6 l hl
theorem bup_snoc {p : Nat → Bool} : ∀ (j i a : Nat), bup p i (j + 1) a = bup p i j a ||| (if p (i + j) then 2 ^ (i + j) else 0)
  | 0, i, a => rfl
  | j + 1, i, a => by
    have h := bup_snoc (p := p) j (i + 1) (a ||| if p i then 2 ^ i else 0)
    rw [show i + 1 + j = i + (j + 1) by omega] at h
    exact h
/-- a mask is weighed: its own entries are as told, all else stays -/
def WmI (I J : HI) (F : bkF) (d m k : Nat) : Prop :=
  J 146 m = zI (balz F m none d) ∧ (∀ q, q < k → fitF F m q = true → J 147 (m * 6 + q) = zI (balz F m (some q) d)) ∧ J 148 m = nI (bup (hlpb F d m) 0 k 0) ∧ (∀ x, x ≠ 146 → x ≠ 147 → x ≠ 148 → J x = I x) ∧ (∀ j, j ≠ m → J 146 j = I 146 j ∧ J 148 j = I 148 j) ∧ (∀ j, (j < m * 6 ∨ m * 6 + 6 ≤ j) → J 147 j = I 147 j)
theorem c_X5_weighMask (hR : RO R) (hB : SH B = .inl 0) (hb : R 145 0 = some B) (hF : BkI I B F) (hO : FOK F) (hm : m < F 2) (hd : d < 2 ^ 31) (hQ : ∀ J, WmI I J F d m (F 3) → Q none SH J L R) : KK 4 mX5_weighMask b ad [.ref (b + 145), .int (nI m), .int (nI d)] I L R Q := by
  obtain ⟨k0, k1, k2, k3, k4, k5, k6, -⟩ := id hO
  refine K.of (M := mX5_weighMask) (lv := [some (.ref (b + 145)), some (.int (nI m)), some (.int (nI d)), none, none]) (by decide) (Nat.le_of_ble_eq_true rfl) rfl ?_
  have hF0 := hF
  have loop : ∀ (j p : Nat) (J : HI) {z : Option Value}, p + j = F 3 → WmI I J F d m p → VV yX5_weighMask cX5_weighMask 5 none 4 Q b ad 26 [some (.ref (b + 145)), some (.int (nI m)), some (.int (nI d)), some (.int (nI p)), z] [] J L R := by
    intro j
    induction j with
    | zero =>
      intro p J z hij hW
      have hF := BkI.fr hB hF0 hO (J := J) (fun x hx => hW.2.2.2.1 x (by omega) (by omega) (by omega))
      refine v_iload_3 dX5_weighMask_26 ?_
      refine v_aload_0 dX5_weighMask_27 ?_
      refine u_getR dX5_weighMask_28 gf_X5_24 (by first | assumption | rfl | exact led_1 (by assumption) | exact led_2 (by assumption) | exact bk_m (by assumption) (by first | assumption | omega) | exact bk_p (by assumption) (by first | assumption | omega) | exact bk_o (by assumption) (by first | assumption | omega) | exact bk_s (by assumption) (by first | assumption | omega) | exact bk_1 (by assumption) | exact bk_2 (by assumption) | exact bk_3 (by assumption) | exact bk_4 (by assumption) | exact bk_5 (by assumption) | exact bk_6 (by assumption) | exact bk_7 (by assumption) | exact bk_8 (by assumption) | exact sh_ring _ (by first | assumption | omega) | exact sh_imgs _ (by first | assumption | omega)) (by assumption) ?_
      refine u_getI dX5_weighMask_31 gf_X5_52 (by first | assumption | rfl | exact led_1 (by assumption) | exact led_2 (by assumption) | exact bk_m (by assumption) (by first | assumption | omega) | exact bk_p (by assumption) (by first | assumption | omega) | exact bk_o (by assumption) (by first | assumption | omega) | exact bk_s (by assumption) (by first | assumption | omega) | exact bk_1 (by assumption) | exact bk_2 (by assumption) | exact bk_3 (by assumption) | exact bk_4 (by assumption) | exact bk_5 (by assumption) | exact bk_6 (by assumption) | exact bk_7 (by assumption) | exact bk_8 (by assumption) | exact sh_ring _ (by first | assumption | omega) | exact sh_imgs _ (by first | assumption | omega)) ?_
      (try rw [bx3 hF])
      refine v_icmp_ge (tgt := 107) dX5_weighMask_34 (by decide) (fun hc34 => ?_) (fun hc34 => ?_)
      · (try rw [nI_leI (by omega) (by omega)] at hc34)
        refine v_vret dX5_weighMask_107 rfl rfl rfl rfl ?_
        have e : p = F 3 := by omega
        subst e
        exact hQ _ hW
      · (try rw [nI_leI (by omega) (by omega)] at hc34)
        exfalso; omega
    | succ j ih =>
      intro p J z hij hW
      have hF := BkI.fr hB hF0 hO (J := J) (fun x hx => hW.2.2.2.1 x (by omega) (by omega) (by omega))
      obtain ⟨w1, w2, w3, w4, w5, w6⟩ := hW
      have hb1 := balz_b hO m none d
      have hb2 := balz_b hO m (some p) d
      refine v_iload_3 dX5_weighMask_26 ?_
      refine v_aload_0 dX5_weighMask_27 ?_
      refine u_getR dX5_weighMask_28 gf_X5_24 (by first | assumption | rfl | exact led_1 (by assumption) | exact led_2 (by assumption) | exact bk_m (by assumption) (by first | assumption | omega) | exact bk_p (by assumption) (by first | assumption | omega) | exact bk_o (by assumption) (by first | assumption | omega) | exact bk_s (by assumption) (by first | assumption | omega) | exact bk_1 (by assumption) | exact bk_2 (by assumption) | exact bk_3 (by assumption) | exact bk_4 (by assumption) | exact bk_5 (by assumption) | exact bk_6 (by assumption) | exact bk_7 (by assumption) | exact bk_8 (by assumption) | exact sh_ring _ (by first | assumption | omega) | exact sh_imgs _ (by first | assumption | omega)) (by assumption) ?_
      refine u_getI dX5_weighMask_31 gf_X5_52 (by first | assumption | rfl | exact led_1 (by assumption) | exact led_2 (by assumption) | exact bk_m (by assumption) (by first | assumption | omega) | exact bk_p (by assumption) (by first | assumption | omega) | exact bk_o (by assumption) (by first | assumption | omega) | exact bk_s (by assumption) (by first | assumption | omega) | exact bk_1 (by assumption) | exact bk_2 (by assumption) | exact bk_3 (by assumption) | exact bk_4 (by assumption) | exact bk_5 (by assumption) | exact bk_6 (by assumption) | exact bk_7 (by assumption) | exact bk_8 (by assumption) | exact sh_ring _ (by first | assumption | omega) | exact sh_imgs _ (by first | assumption | omega)) ?_
      (try rw [bx3 hF])
      refine v_icmp_ge (tgt := 107) dX5_weighMask_34 (by decide) (fun hc34 => ?_) (fun hc34 => ?_)
      · (try rw [nI_leI (by omega) (by omega)] at hc34)
        exfalso; omega
      · (try rw [nI_leI (by omega) (by omega)] at hc34)
        refine v_aload_0 dX5_weighMask_37 ?_
        refine u_getR dX5_weighMask_38 gf_X5_24 (by first | assumption | rfl | exact led_1 (by assumption) | exact led_2 (by assumption) | exact bk_m (by assumption) (by first | assumption | omega) | exact bk_p (by assumption) (by first | assumption | omega) | exact bk_o (by assumption) (by first | assumption | omega) | exact bk_s (by assumption) (by first | assumption | omega) | exact bk_1 (by assumption) | exact bk_2 (by assumption) | exact bk_3 (by assumption) | exact bk_4 (by assumption) | exact bk_5 (by assumption) | exact bk_6 (by assumption) | exact bk_7 (by assumption) | exact bk_8 (by assumption) | exact sh_ring _ (by first | assumption | omega) | exact sh_imgs _ (by first | assumption | omega)) (by assumption) ?_
        refine v_iload_1 dX5_weighMask_41 ?_
        refine v_iload_3 dX5_weighMask_42 ?_
        refine u_callV_2 dX5_weighMask_43 ml_X5_55 mv_X0_suits (by first | assumption | rfl | exact led_1 (by assumption) | exact led_2 (by assumption) | exact bk_m (by assumption) (by first | assumption | omega) | exact bk_p (by assumption) (by first | assumption | omega) | exact bk_o (by assumption) (by first | assumption | omega) | exact bk_s (by assumption) (by first | assumption | omega) | exact bk_1 (by assumption) | exact bk_2 (by assumption) | exact bk_3 (by assumption) | exact bk_4 (by assumption) | exact bk_5 (by assumption) | exact bk_6 (by assumption) | exact bk_7 (by assumption) | exact bk_8 (by assumption) | exact sh_ring _ (by first | assumption | omega) | exact sh_imgs _ (by first | assumption | omega)) (by decide) rfl (by decide) (Nat.le_of_ble_eq_true rfl) (c_X0_suits hR hB hF hO hm (by omega) ?_)
        refine v_if_eq (tgt := 101) dX5_weighMask_46 (by decide) (fun hc46 => ?_) (fun hc46 => ?_)
        · (first | rw [bI_0, Bool.not_eq_false] at hc46 | rw [bI_0] at hc46 | rw [show (0 : Int32) = nI 0 from rfl, nI_eq (by omega) (by omega)] at hc46 | skip)
          refine v_iinc_3 (v := 1) rfl dX5_weighMask_101 (by decide) ?_
          refine v_goto (tgt := 26) dX5_weighMask_104 (by decide) ?_
          rw [← nI_succ]
          refine ih (p + 1) _ (by omega) ⟨w1, fun q hq hf => ?_, ?_, w4, w5, w6⟩
          · by_cases e : q = p
            · subst e; rw [hc46] at hf; cases hf
            · exact w2 q (by omega) hf
          · rw [bup_snoc, Nat.zero_add, if_neg (by simp [hlpb, hc46]), Nat.or_zero]; exact w3
        · (first | rw [bI_0, Bool.not_eq_false] at hc46 | rw [bI_0] at hc46 | rw [show (0 : Int32) = nI 0 from rfl, nI_eq (by omega) (by omega)] at hc46 | skip)
          refine v_aload_0 dX5_weighMask_49 ?_
          refine u_getR dX5_weighMask_50 gf_X5_24 (by first | assumption | rfl | exact led_1 (by assumption) | exact led_2 (by assumption) | exact bk_m (by assumption) (by first | assumption | omega) | exact bk_p (by assumption) (by first | assumption | omega) | exact bk_o (by assumption) (by first | assumption | omega) | exact bk_s (by assumption) (by first | assumption | omega) | exact bk_1 (by assumption) | exact bk_2 (by assumption) | exact bk_3 (by assumption) | exact bk_4 (by assumption) | exact bk_5 (by assumption) | exact bk_6 (by assumption) | exact bk_7 (by assumption) | exact bk_8 (by assumption) | exact sh_ring _ (by first | assumption | omega) | exact sh_imgs _ (by first | assumption | omega)) (by assumption) ?_
          refine v_iload_1 dX5_weighMask_53 ?_
          refine v_iload_3 dX5_weighMask_54 ?_
          refine v_iload_2 dX5_weighMask_55 ?_
          refine u_callV_3 dX5_weighMask_56 ml_X5_48 mv_X0_balanceIf (by first | assumption | rfl | exact led_1 (by assumption) | exact led_2 (by assumption) | exact bk_m (by assumption) (by first | assumption | omega) | exact bk_p (by assumption) (by first | assumption | omega) | exact bk_o (by assumption) (by first | assumption | omega) | exact bk_s (by assumption) (by first | assumption | omega) | exact bk_1 (by assumption) | exact bk_2 (by assumption) | exact bk_3 (by assumption) | exact bk_4 (by assumption) | exact bk_5 (by assumption) | exact bk_6 (by assumption) | exact bk_7 (by assumption) | exact bk_8 (by assumption) | exact sh_ring _ (by first | assumption | omega) | exact sh_imgs _ (by first | assumption | omega)) (by decide) rfl (by decide) (Nat.le_of_ble_eq_true rfl) (c_X0_balanceIf (op := some p) hR hB hF hO (fun q h => by cases h; omega) (by omega) (by omega) ?_)
          rw [balz_eq]
          refine v_istore_4 rfl dX5_weighMask_59 ?_
          refine v_aload_0 dX5_weighMask_61 ?_
          refine u_getR dX5_weighMask_62 gf_X5_15 (by first | assumption | rfl | exact led_1 (by assumption) | exact led_2 (by assumption) | exact bk_m (by assumption) (by first | assumption | omega) | exact bk_p (by assumption) (by first | assumption | omega) | exact bk_o (by assumption) (by first | assumption | omega) | exact bk_s (by assumption) (by first | assumption | omega) | exact bk_1 (by assumption) | exact bk_2 (by assumption) | exact bk_3 (by assumption) | exact bk_4 (by assumption) | exact bk_5 (by assumption) | exact bk_6 (by assumption) | exact bk_7 (by assumption) | exact bk_8 (by assumption) | exact sh_ring _ (by first | assumption | omega) | exact sh_imgs _ (by first | assumption | omega)) (ro_X5_2 (by assumption)) ?_
          refine v_iload_1 dX5_weighMask_65 ?_
          refine v_bipush (v := nI 6) dX5_weighMask_66 (by decide) ?_
          refine v_imul dX5_weighMask_68 ?_
          refine v_iload_3 dX5_weighMask_69 ?_
          refine v_iadd dX5_weighMask_70 ?_
          refine v_iload_4 dX5_weighMask_71 ?_
          refine u_iast dX5_weighMask_73 (by first | assumption | rfl | exact led_1 (by assumption) | exact led_2 (by assumption) | exact bk_m (by assumption) (by first | assumption | omega) | exact bk_p (by assumption) (by first | assumption | omega) | exact bk_o (by assumption) (by first | assumption | omega) | exact bk_s (by assumption) (by first | assumption | omega) | exact bk_1 (by assumption) | exact bk_2 (by assumption) | exact bk_3 (by assumption) | exact bk_4 (by assumption) | exact bk_5 (by assumption) | exact bk_6 (by assumption) | exact bk_7 (by assumption) | exact bk_8 (by assumption) | exact sh_ring _ (by first | assumption | omega) | exact sh_imgs _ (by first | assumption | omega)) (by first | with_reducible rfl | (simp only [nlit, nI_add, pk_mul]; with_reducible rfl) | rfl) (by first | assumption | omega) (by first | assumption | decide) ?_
          refine v_aload_0 dX5_weighMask_74 ?_
          refine u_getR dX5_weighMask_75 gf_X5_18 (by first | assumption | rfl | exact led_1 (by assumption) | exact led_2 (by assumption) | exact bk_m (by assumption) (by first | assumption | omega) | exact bk_p (by assumption) (by first | assumption | omega) | exact bk_o (by assumption) (by first | assumption | omega) | exact bk_s (by assumption) (by first | assumption | omega) | exact bk_1 (by assumption) | exact bk_2 (by assumption) | exact bk_3 (by assumption) | exact bk_4 (by assumption) | exact bk_5 (by assumption) | exact bk_6 (by assumption) | exact bk_7 (by assumption) | exact bk_8 (by assumption) | exact sh_ring _ (by first | assumption | omega) | exact sh_imgs _ (by first | assumption | omega)) (ro_X5_3 (by assumption)) ?_
          refine v_iload_1 dX5_weighMask_78 ?_
          refine v_dup2 dX5_weighMask_79 rfl rfl ?_
          refine u_iald dX5_weighMask_80 (by first | assumption | rfl | exact led_1 (by assumption) | exact led_2 (by assumption) | exact bk_m (by assumption) (by first | assumption | omega) | exact bk_p (by assumption) (by first | assumption | omega) | exact bk_o (by assumption) (by first | assumption | omega) | exact bk_s (by assumption) (by first | assumption | omega) | exact bk_1 (by assumption) | exact bk_2 (by assumption) | exact bk_3 (by assumption) | exact bk_4 (by assumption) | exact bk_5 (by assumption) | exact bk_6 (by assumption) | exact bk_7 (by assumption) | exact bk_8 (by assumption) | exact sh_ring _ (by first | assumption | omega) | exact sh_imgs _ (by first | assumption | omega)) (by first | with_reducible rfl | (simp only [nlit, nI_add, pk_mul]; with_reducible rfl) | rfl) (by first | assumption | omega) (by first | assumption | decide) ?_
          rw [ui_ne (by decide), w3]
          refine v_iload_4 dX5_weighMask_81 ?_
          refine v_aload_0 dX5_weighMask_83 ?_
          refine u_getR dX5_weighMask_84 gf_X5_9 (by first | assumption | rfl | exact led_1 (by assumption) | exact led_2 (by assumption) | exact bk_m (by assumption) (by first | assumption | omega) | exact bk_p (by assumption) (by first | assumption | omega) | exact bk_o (by assumption) (by first | assumption | omega) | exact bk_s (by assumption) (by first | assumption | omega) | exact bk_1 (by assumption) | exact bk_2 (by assumption) | exact bk_3 (by assumption) | exact bk_4 (by assumption) | exact bk_5 (by assumption) | exact bk_6 (by assumption) | exact bk_7 (by assumption) | exact bk_8 (by assumption) | exact sh_ring _ (by first | assumption | omega) | exact sh_imgs _ (by first | assumption | omega)) (ro_X5_1 (by assumption)) ?_
          refine v_iload_1 dX5_weighMask_87 ?_
          refine u_iald dX5_weighMask_88 (by first | assumption | rfl | exact led_1 (by assumption) | exact led_2 (by assumption) | exact bk_m (by assumption) (by first | assumption | omega) | exact bk_p (by assumption) (by first | assumption | omega) | exact bk_o (by assumption) (by first | assumption | omega) | exact bk_s (by assumption) (by first | assumption | omega) | exact bk_1 (by assumption) | exact bk_2 (by assumption) | exact bk_3 (by assumption) | exact bk_4 (by assumption) | exact bk_5 (by assumption) | exact bk_6 (by assumption) | exact bk_7 (by assumption) | exact bk_8 (by assumption) | exact sh_ring _ (by first | assumption | omega) | exact sh_imgs _ (by first | assumption | omega)) (by first | with_reducible rfl | (simp only [nlit, nI_add, pk_mul]; with_reducible rfl) | rfl) (by first | assumption | omega) (by first | assumption | decide) ?_
          rw [ui_ne (by decide), w1]
          refine v_icmp_le (tgt := 98) dX5_weighMask_89 (by decide) (fun hc89 => ?_) (fun hc89 => ?_)
          · (try rw [nI_leI (by omega) (by omega)] at hc89)
            refine v_iconst (v := nI 0) dX5_weighMask_98 (by decide) ?_
            refine v_ior dX5_weighMask_99 ?_
            rw [nx_or]
            refine u_iast dX5_weighMask_100 (by first | assumption | rfl | exact led_1 (by assumption) | exact led_2 (by assumption) | exact bk_m (by assumption) (by first | assumption | omega) | exact bk_p (by assumption) (by first | assumption | omega) | exact bk_o (by assumption) (by first | assumption | omega) | exact bk_s (by assumption) (by first | assumption | omega) | exact bk_1 (by assumption) | exact bk_2 (by assumption) | exact bk_3 (by assumption) | exact bk_4 (by assumption) | exact bk_5 (by assumption) | exact bk_6 (by assumption) | exact bk_7 (by assumption) | exact bk_8 (by assumption) | exact sh_ring _ (by first | assumption | omega) | exact sh_imgs _ (by first | assumption | omega)) (by first | with_reducible rfl | (simp only [nlit, nI_add, pk_mul]; with_reducible rfl) | rfl) (by first | assumption | omega) (by first | assumption | decide) ?_
            refine v_iinc_3 (v := 1) rfl dX5_weighMask_101 (by decide) ?_
            refine v_goto (tgt := 26) dX5_weighMask_104 (by decide) ?_
            rw [← nI_succ]
            refine ih (p + 1) _ (by omega) ⟨by rw [ui_ne (by decide), ui_ne (by decide)]; exact w1, fun q hq hf => ?_, ?_, fun x x1 x2 x3 => by rw [ui_ne x3, ui_ne x2]; exact w4 x x1 x2 x3, fun j hj => ⟨by rw [ui_ne (by decide), ui_ne (by decide)]; exact (w5 j hj).1, by rw [ui_o hj, ui_ne (by decide)]; exact (w5 j hj).2⟩, fun j hj => by rw [ui_ne (by decide), ui_o (by omega)]; exact w6 j hj⟩
            · rw [ui_ne (by decide)]
              by_cases e : q = p
              · subst e; rw [ui_s]
              · rw [ui_o (by omega)]; exact w2 q (by omega) hf
            · rw [ui_s, bup_snoc, Nat.zero_add]
              first
                | (rw [if_pos (by simp only [hlpb, hc46, Bool.true_and, decide_eq_true_eq]; exact Int.not_le.mp (fun z => hc89 ((zI_le (by omega) (by omega) (by omega) (by omega)).mpr z)))]; done)
                | (rw [if_neg (by simp only [hlpb, hc46, Bool.true_and, decide_eq_true_eq]; exact Int.not_lt.mpr ((zI_le (by omega) (by omega) (by omega) (by omega)).mp hc89))]; done)
          · (try rw [nI_leI (by omega) (by omega)] at hc89)
            refine v_iconst (v := nI 1) dX5_weighMask_92 (by decide) ?_
            refine v_iload_3 dX5_weighMask_93 ?_
            refine v_ishl dX5_weighMask_94 ?_
            rw [one_shl (by omega)]
            refine v_goto (tgt := 99) dX5_weighMask_95 (by decide) ?_
            refine v_ior dX5_weighMask_99 ?_
            rw [nx_or]
            refine u_iast dX5_weighMask_100 (by first | assumption | rfl | exact led_1 (by assumption) | exact led_2 (by assumption) | exact bk_m (by assumption) (by first | assumption | omega) | exact bk_p (by assumption) (by first | assumption | omega) | exact bk_o (by assumption) (by first | assumption | omega) | exact bk_s (by assumption) (by first | assumption | omega) | exact bk_1 (by assumption) | exact bk_2 (by assumption) | exact bk_3 (by assumption) | exact bk_4 (by assumption) | exact bk_5 (by assumption) | exact bk_6 (by assumption) | exact bk_7 (by assumption) | exact bk_8 (by assumption) | exact sh_ring _ (by first | assumption | omega) | exact sh_imgs _ (by first | assumption | omega)) (by first | with_reducible rfl | (simp only [nlit, nI_add, pk_mul]; with_reducible rfl) | rfl) (by first | assumption | omega) (by first | assumption | decide) ?_
            refine v_iinc_3 (v := 1) rfl dX5_weighMask_101 (by decide) ?_
            refine v_goto (tgt := 26) dX5_weighMask_104 (by decide) ?_
            rw [← nI_succ]
            refine ih (p + 1) _ (by omega) ⟨by rw [ui_ne (by decide), ui_ne (by decide)]; exact w1, fun q hq hf => ?_, ?_, fun x x1 x2 x3 => by rw [ui_ne x3, ui_ne x2]; exact w4 x x1 x2 x3, fun j hj => ⟨by rw [ui_ne (by decide), ui_ne (by decide)]; exact (w5 j hj).1, by rw [ui_o hj, ui_ne (by decide)]; exact (w5 j hj).2⟩, fun j hj => by rw [ui_ne (by decide), ui_o (by omega)]; exact w6 j hj⟩
            · rw [ui_ne (by decide)]
              by_cases e : q = p
              · subst e; rw [ui_s]
              · rw [ui_o (by omega)]; exact w2 q (by omega) hf
            · rw [ui_s, bup_snoc, Nat.zero_add]
              first
                | (rw [if_pos (by simp only [hlpb, hc46, Bool.true_and, decide_eq_true_eq]; exact Int.not_le.mp (fun z => hc89 ((zI_le (by omega) (by omega) (by omega) (by omega)).mpr z)))]; done)
                | (rw [if_neg (by simp only [hlpb, hc46, Bool.true_and, decide_eq_true_eq]; exact Int.not_lt.mpr ((zI_le (by omega) (by omega) (by omega) (by omega)).mp hc89))]; done)
  refine v_aload_0 dX5_weighMask_0 ?_
  refine u_getR dX5_weighMask_1 gf_X5_9 (by first | assumption | rfl | exact led_1 (by assumption) | exact led_2 (by assumption) | exact bk_m (by assumption) (by first | assumption | omega) | exact bk_p (by assumption) (by first | assumption | omega) | exact bk_o (by assumption) (by first | assumption | omega) | exact bk_s (by assumption) (by first | assumption | omega) | exact bk_1 (by assumption) | exact bk_2 (by assumption) | exact bk_3 (by assumption) | exact bk_4 (by assumption) | exact bk_5 (by assumption) | exact bk_6 (by assumption) | exact bk_7 (by assumption) | exact bk_8 (by assumption) | exact sh_ring _ (by first | assumption | omega) | exact sh_imgs _ (by first | assumption | omega)) (ro_X5_1 (by assumption)) ?_
  refine v_iload_1 dX5_weighMask_4 ?_
  refine v_aload_0 dX5_weighMask_5 ?_
  refine u_getR dX5_weighMask_6 gf_X5_24 (by first | assumption | rfl | exact led_1 (by assumption) | exact led_2 (by assumption) | exact bk_m (by assumption) (by first | assumption | omega) | exact bk_p (by assumption) (by first | assumption | omega) | exact bk_o (by assumption) (by first | assumption | omega) | exact bk_s (by assumption) (by first | assumption | omega) | exact bk_1 (by assumption) | exact bk_2 (by assumption) | exact bk_3 (by assumption) | exact bk_4 (by assumption) | exact bk_5 (by assumption) | exact bk_6 (by assumption) | exact bk_7 (by assumption) | exact bk_8 (by assumption) | exact sh_ring _ (by first | assumption | omega) | exact sh_imgs _ (by first | assumption | omega)) (by assumption) ?_
  refine v_iload_1 dX5_weighMask_9 ?_
  refine v_bipush (v := -2) dX5_weighMask_10 (by decide) ?_
  refine v_iload_2 dX5_weighMask_12 ?_
  refine u_callV_3 dX5_weighMask_13 ml_X5_48 mv_X0_balanceIf (by first | assumption | rfl | exact led_1 (by assumption) | exact led_2 (by assumption) | exact bk_m (by assumption) (by first | assumption | omega) | exact bk_p (by assumption) (by first | assumption | omega) | exact bk_o (by assumption) (by first | assumption | omega) | exact bk_s (by assumption) (by first | assumption | omega) | exact bk_1 (by assumption) | exact bk_2 (by assumption) | exact bk_3 (by assumption) | exact bk_4 (by assumption) | exact bk_5 (by assumption) | exact bk_6 (by assumption) | exact bk_7 (by assumption) | exact bk_8 (by assumption) | exact sh_ring _ (by first | assumption | omega) | exact sh_imgs _ (by first | assumption | omega)) (by decide) rfl (by decide) (Nat.le_of_ble_eq_true rfl) (c_X0_balanceIf (op := none) hR hB hF hO (fun q h => by cases h) (by omega) (by omega) ?_)
  rw [balz_eq]
  refine u_iast dX5_weighMask_16 (by first | assumption | rfl | exact led_1 (by assumption) | exact led_2 (by assumption) | exact bk_m (by assumption) (by first | assumption | omega) | exact bk_p (by assumption) (by first | assumption | omega) | exact bk_o (by assumption) (by first | assumption | omega) | exact bk_s (by assumption) (by first | assumption | omega) | exact bk_1 (by assumption) | exact bk_2 (by assumption) | exact bk_3 (by assumption) | exact bk_4 (by assumption) | exact bk_5 (by assumption) | exact bk_6 (by assumption) | exact bk_7 (by assumption) | exact bk_8 (by assumption) | exact sh_ring _ (by first | assumption | omega) | exact sh_imgs _ (by first | assumption | omega)) (by first | with_reducible rfl | (simp only [nlit, nI_add, pk_mul]; with_reducible rfl) | rfl) (by first | assumption | omega) (by first | assumption | decide) ?_
  refine v_aload_0 dX5_weighMask_17 ?_
  refine u_getR dX5_weighMask_18 gf_X5_18 (by first | assumption | rfl | exact led_1 (by assumption) | exact led_2 (by assumption) | exact bk_m (by assumption) (by first | assumption | omega) | exact bk_p (by assumption) (by first | assumption | omega) | exact bk_o (by assumption) (by first | assumption | omega) | exact bk_s (by assumption) (by first | assumption | omega) | exact bk_1 (by assumption) | exact bk_2 (by assumption) | exact bk_3 (by assumption) | exact bk_4 (by assumption) | exact bk_5 (by assumption) | exact bk_6 (by assumption) | exact bk_7 (by assumption) | exact bk_8 (by assumption) | exact sh_ring _ (by first | assumption | omega) | exact sh_imgs _ (by first | assumption | omega)) (ro_X5_3 (by assumption)) ?_
  refine v_iload_1 dX5_weighMask_21 ?_
  refine v_iconst (v := nI 0) dX5_weighMask_22 (by decide) ?_
  refine u_iast dX5_weighMask_23 (by first | assumption | rfl | exact led_1 (by assumption) | exact led_2 (by assumption) | exact bk_m (by assumption) (by first | assumption | omega) | exact bk_p (by assumption) (by first | assumption | omega) | exact bk_o (by assumption) (by first | assumption | omega) | exact bk_s (by assumption) (by first | assumption | omega) | exact bk_1 (by assumption) | exact bk_2 (by assumption) | exact bk_3 (by assumption) | exact bk_4 (by assumption) | exact bk_5 (by assumption) | exact bk_6 (by assumption) | exact bk_7 (by assumption) | exact bk_8 (by assumption) | exact sh_ring _ (by first | assumption | omega) | exact sh_imgs _ (by first | assumption | omega)) (by first | with_reducible rfl | (simp only [nlit, nI_add, pk_mul]; with_reducible rfl) | rfl) (by first | assumption | omega) (by first | assumption | decide) ?_
  refine v_iconst (v := nI 0) dX5_weighMask_24 (by decide) ?_
  refine v_istore_3 rfl dX5_weighMask_25 ?_
  exact loop (F 3) 0 _ (by omega) ⟨by rw [ui_ne (by decide), ui_s], fun q hq => by omega, by rw [ui_s]; rfl, fun x x1 x2 x3 => by rw [ui_ne x3, ui_ne x1], fun j hj => ⟨by rw [ui_ne (by decide), ui_o hj], by rw [ui_o hj, ui_ne (by decide)]⟩, fun j hj => by rw [ui_ne (by decide), ui_ne (by decide)]⟩
end
