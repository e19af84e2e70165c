def FrK (I J : HI) : Prop := (∀ x, x ≠ 157 → x ≠ 159 → x ≠ 161 → x ≠ 163 → J x = I x) ∧ ∀ k, (k < 4 ∨ 10 < k ∧ k ≠ 13) → J 157 k = I 157 k
theorem FrK.refl {I : HI} : FrK I I := ⟨fun _ _ _ _ _ => rfl, fun _ _ => rfl⟩
theorem FrP.k {I J : HI} (h : FrP I J) : FrK I J := ⟨fun x a c _ _ => h.1 x a c, h.2⟩
theorem FrK.trans {I J K : HI} (h : FrK I J) (g : FrK J K) : FrK I K := ⟨fun x a c d f => (g.1 x a c d f).trans (h.1 x a c d f), fun k a => (g.2 k a).trans (h.2 k a)⟩
theorem FrK.up {I J : HI} {j : Nat} {v : Int32} (h : FrK I J) : FrK I (ui J 161 j v) := ⟨fun x a c d f => by rw [ui_ne d]; exact h.1 x a c d f, fun k a => by rw [ui_ne (by decide)]; exact h.2 k a⟩
theorem LvM.put {J : HI} {tp : Nat → Nat} {sz e j v : Nat} {G : bkF} {l : LSt} (h : LvM J tp sz e G l) (hv : v < 2 ^ 30) : LvM (ui J 161 j (nI v)) tp sz e (setF G j v) l :=
  ⟨⟨by rw [ui_ne (by decide)]; exact h.1.1, h.1.2.1, fun i hi => by rw [ui_ne (by decide)]; exact h.1.2.2 i hi⟩, h.2.1, by rw [ui_ne (by decide)]; exact h.2.2.1, by
    have t := h.2.2.2.1
    unfold TkM
    rw [ui_ne (by decide), ui_ne (by decide)]
    exact t, fun k hk => by
    by_cases e : k = j
    · subst e; rw [ui_s, setF_s]; exact ⟨rfl, hv⟩
    · rw [ui_o e, setF_n e]; exact h.2.2.2.2.1 k hk, h.2.2.2.2.2.fr (ui_ne (by decide))⟩
theorem LvM.cg {J : HI} {tp : Nat → Nat} {sz e : Nat} {G G' : bkF} {l : LSt} (h : LvM J tp sz e G l) (hg : ∀ k, k < 345 → G' k = G k) : LvM J tp sz e G' l :=
  ⟨h.1, h.2.1, h.2.2.1, h.2.2.2.1, fun k hk => by rw [hg k hk]; exact h.2.2.2.2.1 k hk, h.2.2.2.2.2⟩
theorem FlM.put {J : HI} {f p j : Nat} {v : Int32} (h : FlM J f p) : FlM (ui J 161 j v) f p := by
  unfold FlM
  rw [ui_ne (by decide)]
  exact h
theorem wth0 : ∀ n, n < 17 → (decide (nI 0 ≤ nI n) && decide (nI n ≤ nI 5 - nI 1)) = decide (bas 0 ≤ n ∧ n < bas 0 + rom 0) := by decide
theorem wth1 : ∀ n, n < 17 → (decide (nI 0 ≤ nI n - nI 5) && decide (nI n - nI 5 ≤ nI 6 - nI 1)) = decide (bas 1 ≤ n ∧ n < bas 1 + rom 1) := by decide
theorem wth2 : ∀ n, n < 17 → (decide (nI 0 ≤ nI n - nI 5 - nI 6) && decide (nI n - nI 5 - nI 6 ≤ nI 6 - nI 1)) = decide (bas 2 ≤ n ∧ n < bas 2 + rom 2) := by decide
section
variable {b : Nat} {ad : Nat → Nat} {I J : HI} {L M : HL} {R : HR} {Q : QT} {tp : Nat → Nat} {sz k e : Nat} {G F : bkF} {l : LSt} {s : PS}
theorem c_X12_mustName (hR : RO R) (h : LvM I tp sz e G l) (hF : nmok tp sz e = false → ∀ J : HI, FlM J 1 (tA tp sz e) → FrP I J → Q none SH J L R) (hY : nmok tp sz e = true → Q none SH I L R) : KK 5 mX12_mustName b ad [.ref (b + 157)] I L R Q := by
  obtain ⟨h1, he, h13, ⟨t4, t5, t6, t7, t8⟩, -, -⟩ := id h
  have hk9 : tK tp sz e < 60 := by unfold tK; (repeat' split) <;> omega
  have hr : isR tp sz e = (isW tp sz (wd 28) e || (isW tp sz (wd 30) e || (isW tp sz (wd 31) e || (isW tp sz (wd 32) e || (isW tp sz (wd 33) e || (isW tp sz (wd 34) e || (isW tp sz (wd 35) e || (isW tp sz (wd 36) e || (isW tp sz (wd 37) e || (isW tp sz (wd 38) e || (isW tp sz (wd 39) e || (isW tp sz (wd 40) e || (isW tp sz (wd 41) e || false))))))))))))) := rfl
  have cut : ∀ bv : Bool, isR tp sz e = bv → VV yX12_mustName cX12_mustName 2 none 5 Q b ad 122 [some (.ref (b + 157)), none] [.int (bI bv)] I L R := by
    intro bv eb
    refine v_istore_1 rfl dX12_mustName_122 ?_
    refine v_aload_0 dX12_mustName_123 ?_
    refine u_getI dX12_mustName_124 gf_X12_82 (by first | assumption | rfl | exact led_1 (by assumption) | exact led_2 (by assumption) | exact bk_m (by assumption) (by first | assumption | omega) | exact bk_p (by assumption) (by first | assumption | omega) | exact bk_o (by assumption) (by first | assumption | omega) | exact bk_s (by assumption) (by first | assumption | omega) | exact bk_1 (by assumption) | exact bk_2 (by assumption) | exact bk_3 (by assumption) | exact bk_4 (by assumption) | exact bk_5 (by assumption) | exact bk_6 (by assumption) | exact bk_7 (by assumption) | exact bk_8 (by assumption) | exact sh_ring _ (by first | assumption | omega) | exact sh_imgs _ (by first | assumption | omega)) ?_
    rw [t6]
    refine v_iconst (v := nI 2) dX12_mustName_127 (by decide) ?_
    refine v_icmp_ne (tgt := 135) dX12_mustName_128 (by decide) (fun hc128 => ?_) (fun hc128 => ?_)
    · rw [nI_eq (by omega) (by decide)] at hc128
      refine v_aload_0 dX12_mustName_135 ?_
      refine v_iconst (v := nI 1) dX12_mustName_136 (by decide) ?_
      refine v_aload_0 dX12_mustName_137 ?_
      refine u_getI dX12_mustName_138 gf_X12_73 (by first | assumption | rfl | exact led_1 (by assumption) | exact led_2 (by assumption) | exact bk_m (by assumption) (by first | assumption | omega) | exact bk_p (by assumption) (by first | assumption | omega) | exact bk_o (by assumption) (by first | assumption | omega) | exact bk_s (by assumption) (by first | assumption | omega) | exact bk_1 (by assumption) | exact bk_2 (by assumption) | exact bk_3 (by assumption) | exact bk_4 (by assumption) | exact bk_5 (by assumption) | exact bk_6 (by assumption) | exact bk_7 (by assumption) | exact bk_8 (by assumption) | exact sh_ring _ (by first | assumption | omega) | exact sh_imgs _ (by first | assumption | omega)) ?_
      rw [t4]
      refine u_callV_2 dX12_mustName_141 ml_X12_119 mv_X12_wrong (by first | assumption | rfl | exact led_1 (by assumption) | exact led_2 (by assumption) | exact bk_m (by assumption) (by first | assumption | omega) | exact bk_p (by assumption) (by first | assumption | omega) | exact bk_o (by assumption) (by first | assumption | omega) | exact bk_s (by assumption) (by first | assumption | omega) | exact bk_1 (by assumption) | exact bk_2 (by assumption) | exact bk_3 (by assumption) | exact bk_4 (by assumption) | exact bk_5 (by assumption) | exact bk_6 (by assumption) | exact bk_7 (by assumption) | exact bk_8 (by assumption) | exact sh_ring _ (by first | assumption | omega) | exact sh_imgs _ (by first | assumption | omega)) (by decide) rfl (by decide) (Nat.le_of_ble_eq_true rfl) (c_X12_wrong h13 ?_)
      refine v_vret dX12_mustName_144 rfl rfl rfl rfl ?_
      first
        | exact hY (by unfold nmok; rw [decide_eq_true hc128, eb, hc132]; rfl)
        | exact hF (by unfold nmok; rw [decide_eq_false hc128]; rfl) _ wrong_fl.1 wrong_fl.2
        | exact hF (by unfold nmok; rw [decide_eq_true hc128, eb, hc132]; rfl) _ wrong_fl.1 wrong_fl.2
    · rw [nI_eq (by omega) (by decide)] at hc128
      refine v_iload_1 dX12_mustName_131 ?_
      refine v_if_eq (tgt := 144) dX12_mustName_132 (by decide) (fun hc132 => ?_) (fun hc132 => ?_)
      · (first | rw [bI_0, Bool.not_eq_false] at hc132 | rw [bI_0] at hc132 | rw [show (0 : Int32) = nI 0 from rfl, nI_eq (by omega) (by omega)] at hc132 | skip)
        refine v_vret dX12_mustName_144 rfl rfl rfl rfl ?_
        first
          | exact hY (by unfold nmok; rw [decide_eq_true hc128, eb, hc132]; rfl)
          | exact hF (by unfold nmok; rw [decide_eq_false hc128]; rfl) _ wrong_fl.1 wrong_fl.2
          | exact hF (by unfold nmok; rw [decide_eq_true hc128, eb, hc132]; rfl) _ wrong_fl.1 wrong_fl.2
      · (first | rw [bI_0, Bool.not_eq_false] at hc132 | rw [bI_0] at hc132 | rw [show (0 : Int32) = nI 0 from rfl, nI_eq (by omega) (by omega)] at hc132 | skip)
        refine v_aload_0 dX12_mustName_135 ?_
        refine v_iconst (v := nI 1) dX12_mustName_136 (by decide) ?_
        refine v_aload_0 dX12_mustName_137 ?_
        refine u_getI dX12_mustName_138 gf_X12_73 (by first | assumption | rfl | exact led_1 (by assumption) | exact led_2 (by assumption) | exact bk_m (by assumption) (by first | assumption | omega) | exact bk_p (by assumption) (by first | assumption | omega) | exact bk_o (by assumption) (by first | assumption | omega) | exact bk_s (by assumption) (by first | assumption | omega) | exact bk_1 (by assumption) | exact bk_2 (by assumption) | exact bk_3 (by assumption) | exact bk_4 (by assumption) | exact bk_5 (by assumption) | exact bk_6 (by assumption) | exact bk_7 (by assumption) | exact bk_8 (by assumption) | exact sh_ring _ (by first | assumption | omega) | exact sh_imgs _ (by first | assumption | omega)) ?_
        rw [t4]
        refine u_callV_2 dX12_mustName_141 ml_X12_119 mv_X12_wrong (by first | assumption | rfl | exact led_1 (by assumption) | exact led_2 (by assumption) | exact bk_m (by assumption) (by first | assumption | omega) | exact bk_p (by assumption) (by first | assumption | omega) | exact bk_o (by assumption) (by first | assumption | omega) | exact bk_s (by assumption) (by first | assumption | omega) | exact bk_1 (by assumption) | exact bk_2 (by assumption) | exact bk_3 (by assumption) | exact bk_4 (by assumption) | exact bk_5 (by assumption) | exact bk_6 (by assumption) | exact bk_7 (by assumption) | exact bk_8 (by assumption) | exact sh_ring _ (by first | assumption | omega) | exact sh_imgs _ (by first | assumption | omega)) (by decide) rfl (by decide) (Nat.le_of_ble_eq_true rfl) (c_X12_wrong h13 ?_)
        refine v_vret dX12_mustName_144 rfl rfl rfl rfl ?_
        first
          | exact hY (by unfold nmok; rw [decide_eq_true hc128, eb, hc132]; rfl)
          | exact hF (by unfold nmok; rw [decide_eq_false hc128]; rfl) _ wrong_fl.1 wrong_fl.2
          | exact hF (by unfold nmok; rw [decide_eq_true hc128, eb, hc132]; rfl) _ wrong_fl.1 wrong_fl.2
  refine K.of (M := mX12_mustName) (lv := [some (.ref (b + 157)), none]) (by decide) (Nat.le_of_ble_eq_true rfl) rfl ?_
  refine v_aload_0 dX12_mustName_0 ?_
  refine v_ldcS (i := 28) dX12_mustName_1 (by decide) rfl rfl ?_
  refine u_callV_1 dX12_mustName_3 ml_X12_109 mv_X12_isWord (by first | assumption | rfl | exact led_1 (by assumption) | exact led_2 (by assumption) | exact bk_m (by assumption) (by first | assumption | omega) | exact bk_p (by assumption) (by first | assumption | omega) | exact bk_o (by assumption) (by first | assumption | omega) | exact bk_s (by assumption) (by first | assumption | omega) | exact bk_1 (by assumption) | exact bk_2 (by assumption) | exact bk_3 (by assumption) | exact bk_4 (by assumption) | exact bk_5 (by assumption) | exact bk_6 (by assumption) | exact bk_7 (by assumption) | exact bk_8 (by assumption) | exact sh_ring _ (by first | assumption | omega) | exact sh_imgs _ (by first | assumption | omega)) (by decide) rfl (by decide) (Nat.le_of_ble_eq_true rfl) (c_X12_isWord (by decide) hR h ?_)
  refine v_if_ne (tgt := 117) dX12_mustName_6 (by decide) (fun hc6 => ?_) (fun hc6 => ?_)
  · (first | rw [bI_0, Bool.not_eq_false] at hc6 | rw [bI_0] at hc6 | rw [show (0 : Int32) = nI 0 from rfl, nI_eq (by omega) (by omega)] at hc6 | skip)
    refine v_iconst (v := nI 1) dX12_mustName_117 (by decide) ?_
    refine v_goto (tgt := 122) dX12_mustName_118 (by decide) ?_
    first
      | exact cut true (by rw [hr]; simp only [hc6, Bool.or_true, Bool.true_or, Bool.false_or, Bool.or_false])
      | exact cut false (by rw [hr]; simp only [hc6, Bool.or_true, Bool.true_or, Bool.false_or, Bool.or_false])
  · (first | rw [bI_0, Bool.not_eq_false] at hc6 | rw [bI_0] at hc6 | rw [show (0 : Int32) = nI 0 from rfl, nI_eq (by omega) (by omega)] at hc6 | skip)
    refine v_aload_0 dX12_mustName_9 ?_
    refine v_ldcS (i := 30) dX12_mustName_10 (by decide) rfl rfl ?_
    refine u_callV_1 dX12_mustName_12 ml_X12_109 mv_X12_isWord (by first | assumption | rfl | exact led_1 (by assumption) | exact led_2 (by assumption) | exact bk_m (by assumption) (by first | assumption | omega) | exact bk_p (by assumption) (by first | assumption | omega) | exact bk_o (by assumption) (by first | assumption | omega) | exact bk_s (by assumption) (by first | assumption | omega) | exact bk_1 (by assumption) | exact bk_2 (by assumption) | exact bk_3 (by assumption) | exact bk_4 (by assumption) | exact bk_5 (by assumption) | exact bk_6 (by assumption) | exact bk_7 (by assumption) | exact bk_8 (by assumption) | exact sh_ring _ (by first | assumption | omega) | exact sh_imgs _ (by first | assumption | omega)) (by decide) rfl (by decide) (Nat.le_of_ble_eq_true rfl) (c_X12_isWord (by decide) hR h ?_)
    refine v_if_ne (tgt := 117) dX12_mustName_15 (by decide) (fun hc15 => ?_) (fun hc15 => ?_)
    · (first | rw [bI_0, Bool.not_eq_false] at hc15 | rw [bI_0] at hc15 | rw [show (0 : Int32) = nI 0 from rfl, nI_eq (by omega) (by omega)] at hc15 | skip)
      refine v_iconst (v := nI 1) dX12_mustName_117 (by decide) ?_
      refine v_goto (tgt := 122) dX12_mustName_118 (by decide) ?_
      first
        | exact cut true (by rw [hr]; simp only [hc6, hc15, Bool.or_true, Bool.true_or, Bool.false_or, Bool.or_false])
        | exact cut false (by rw [hr]; simp only [hc6, hc15, Bool.or_true, Bool.true_or, Bool.false_or, Bool.or_false])
    · (first | rw [bI_0, Bool.not_eq_false] at hc15 | rw [bI_0] at hc15 | rw [show (0 : Int32) = nI 0 from rfl, nI_eq (by omega) (by omega)] at hc15 | skip)
      refine v_aload_0 dX12_mustName_18 ?_
      refine v_ldcS (i := 31) dX12_mustName_19 (by decide) rfl rfl ?_
      refine u_callV_1 dX12_mustName_21 ml_X12_109 mv_X12_isWord (by first | assumption | rfl | exact led_1 (by assumption) | exact led_2 (by assumption) | exact bk_m (by assumption) (by first | assumption | omega) | exact bk_p (by assumption) (by first | assumption | omega) | exact bk_o (by assumption) (by first | assumption | omega) | exact bk_s (by assumption) (by first | assumption | omega) | exact bk_1 (by assumption) | exact bk_2 (by assumption) | exact bk_3 (by assumption) | exact bk_4 (by assumption) | exact bk_5 (by assumption) | exact bk_6 (by assumption) | exact bk_7 (by assumption) | exact bk_8 (by assumption) | exact sh_ring _ (by first | assumption | omega) | exact sh_imgs _ (by first | assumption | omega)) (by decide) rfl (by decide) (Nat.le_of_ble_eq_true rfl) (c_X12_isWord (by decide) hR h ?_)
      refine v_if_ne (tgt := 117) dX12_mustName_24 (by decide) (fun hc24 => ?_) (fun hc24 => ?_)
      · (first | rw [bI_0, Bool.not_eq_false] at hc24 | rw [bI_0] at hc24 | rw [show (0 : Int32) = nI 0 from rfl, nI_eq (by omega) (by omega)] at hc24 | skip)
        refine v_iconst (v := nI 1) dX12_mustName_117 (by decide) ?_
        refine v_goto (tgt := 122) dX12_mustName_118 (by decide) ?_
        first
          | exact cut true (by rw [hr]; simp only [hc6, hc15, hc24, Bool.or_true, Bool.true_or, Bool.false_or, Bool.or_false])
          | exact cut false (by rw [hr]; simp only [hc6, hc15, hc24, Bool.or_true, Bool.true_or, Bool.false_or, Bool.or_false])
      · (first | rw [bI_0, Bool.not_eq_false] at hc24 | rw [bI_0] at hc24 | rw [show (0 : Int32) = nI 0 from rfl, nI_eq (by omega) (by omega)] at hc24 | skip)
        refine v_aload_0 dX12_mustName_27 ?_
        refine v_ldcS (i := 32) dX12_mustName_28 (by decide) rfl rfl ?_
        refine u_callV_1 dX12_mustName_30 ml_X12_109 mv_X12_isWord (by first | assumption | rfl | exact led_1 (by assumption) | exact led_2 (by assumption) | exact bk_m (by assumption) (by first | assumption | omega) | exact bk_p (by assumption) (by first | assumption | omega) | exact bk_o (by assumption) (by first | assumption | omega) | exact bk_s (by assumption) (by first | assumption | omega) | exact bk_1 (by assumption) | exact bk_2 (by assumption) | exact bk_3 (by assumption) | exact bk_4 (by assumption) | exact bk_5 (by assumption) | exact bk_6 (by assumption) | exact bk_7 (by assumption) | exact bk_8 (by assumption) | exact sh_ring _ (by first | assumption | omega) | exact sh_imgs _ (by first | assumption | omega)) (by decide) rfl (by decide) (Nat.le_of_ble_eq_true rfl) (c_X12_isWord (by decide) hR h ?_)
        refine v_if_ne (tgt := 117) dX12_mustName_33 (by decide) (fun hc33 => ?_) (fun hc33 => ?_)
        · (first | rw [bI_0, Bool.not_eq_false] at hc33 | rw [bI_0] at hc33 | rw [show (0 : Int32) = nI 0 from rfl, nI_eq (by omega) (by omega)] at hc33 | skip)
          refine v_iconst (v := nI 1) dX12_mustName_117 (by decide) ?_
          refine v_goto (tgt := 122) dX12_mustName_118 (by decide) ?_
          first
            | exact cut true (by rw [hr]; simp only [hc6, hc15, hc24, hc33, Bool.or_true, Bool.true_or, Bool.false_or, Bool.or_false])
            | exact cut false (by rw [hr]; simp only [hc6, hc15, hc24, hc33, Bool.or_true, Bool.true_or, Bool.false_or, Bool.or_false])
        · (first | rw [bI_0, Bool.not_eq_false] at hc33 | rw [bI_0] at hc33 | rw [show (0 : Int32) = nI 0 from rfl, nI_eq (by omega) (by omega)] at hc33 | skip)
          refine v_aload_0 dX12_mustName_36 ?_
          refine v_ldcS (i := 33) dX12_mustName_37 (by decide) rfl rfl ?_
          refine u_callV_1 dX12_mustName_39 ml_X12_109 mv_X12_isWord (by first | assumption | rfl | exact led_1 (by assumption) | exact led_2 (by assumption) | exact bk_m (by assumption) (by first | assumption | omega) | exact bk_p (by assumption) (by first | assumption | omega) | exact bk_o (by assumption) (by first | assumption | omega) | exact bk_s (by assumption) (by first | assumption | omega) | exact bk_1 (by assumption) | exact bk_2 (by assumption) | exact bk_3 (by assumption) | exact bk_4 (by assumption) | exact bk_5 (by assumption) | exact bk_6 (by assumption) | exact bk_7 (by assumption) | exact bk_8 (by assumption) | exact sh_ring _ (by first | assumption | omega) | exact sh_imgs _ (by first | assumption | omega)) (by decide) rfl (by decide) (Nat.le_of_ble_eq_true rfl) (c_X12_isWord (by decide) hR h ?_)
          refine v_if_ne (tgt := 117) dX12_mustName_42 (by decide) (fun hc42 => ?_) (fun hc42 => ?_)
          · (first | rw [bI_0, Bool.not_eq_false] at hc42 | rw [bI_0] at hc42 | rw [show (0 : Int32) = nI 0 from rfl, nI_eq (by omega) (by omega)] at hc42 | skip)
            refine v_iconst (v := nI 1) dX12_mustName_117 (by decide) ?_
            refine v_goto (tgt := 122) dX12_mustName_118 (by decide) ?_
            first
              | exact cut true (by rw [hr]; simp only [hc6, hc15, hc24, hc33, hc42, Bool.or_true, Bool.true_or, Bool.false_or, Bool.or_false])
              | exact cut false (by rw [hr]; simp only [hc6, hc15, hc24, hc33, hc42, Bool.or_true, Bool.true_or, Bool.false_or, Bool.or_false])
          · (first | rw [bI_0, Bool.not_eq_false] at hc42 | rw [bI_0] at hc42 | rw [show (0 : Int32) = nI 0 from rfl, nI_eq (by omega) (by omega)] at hc42 | skip)
            refine v_aload_0 dX12_mustName_45 ?_
            refine v_ldcS (i := 34) dX12_mustName_46 (by decide) rfl rfl ?_
            refine u_callV_1 dX12_mustName_48 ml_X12_109 mv_X12_isWord (by first | assumption | rfl | exact led_1 (by assumption) | exact led_2 (by assumption) | exact bk_m (by assumption) (by first | assumption | omega) | exact bk_p (by assumption) (by first | assumption | omega) | exact bk_o (by assumption) (by first | assumption | omega) | exact bk_s (by assumption) (by first | assumption | omega) | exact bk_1 (by assumption) | exact bk_2 (by assumption) | exact bk_3 (by assumption) | exact bk_4 (by assumption) | exact bk_5 (by assumption) | exact bk_6 (by assumption) | exact bk_7 (by assumption) | exact bk_8 (by assumption) | exact sh_ring _ (by first | assumption | omega) | exact sh_imgs _ (by first | assumption | omega)) (by decide) rfl (by decide) (Nat.le_of_ble_eq_true rfl) (c_X12_isWord (by decide) hR h ?_)
            refine v_if_ne (tgt := 117) dX12_mustName_51 (by decide) (fun hc51 => ?_) (fun hc51 => ?_)
            · (first | rw [bI_0, Bool.not_eq_false] at hc51 | rw [bI_0] at hc51 | rw [show (0 : Int32) = nI 0 from rfl, nI_eq (by omega) (by omega)] at hc51 | skip)
              refine v_iconst (v := nI 1) dX12_mustName_117 (by decide) ?_
              refine v_goto (tgt := 122) dX12_mustName_118 (by decide) ?_
              first
                | exact cut true (by rw [hr]; simp only [hc6, hc15, hc24, hc33, hc42, hc51, Bool.or_true, Bool.true_or, Bool.false_or, Bool.or_false])
                | exact cut false (by rw [hr]; simp only [hc6, hc15, hc24, hc33, hc42, hc51, Bool.or_true, Bool.true_or, Bool.false_or, Bool.or_false])
            · (first | rw [bI_0, Bool.not_eq_false] at hc51 | rw [bI_0] at hc51 | rw [show (0 : Int32) = nI 0 from rfl, nI_eq (by omega) (by omega)] at hc51 | skip)
              refine v_aload_0 dX12_mustName_54 ?_
              refine v_ldcS (i := 35) dX12_mustName_55 (by decide) rfl rfl ?_
              refine u_callV_1 dX12_mustName_57 ml_X12_109 mv_X12_isWord (by first | assumption | rfl | exact led_1 (by assumption) | exact led_2 (by assumption) | exact bk_m (by assumption) (by first | assumption | omega) | exact bk_p (by assumption) (by first | assumption | omega) | exact bk_o (by assumption) (by first | assumption | omega) | exact bk_s (by assumption) (by first | assumption | omega) | exact bk_1 (by assumption) | exact bk_2 (by assumption) | exact bk_3 (by assumption) | exact bk_4 (by assumption) | exact bk_5 (by assumption) | exact bk_6 (by assumption) | exact bk_7 (by assumption) | exact bk_8 (by assumption) | exact sh_ring _ (by first | assumption | omega) | exact sh_imgs _ (by first | assumption | omega)) (by decide) rfl (by decide) (Nat.le_of_ble_eq_true rfl) (c_X12_isWord (by decide) hR h ?_)
              refine v_if_ne (tgt := 117) dX12_mustName_60 (by decide) (fun hc60 => ?_) (fun hc60 => ?_)
              · (first | rw [bI_0, Bool.not_eq_false] at hc60 | rw [bI_0] at hc60 | rw [show (0 : Int32) = nI 0 from rfl, nI_eq (by omega) (by omega)] at hc60 | skip)
                refine v_iconst (v := nI 1) dX12_mustName_117 (by decide) ?_
                refine v_goto (tgt := 122) dX12_mustName_118 (by decide) ?_
                first
                  | exact cut true (by rw [hr]; simp only [hc6, hc15, hc24, hc33, hc42, hc51, hc60, Bool.or_true, Bool.true_or, Bool.false_or, Bool.or_false])
                  | exact cut false (by rw [hr]; simp only [hc6, hc15, hc24, hc33, hc42, hc51, hc60, Bool.or_true, Bool.true_or, Bool.false_or, Bool.or_false])
              · (first | rw [bI_0, Bool.not_eq_false] at hc60 | rw [bI_0] at hc60 | rw [show (0 : Int32) = nI 0 from rfl, nI_eq (by omega) (by omega)] at hc60 | skip)
                refine v_aload_0 dX12_mustName_63 ?_
                refine v_ldcS (i := 36) dX12_mustName_64 (by decide) rfl rfl ?_
                refine u_callV_1 dX12_mustName_66 ml_X12_109 mv_X12_isWord (by first | assumption | rfl | exact led_1 (by assumption) | exact led_2 (by assumption) | exact bk_m (by assumption) (by first | assumption | omega) | exact bk_p (by assumption) (by first | assumption | omega) | exact bk_o (by assumption) (by first | assumption | omega) | exact bk_s (by assumption) (by first | assumption | omega) | exact bk_1 (by assumption) | exact bk_2 (by assumption) | exact bk_3 (by assumption) | exact bk_4 (by assumption) | exact bk_5 (by assumption) | exact bk_6 (by assumption) | exact bk_7 (by assumption) | exact bk_8 (by assumption) | exact sh_ring _ (by first | assumption | omega) | exact sh_imgs _ (by first | assumption | omega)) (by decide) rfl (by decide) (Nat.le_of_ble_eq_true rfl) (c_X12_isWord (by decide) hR h ?_)
                refine v_if_ne (tgt := 117) dX12_mustName_69 (by decide) (fun hc69 => ?_) (fun hc69 => ?_)
                · (first | rw [bI_0, Bool.not_eq_false] at hc69 | rw [bI_0] at hc69 | rw [show (0 : Int32) = nI 0 from rfl, nI_eq (by omega) (by omega)] at hc69 | skip)
                  refine v_iconst (v := nI 1) dX12_mustName_117 (by decide) ?_
                  refine v_goto (tgt := 122) dX12_mustName_118 (by decide) ?_
                  first
                    | exact cut true (by rw [hr]; simp only [hc6, hc15, hc24, hc33, hc42, hc51, hc60, hc69, Bool.or_true, Bool.true_or, Bool.false_or, Bool.or_false])
                    | exact cut false (by rw [hr]; simp only [hc6, hc15, hc24, hc33, hc42, hc51, hc60, hc69, Bool.or_true, Bool.true_or, Bool.false_or, Bool.or_false])
                · (first | rw [bI_0, Bool.not_eq_false] at hc69 | rw [bI_0] at hc69 | rw [show (0 : Int32) = nI 0 from rfl, nI_eq (by omega) (by omega)] at hc69 | skip)
                  refine v_aload_0 dX12_mustName_72 ?_
                  refine v_ldcS (i := 37) dX12_mustName_73 (by decide) rfl rfl ?_
                  refine u_callV_1 dX12_mustName_75 ml_X12_109 mv_X12_isWord (by first | assumption | rfl | exact led_1 (by assumption) | exact led_2 (by assumption) | exact bk_m (by assumption) (by first | assumption | omega) | exact bk_p (by assumption) (by first | assumption | omega) | exact bk_o (by assumption) (by first | assumption | omega) | exact bk_s (by assumption) (by first | assumption | omega) | exact bk_1 (by assumption) | exact bk_2 (by assumption) | exact bk_3 (by assumption) | exact bk_4 (by assumption) | exact bk_5 (by assumption) | exact bk_6 (by assumption) | exact bk_7 (by assumption) | exact bk_8 (by assumption) | exact sh_ring _ (by first | assumption | omega) | exact sh_imgs _ (by first | assumption | omega)) (by decide) rfl (by decide) (Nat.le_of_ble_eq_true rfl) (c_X12_isWord (by decide) hR h ?_)
                  refine v_if_ne (tgt := 117) dX12_mustName_78 (by decide) (fun hc78 => ?_) (fun hc78 => ?_)
                  · (first | rw [bI_0, Bool.not_eq_false] at hc78 | rw [bI_0] at hc78 | rw [show (0 : Int32) = nI 0 from rfl, nI_eq (by omega) (by omega)] at hc78 | skip)
                    refine v_iconst (v := nI 1) dX12_mustName_117 (by decide) ?_
                    refine v_goto (tgt := 122) dX12_mustName_118 (by decide) ?_
                    first
                      | exact cut true (by rw [hr]; simp only [hc6, hc15, hc24, hc33, hc42, hc51, hc60, hc69, hc78, Bool.or_true, Bool.true_or, Bool.false_or, Bool.or_false])
                      | exact cut false (by rw [hr]; simp only [hc6, hc15, hc24, hc33, hc42, hc51, hc60, hc69, hc78, Bool.or_true, Bool.true_or, Bool.false_or, Bool.or_false])
                  · (first | rw [bI_0, Bool.not_eq_false] at hc78 | rw [bI_0] at hc78 | rw [show (0 : Int32) = nI 0 from rfl, nI_eq (by omega) (by omega)] at hc78 | skip)
                    refine v_aload_0 dX12_mustName_81 ?_
                    refine v_ldcS (i := 38) dX12_mustName_82 (by decide) rfl rfl ?_
                    refine u_callV_1 dX12_mustName_84 ml_X12_109 mv_X12_isWord (by first | assumption | rfl | exact led_1 (by assumption) | exact led_2 (by assumption) | exact bk_m (by assumption) (by first | assumption | omega) | exact bk_p (by assumption) (by first | assumption | omega) | exact bk_o (by assumption) (by first | assumption | omega) | exact bk_s (by assumption) (by first | assumption | omega) | exact bk_1 (by assumption) | exact bk_2 (by assumption) | exact bk_3 (by assumption) | exact bk_4 (by assumption) | exact bk_5 (by assumption) | exact bk_6 (by assumption) | exact bk_7 (by assumption) | exact bk_8 (by assumption) | exact sh_ring _ (by first | assumption | omega) | exact sh_imgs _ (by first | assumption | omega)) (by decide) rfl (by decide) (Nat.le_of_ble_eq_true rfl) (c_X12_isWord (by decide) hR h ?_)
                    refine v_if_ne (tgt := 117) dX12_mustName_87 (by decide) (fun hc87 => ?_) (fun hc87 => ?_)
                    · (first | rw [bI_0, Bool.not_eq_false] at hc87 | rw [bI_0] at hc87 | rw [show (0 : Int32) = nI 0 from rfl, nI_eq (by omega) (by omega)] at hc87 | skip)
                      refine v_iconst (v := nI 1) dX12_mustName_117 (by decide) ?_
                      refine v_goto (tgt := 122) dX12_mustName_118 (by decide) ?_
                      first
                        | exact cut true (by rw [hr]; simp only [hc6, hc15, hc24, hc33, hc42, hc51, hc60, hc69, hc78, hc87, Bool.or_true, Bool.true_or, Bool.false_or, Bool.or_false])
                        | exact cut false (by rw [hr]; simp only [hc6, hc15, hc24, hc33, hc42, hc51, hc60, hc69, hc78, hc87, Bool.or_true, Bool.true_or, Bool.false_or, Bool.or_false])
                    · (first | rw [bI_0, Bool.not_eq_false] at hc87 | rw [bI_0] at hc87 | rw [show (0 : Int32) = nI 0 from rfl, nI_eq (by omega) (by omega)] at hc87 | skip)
                      refine v_aload_0 dX12_mustName_90 ?_
                      refine v_ldcS (i := 39) dX12_mustName_91 (by decide) rfl rfl ?_
                      refine u_callV_1 dX12_mustName_93 ml_X12_109 mv_X12_isWord (by first | assumption | rfl | exact led_1 (by assumption) | exact led_2 (by assumption) | exact bk_m (by assumption) (by first | assumption | omega) | exact bk_p (by assumption) (by first | assumption | omega) | exact bk_o (by assumption) (by first | assumption | omega) | exact bk_s (by assumption) (by first | assumption | omega) | exact bk_1 (by assumption) | exact bk_2 (by assumption) | exact bk_3 (by assumption) | exact bk_4 (by assumption) | exact bk_5 (by assumption) | exact bk_6 (by assumption) | exact bk_7 (by assumption) | exact bk_8 (by assumption) | exact sh_ring _ (by first | assumption | omega) | exact sh_imgs _ (by first | assumption | omega)) (by decide) rfl (by decide) (Nat.le_of_ble_eq_true rfl) (c_X12_isWord (by decide) hR h ?_)
                      refine v_if_ne (tgt := 117) dX12_mustName_96 (by decide) (fun hc96 => ?_) (fun hc96 => ?_)
                      · (first | rw [bI_0, Bool.not_eq_false] at hc96 | rw [bI_0] at hc96 | rw [show (0 : Int32) = nI 0 from rfl, nI_eq (by omega) (by omega)] at hc96 | skip)
                        refine v_iconst (v := nI 1) dX12_mustName_117 (by decide) ?_
                        refine v_goto (tgt := 122) dX12_mustName_118 (by decide) ?_
                        first
                          | exact cut true (by rw [hr]; simp only [hc6, hc15, hc24, hc33, hc42, hc51, hc60, hc69, hc78, hc87, hc96, Bool.or_true, Bool.true_or, Bool.false_or, Bool.or_false])
                          | exact cut false (by rw [hr]; simp only [hc6, hc15, hc24, hc33, hc42, hc51, hc60, hc69, hc78, hc87, hc96, Bool.or_true, Bool.true_or, Bool.false_or, Bool.or_false])
                      · (first | rw [bI_0, Bool.not_eq_false] at hc96 | rw [bI_0] at hc96 | rw [show (0 : Int32) = nI 0 from rfl, nI_eq (by omega) (by omega)] at hc96 | skip)
                        refine v_aload_0 dX12_mustName_99 ?_
                        refine v_ldcS (i := 40) dX12_mustName_100 (by decide) rfl rfl ?_
                        refine u_callV_1 dX12_mustName_102 ml_X12_109 mv_X12_isWord (by first | assumption | rfl | exact led_1 (by assumption) | exact led_2 (by assumption) | exact bk_m (by assumption) (by first | assumption | omega) | exact bk_p (by assumption) (by first | assumption | omega) | exact bk_o (by assumption) (by first | assumption | omega) | exact bk_s (by assumption) (by first | assumption | omega) | exact bk_1 (by assumption) | exact bk_2 (by assumption) | exact bk_3 (by assumption) | exact bk_4 (by assumption) | exact bk_5 (by assumption) | exact bk_6 (by assumption) | exact bk_7 (by assumption) | exact bk_8 (by assumption) | exact sh_ring _ (by first | assumption | omega) | exact sh_imgs _ (by first | assumption | omega)) (by decide) rfl (by decide) (Nat.le_of_ble_eq_true rfl) (c_X12_isWord (by decide) hR h ?_)
                        refine v_if_ne (tgt := 117) dX12_mustName_105 (by decide) (fun hc105 => ?_) (fun hc105 => ?_)
                        · (first | rw [bI_0, Bool.not_eq_false] at hc105 | rw [bI_0] at hc105 | rw [show (0 : Int32) = nI 0 from rfl, nI_eq (by omega) (by omega)] at hc105 | skip)
                          refine v_iconst (v := nI 1) dX12_mustName_117 (by decide) ?_
                          refine v_goto (tgt := 122) dX12_mustName_118 (by decide) ?_
                          first
                            | exact cut true (by rw [hr]; simp only [hc6, hc15, hc24, hc33, hc42, hc51, hc60, hc69, hc78, hc87, hc96, hc105, Bool.or_true, Bool.true_or, Bool.false_or, Bool.or_false])
                            | exact cut false (by rw [hr]; simp only [hc6, hc15, hc24, hc33, hc42, hc51, hc60, hc69, hc78, hc87, hc96, hc105, Bool.or_true, Bool.true_or, Bool.false_or, Bool.or_false])
                        · (first | rw [bI_0, Bool.not_eq_false] at hc105 | rw [bI_0] at hc105 | rw [show (0 : Int32) = nI 0 from rfl, nI_eq (by omega) (by omega)] at hc105 | skip)
                          refine v_aload_0 dX12_mustName_108 ?_
                          refine v_ldcS (i := 41) dX12_mustName_109 (by decide) rfl rfl ?_
                          refine u_callV_1 dX12_mustName_111 ml_X12_109 mv_X12_isWord (by first | assumption | rfl | exact led_1 (by assumption) | exact led_2 (by assumption) | exact bk_m (by assumption) (by first | assumption | omega) | exact bk_p (by assumption) (by first | assumption | omega) | exact bk_o (by assumption) (by first | assumption | omega) | exact bk_s (by assumption) (by first | assumption | omega) | exact bk_1 (by assumption) | exact bk_2 (by assumption) | exact bk_3 (by assumption) | exact bk_4 (by assumption) | exact bk_5 (by assumption) | exact bk_6 (by assumption) | exact bk_7 (by assumption) | exact bk_8 (by assumption) | exact sh_ring _ (by first | assumption | omega) | exact sh_imgs _ (by first | assumption | omega)) (by decide) rfl (by decide) (Nat.le_of_ble_eq_true rfl) (c_X12_isWord (by decide) hR h ?_)
                          refine v_if_eq (tgt := 121) dX12_mustName_114 (by decide) (fun hc114 => ?_) (fun hc114 => ?_)
                          · (first | rw [bI_0, Bool.not_eq_false] at hc114 | rw [bI_0] at hc114 | rw [show (0 : Int32) = nI 0 from rfl, nI_eq (by omega) (by omega)] at hc114 | skip)
                            refine v_iconst (v := nI 0) dX12_mustName_121 (by decide) ?_
                            first
                              | exact cut true (by rw [hr]; simp only [hc6, hc15, hc24, hc33, hc42, hc51, hc60, hc69, hc78, hc87, hc96, hc105, hc114, Bool.or_true, Bool.true_or, Bool.false_or, Bool.or_false])
                              | exact cut false (by rw [hr]; simp only [hc6, hc15, hc24, hc33, hc42, hc51, hc60, hc69, hc78, hc87, hc96, hc105, hc114, Bool.or_true, Bool.true_or, Bool.false_or, Bool.or_false])
                          · (first | rw [bI_0, Bool.not_eq_false] at hc114 | rw [bI_0] at hc114 | rw [show (0 : Int32) = nI 0 from rfl, nI_eq (by omega) (by omega)] at hc114 | skip)
                            refine v_iconst (v := nI 1) dX12_mustName_117 (by decide) ?_
                            refine v_goto (tgt := 122) dX12_mustName_118 (by decide) ?_
                            first
                              | exact cut true (by rw [hr]; simp only [hc6, hc15, hc24, hc33, hc42, hc51, hc60, hc69, hc78, hc87, hc96, hc105, hc114, Bool.or_true, Bool.true_or, Bool.false_or, Bool.or_false])
                              | exact cut false (by rw [hr]; simp only [hc6, hc15, hc24, hc33, hc42, hc51, hc60, hc69, hc78, hc87, hc96, hc105, hc114, Bool.or_true, Bool.true_or, Bool.false_or, Bool.or_false])
theorem c_X12_find (hR : RO R) (h : LvM I tp sz e G l) (hG : NmE G F) (hk : tK tp sz e = 2) (hQ : Q (some (.int (eO (fnd tp sz F e)))) SH I L R) : KK 0 mX12_find b ad [.ref (b + 157)] I L R Q := by
  obtain ⟨h1, he, h13, ⟨t4, t5, t6, t7, t8⟩, hg, -⟩ := id h
  obtain ⟨q8, ql⟩ := t8 hk
  have hby := h.by
  have h8 := (tk_2 hby he hk).2.2.2.1
  have hcc : ∀ i, i < tE tp sz e - tA tp sz e → tp (tA tp sz e + i) < 256 := fun i hi => lt_c hby he hk hi
  have outer : ∀ (j n : Nat) (x2 x3 : Option Value), n + j = 17 → fup (fun n => decide (0 < F (192 + n)) && decide (nmF F n = tL tp sz e)) n j = fnd tp sz F e → VV yX12_find cX12_find 4 (some .int) 0 Q b ad 2 [some (.ref (b + 157)), some (.int (nI n)), x2, x3] [] I L R := by
    intro j
    induction j with
    | zero =>
      intro n x2 x3 hn he2
      have he2 : none = fnd tp sz F e := he2
      rw [← he2] at hQ
      refine v_iload_1 dX12_find_2 ?_
      refine v_bipush (v := nI 17) dX12_find_3 (by decide) ?_
      refine v_icmp_ge (tgt := 106) dX12_find_5 (by decide) (fun hc5 => ?_) (fun hc5 => ?_)
      · (try rw [nI_leI (by omega) (by omega)] at hc5)
        refine v_iconst (v := -1) dX12_find_106 (by decide) ?_
        refine v_iret dX12_find_107 rfl rfl rfl rfl ?_
        exact hQ
      · exact absurd (nI_le (by omega) (by omega)) hc5
    | succ j ih =>
      intro n x2 x3 hn he2
      have g0 := hg (192 + n) (by omega)
      have e0 : G (192 + n) = F (192 + n) := hG _ (by omega) (by omega)
      have cut : ∀ (sm : Bool) (x3 : Option Value), (fun n => decide (0 < F (192 + n)) && decide (nmF F n = tL tp sz e)) n = sm → VV yX12_find cX12_find 4 (some .int) 0 Q b ad 94 [some (.ref (b + 157)), some (.int (nI n)), some (.int (bI sm)), x3] [] I L R := by
        intro sm x3 es
        refine v_iload_2 dX12_find_94 ?_
        refine v_if_eq (tgt := 100) dX12_find_95 (by decide) (fun hc95 => ?_) (fun hc95 => ?_)
        · (first | rw [bI_0, Bool.not_eq_false] at hc95 | rw [bI_0] at hc95 | rw [show (0 : Int32) = nI 0 from rfl, nI_eq (by omega) (by omega)] at hc95 | skip)
          refine v_iinc_1 (v := 1) rfl dX12_find_100 (by decide) ?_
          rw [show nI n + 1 = nI (n + 1) from nI_1 n]
          refine v_goto (tgt := 2) dX12_find_103 (by decide) ?_
          exact ih (n + 1) _ _ (by omega) (by rw [← he2]; exact (fup_f (es.trans hc95)).symm)
        · (first | rw [bI_0, Bool.not_eq_false] at hc95 | rw [bI_0] at hc95 | rw [show (0 : Int32) = nI 0 from rfl, nI_eq (by omega) (by omega)] at hc95 | skip)
          refine v_iload_1 dX12_find_98 ?_
          refine v_iret dX12_find_99 rfl rfl rfl rfl ?_
          have q : fnd tp sz F e = some n := by rw [← he2]; exact fup_t (es.trans hc95)
          rw [q] at hQ
          exact hQ
      have inner : ∀ (i k : Nat) (sm : Bool), k + i = tE tp sz e - tA tp sz e → (sm = true → 0 < F (192 + n) ∧ F (192 + n) = tE tp sz e - tA tp sz e ∧ ∀ x, x < k → F (209 + 8 * n + x) = tp (tA tp sz e + x)) → (sm = false → (fun n => decide (0 < F (192 + n)) && decide (nmF F n = tL tp sz e)) n = false) → VV yX12_find cX12_find 4 (some .int) 0 Q b ad 46 [some (.ref (b + 157)), some (.int (nI n)), some (.int (bI sm)), some (.int (nI k))] [] I L R := by
        intro i
        induction i with
        | zero =>
          intro k sm hk2 ht hf
          have es : (fun n => decide (0 < F (192 + n)) && decide (nmF F n = tL tp sz e)) n = sm := by
            cases sm with
            | false => exact hf rfl
            | true =>
              obtain ⟨a1, a2, a3⟩ := ht rfl
              show (decide (0 < F (192 + n)) && decide (nmF F n = tL tp sz e)) = true
              rw [decide_eq_true a1, Bool.true_and]
              refine decide_eq_true ?_
              unfold nmF tL
              rw [a2]
              exact wrd_eq.mpr ⟨by rw [wrd_len], fun x hx => by rw [wrd_at hx]; exact a3 x (by omega)⟩
          refine v_iload_3 dX12_find_46 ?_
          refine v_aload_0 dX12_find_47 ?_
          refine u_getI dX12_find_48 gf_X12_76 (by first | assumption | rfl | exact led_1 (by assumption) | exact led_2 (by assumption) | exact bk_m (by assumption) (by first | assumption | omega) | exact bk_p (by assumption) (by first | assumption | omega) | exact bk_o (by assumption) (by first | assumption | omega) | exact bk_s (by assumption) (by first | assumption | omega) | exact bk_1 (by assumption) | exact bk_2 (by assumption) | exact bk_3 (by assumption) | exact bk_4 (by assumption) | exact bk_5 (by assumption) | exact bk_6 (by assumption) | exact bk_7 (by assumption) | exact bk_8 (by assumption) | exact sh_ring _ (by first | assumption | omega) | exact sh_imgs _ (by first | assumption | omega)) ?_
          rw [q8]
          refine v_icmp_ge (tgt := 94) dX12_find_51 (by decide) (fun hc51 => ?_) (fun hc51 => ?_)
          · (try rw [nI_leI (by omega) (by omega)] at hc51)
            exact cut sm _ es
          · exact absurd (nI_le (by omega) (by omega)) hc51
        | succ i ih2 =>
          intro k sm hk2 ht hf
          have gk := hg (209 + 8 * n + k) (by omega)
          have ek : G (209 + 8 * n + k) = F (209 + 8 * n + k) := hG _ (by omega) (by omega)
          have hck := hcc k (by omega)
          refine v_iload_3 dX12_find_46 ?_
          refine v_aload_0 dX12_find_47 ?_
          refine u_getI dX12_find_48 gf_X12_76 (by first | assumption | rfl | exact led_1 (by assumption) | exact led_2 (by assumption) | exact bk_m (by assumption) (by first | assumption | omega) | exact bk_p (by assumption) (by first | assumption | omega) | exact bk_o (by assumption) (by first | assumption | omega) | exact bk_s (by assumption) (by first | assumption | omega) | exact bk_1 (by assumption) | exact bk_2 (by assumption) | exact bk_3 (by assumption) | exact bk_4 (by assumption) | exact bk_5 (by assumption) | exact bk_6 (by assumption) | exact bk_7 (by assumption) | exact bk_8 (by assumption) | exact sh_ring _ (by first | assumption | omega) | exact sh_imgs _ (by first | assumption | omega)) ?_
          rw [q8]
          refine v_icmp_ge (tgt := 94) dX12_find_51 (by decide) (fun hc51 => ?_) (fun hc51 => ?_)
          · exact absurd hc51 (nI_ge (by omega) (by omega))
          · (try rw [nI_leI (by omega) (by omega)] at hc51)
            refine v_iload_2 dX12_find_54 ?_
            refine v_if_eq (tgt := 94) dX12_find_55 (by decide) (fun hc55 => ?_) (fun hc55 => ?_)
            · (first | rw [bI_0, Bool.not_eq_false] at hc55 | rw [bI_0] at hc55 | rw [show (0 : Int32) = nI 0 from rfl, nI_eq (by omega) (by omega)] at hc55 | skip)
              first
                | exact cut sm _ (by rw [hc55]; exact hf hc55)
                | (have q := cut false (some (.int (nI k))) (hf hc55); rw [hc55]; exact q)
            · (first | rw [bI_0, Bool.not_eq_false] at hc55 | rw [bI_0] at hc55 | rw [show (0 : Int32) = nI 0 from rfl, nI_eq (by omega) (by omega)] at hc55 | skip)
              refine v_aload_0 dX12_find_58 ?_
              refine u_getR dX12_find_59 gf_X12_23 (by first | assumption | rfl | exact led_1 (by assumption) | exact led_2 (by assumption) | exact bk_m (by assumption) (by first | assumption | omega) | exact bk_p (by assumption) (by first | assumption | omega) | exact bk_o (by assumption) (by first | assumption | omega) | exact bk_s (by assumption) (by first | assumption | omega) | exact bk_1 (by assumption) | exact bk_2 (by assumption) | exact bk_3 (by assumption) | exact bk_4 (by assumption) | exact bk_5 (by assumption) | exact bk_6 (by assumption) | exact bk_7 (by assumption) | exact bk_8 (by assumption) | exact sh_ring _ (by first | assumption | omega) | exact sh_imgs _ (by first | assumption | omega)) (ro_X12_16 (by assumption)) ?_
              refine v_sipush (v := nI 209) dX12_find_62 (by decide) ?_
              refine v_bipush (v := nI 8) dX12_find_65 (by decide) ?_
              refine v_iload_1 dX12_find_67 ?_
              refine v_imul dX12_find_68 ?_
              refine v_iadd dX12_find_69 ?_
              refine v_iload_3 dX12_find_70 ?_
              refine v_iadd dX12_find_71 ?_
              refine u_iald dX12_find_72 (by first | assumption | rfl | exact led_1 (by assumption) | exact led_2 (by assumption) | exact bk_m (by assumption) (by first | assumption | omega) | exact bk_p (by assumption) (by first | assumption | omega) | exact bk_o (by assumption) (by first | assumption | omega) | exact bk_s (by assumption) (by first | assumption | omega) | exact bk_1 (by assumption) | exact bk_2 (by assumption) | exact bk_3 (by assumption) | exact bk_4 (by assumption) | exact bk_5 (by assumption) | exact bk_6 (by assumption) | exact bk_7 (by assumption) | exact bk_8 (by assumption) | exact sh_ring _ (by first | assumption | omega) | exact sh_imgs _ (by first | assumption | omega)) (by first | with_reducible rfl | (simp only [nlit, nI_add, pk_mul]; with_reducible rfl) | rfl) (by first | assumption | omega) (by first | assumption | decide) ?_
              rw [gk.1, ek]
              refine v_aload_0 dX12_find_73 ?_
              refine u_getR dX12_find_74 gf_X12_17 (by first | assumption | rfl | exact led_1 (by assumption) | exact led_2 (by assumption) | exact bk_m (by assumption) (by first | assumption | omega) | exact bk_p (by assumption) (by first | assumption | omega) | exact bk_o (by assumption) (by first | assumption | omega) | exact bk_s (by assumption) (by first | assumption | omega) | exact bk_1 (by assumption) | exact bk_2 (by assumption) | exact bk_3 (by assumption) | exact bk_4 (by assumption) | exact bk_5 (by assumption) | exact bk_6 (by assumption) | exact bk_7 (by assumption) | exact bk_8 (by assumption) | exact sh_ring _ (by first | assumption | omega) | exact sh_imgs _ (by first | assumption | omega)) (ro_X12_12 (by assumption)) ?_
              refine v_iload_3 dX12_find_77 ?_
              refine u_iald dX12_find_78 (by first | assumption | rfl | exact led_1 (by assumption) | exact led_2 (by assumption) | exact bk_m (by assumption) (by first | assumption | omega) | exact bk_p (by assumption) (by first | assumption | omega) | exact bk_o (by assumption) (by first | assumption | omega) | exact bk_s (by assumption) (by first | assumption | omega) | exact bk_1 (by assumption) | exact bk_2 (by assumption) | exact bk_3 (by assumption) | exact bk_4 (by assumption) | exact bk_5 (by assumption) | exact bk_6 (by assumption) | exact bk_7 (by assumption) | exact bk_8 (by assumption) | exact sh_ring _ (by first | assumption | omega) | exact sh_imgs _ (by first | assumption | omega)) (by first | with_reducible rfl | (simp only [nlit, nI_add, pk_mul]; with_reducible rfl) | rfl) (by first | assumption | omega) (by first | assumption | decide) ?_
              rw [ql k (by omega)]
              refine v_icmp_ne (tgt := 86) dX12_find_79 (by decide) (fun hc79 => ?_) (fun hc79 => ?_)
              · rw [nI_eq (by omega) (by omega)] at hc79
                refine v_iconst (v := nI 0) dX12_find_86 (by decide) ?_
                refine v_istore_2 rfl dX12_find_87 ?_
                refine v_iinc_3 (v := 1) rfl dX12_find_88 (by decide) ?_
                rw [show nI k + 1 = nI (k + 1) from nI_1 k]
                refine v_goto (tgt := 46) dX12_find_91 (by decide) ?_
                first
                  | exact ih2 (k + 1) true (by omega) (fun _ => ⟨(ht hc55).1, (ht hc55).2.1, fun x hx => by
                      by_cases ex : x = k
                      · subst ex; exact hc79
                      · exact (ht hc55).2.2 x (by omega)⟩) (fun w => by cases w)
                  | exact ih2 (k + 1) false (by omega) (fun w => by cases w) (fun _ => by
                      show (decide (0 < F (192 + n)) && decide (nmF F n = tL tp sz e)) = false
                      rw [Bool.and_eq_false_iff]
                      refine Or.inr (decide_eq_false (fun w => hc79 ?_))
                      unfold nmF tL at w
                      rw [(ht hc55).2.1] at w
                      have := (wrd_eq.mp w).2 k (by omega)
                      rw [wrd_at (by omega)] at this
                      exact this)
              · rw [nI_eq (by omega) (by omega)] at hc79
                refine v_iconst (v := nI 1) dX12_find_82 (by decide) ?_
                refine v_goto (tgt := 87) dX12_find_83 (by decide) ?_
                refine v_istore_2 rfl dX12_find_87 ?_
                refine v_iinc_3 (v := 1) rfl dX12_find_88 (by decide) ?_
                rw [show nI k + 1 = nI (k + 1) from nI_1 k]
                refine v_goto (tgt := 46) dX12_find_91 (by decide) ?_
                first
                  | exact ih2 (k + 1) true (by omega) (fun _ => ⟨(ht hc55).1, (ht hc55).2.1, fun x hx => by
                      by_cases ex : x = k
                      · subst ex; exact hc79
                      · exact (ht hc55).2.2 x (by omega)⟩) (fun w => by cases w)
                  | exact ih2 (k + 1) false (by omega) (fun w => by cases w) (fun _ => by
                      show (decide (0 < F (192 + n)) && decide (nmF F n = tL tp sz e)) = false
                      rw [Bool.and_eq_false_iff]
                      refine Or.inr (decide_eq_false (fun w => hc79 ?_))
                      unfold nmF tL at w
                      rw [(ht hc55).2.1] at w
                      have := (wrd_eq.mp w).2 k (by omega)
                      rw [wrd_at (by omega)] at this
                      exact this)
      refine v_iload_1 dX12_find_2 ?_
      refine v_bipush (v := nI 17) dX12_find_3 (by decide) ?_
      refine v_icmp_ge (tgt := 106) dX12_find_5 (by decide) (fun hc5 => ?_) (fun hc5 => ?_)
      · exact absurd hc5 (nI_ge (by omega) (by omega))
      · (try rw [nI_leI (by omega) (by omega)] at hc5)
        refine v_aload_0 dX12_find_8 ?_
        refine u_getR dX12_find_9 gf_X12_23 (by first | assumption | rfl | exact led_1 (by assumption) | exact led_2 (by assumption) | exact bk_m (by assumption) (by first | assumption | omega) | exact bk_p (by assumption) (by first | assumption | omega) | exact bk_o (by assumption) (by first | assumption | omega) | exact bk_s (by assumption) (by first | assumption | omega) | exact bk_1 (by assumption) | exact bk_2 (by assumption) | exact bk_3 (by assumption) | exact bk_4 (by assumption) | exact bk_5 (by assumption) | exact bk_6 (by assumption) | exact bk_7 (by assumption) | exact bk_8 (by assumption) | exact sh_ring _ (by first | assumption | omega) | exact sh_imgs _ (by first | assumption | omega)) (ro_X12_16 (by assumption)) ?_
        refine v_sipush (v := nI 192) dX12_find_12 (by decide) ?_
        refine v_iload_1 dX12_find_15 ?_
        refine v_iadd dX12_find_16 ?_
        refine u_iald dX12_find_17 (by first | assumption | rfl | exact led_1 (by assumption) | exact led_2 (by assumption) | exact bk_m (by assumption) (by first | assumption | omega) | exact bk_p (by assumption) (by first | assumption | omega) | exact bk_o (by assumption) (by first | assumption | omega) | exact bk_s (by assumption) (by first | assumption | omega) | exact bk_1 (by assumption) | exact bk_2 (by assumption) | exact bk_3 (by assumption) | exact bk_4 (by assumption) | exact bk_5 (by assumption) | exact bk_6 (by assumption) | exact bk_7 (by assumption) | exact bk_8 (by assumption) | exact sh_ring _ (by first | assumption | omega) | exact sh_imgs _ (by first | assumption | omega)) (by first | with_reducible rfl | (simp only [nlit, nI_add, pk_mul]; with_reducible rfl) | rfl) (by first | assumption | omega) (by first | assumption | decide) ?_
        rw [g0.1, e0]
        refine v_if_le (tgt := 42) dX12_find_18 (by decide) (fun hc18 => ?_) (fun hc18 => ?_)
        · (first | rw [show (0 : Int32) = nI 0 from rfl, nI_ltI (by omega) (by omega)] at hc18 | rw [show (0 : Int32) = nI 0 from rfl, nI_leI (by omega) (by omega)] at hc18 | skip)
          refine v_iconst (v := nI 0) dX12_find_42 (by decide) ?_
          refine v_istore_2 rfl dX12_find_43 ?_
          refine v_iconst (v := nI 0) dX12_find_44 (by decide) ?_
          refine v_istore_3 rfl dX12_find_45 ?_
          first
            | exact inner _ 0 true (Nat.zero_add _) (fun _ => ⟨by omega, hc35, fun x hx => absurd hx (Nat.not_lt_zero x)⟩) (fun w => by cases w)
            | exact inner _ 0 false (Nat.zero_add _) (fun w => by cases w) (fun _ => by
                show (decide (0 < F (192 + n)) && decide (nmF F n = tL tp sz e)) = false
                rw [decide_eq_false (show ¬ 0 < F (192 + n) by omega), Bool.false_and])
            | exact inner _ 0 false (Nat.zero_add _) (fun w => by cases w) (fun _ => by
                show (decide (0 < F (192 + n)) && decide (nmF F n = tL tp sz e)) = false
                rw [Bool.and_eq_false_iff]
                refine Or.inr (decide_eq_false (fun w => hc35 ?_))
                unfold nmF tL at w
                have := (wrd_eq.mp w).1
                rw [wrd_len] at this
                exact this)
        · (first | rw [show (0 : Int32) = nI 0 from rfl, nI_ltI (by omega) (by omega)] at hc18 | rw [show (0 : Int32) = nI 0 from rfl, nI_leI (by omega) (by omega)] at hc18 | skip)
          refine v_aload_0 dX12_find_21 ?_
          refine u_getR dX12_find_22 gf_X12_23 (by first | assumption | rfl | exact led_1 (by assumption) | exact led_2 (by assumption) | exact bk_m (by assumption) (by first | assumption | omega) | exact bk_p (by assumption) (by first | assumption | omega) | exact bk_o (by assumption) (by first | assumption | omega) | exact bk_s (by assumption) (by first | assumption | omega) | exact bk_1 (by assumption) | exact bk_2 (by assumption) | exact bk_3 (by assumption) | exact bk_4 (by assumption) | exact bk_5 (by assumption) | exact bk_6 (by assumption) | exact bk_7 (by assumption) | exact bk_8 (by assumption) | exact sh_ring _ (by first | assumption | omega) | exact sh_imgs _ (by first | assumption | omega)) (ro_X12_16 (by assumption)) ?_
          refine v_sipush (v := nI 192) dX12_find_25 (by decide) ?_
          refine v_iload_1 dX12_find_28 ?_
          refine v_iadd dX12_find_29 ?_
          refine u_iald dX12_find_30 (by first | assumption | rfl | exact led_1 (by assumption) | exact led_2 (by assumption) | exact bk_m (by assumption) (by first | assumption | omega) | exact bk_p (by assumption) (by first | assumption | omega) | exact bk_o (by assumption) (by first | assumption | omega) | exact bk_s (by assumption) (by first | assumption | omega) | exact bk_1 (by assumption) | exact bk_2 (by assumption) | exact bk_3 (by assumption) | exact bk_4 (by assumption) | exact bk_5 (by assumption) | exact bk_6 (by assumption) | exact bk_7 (by assumption) | exact bk_8 (by assumption) | exact sh_ring _ (by first | assumption | omega) | exact sh_imgs _ (by first | assumption | omega)) (by first | with_reducible rfl | (simp only [nlit, nI_add, pk_mul]; with_reducible rfl) | rfl) (by first | assumption | omega) (by first | assumption | decide) ?_
          rw [g0.1, e0]
          refine v_aload_0 dX12_find_31 ?_
          refine u_getI dX12_find_32 gf_X12_76 (by first | assumption | rfl | exact led_1 (by assumption) | exact led_2 (by assumption) | exact bk_m (by assumption) (by first | assumption | omega) | exact bk_p (by assumption) (by first | assumption | omega) | exact bk_o (by assumption) (by first | assumption | omega) | exact bk_s (by assumption) (by first | assumption | omega) | exact bk_1 (by assumption) | exact bk_2 (by assumption) | exact bk_3 (by assumption) | exact bk_4 (by assumption) | exact bk_5 (by assumption) | exact bk_6 (by assumption) | exact bk_7 (by assumption) | exact bk_8 (by assumption) | exact sh_ring _ (by first | assumption | omega) | exact sh_imgs _ (by first | assumption | omega)) ?_
          rw [q8]
          refine v_icmp_ne (tgt := 42) dX12_find_35 (by decide) (fun hc35 => ?_) (fun hc35 => ?_)
          · (try rw [nI_eq (by omega) (by omega)] at hc35)
            refine v_iconst (v := nI 0) dX12_find_42 (by decide) ?_
            refine v_istore_2 rfl dX12_find_43 ?_
            refine v_iconst (v := nI 0) dX12_find_44 (by decide) ?_
            refine v_istore_3 rfl dX12_find_45 ?_
            first
              | exact inner _ 0 true (Nat.zero_add _) (fun _ => ⟨by omega, hc35, fun x hx => absurd hx (Nat.not_lt_zero x)⟩) (fun w => by cases w)
              | exact inner _ 0 false (Nat.zero_add _) (fun w => by cases w) (fun _ => by
                  show (decide (0 < F (192 + n)) && decide (nmF F n = tL tp sz e)) = false
                  rw [decide_eq_false (show ¬ 0 < F (192 + n) by omega), Bool.false_and])
              | exact inner _ 0 false (Nat.zero_add _) (fun w => by cases w) (fun _ => by
                  show (decide (0 < F (192 + n)) && decide (nmF F n = tL tp sz e)) = false
                  rw [Bool.and_eq_false_iff]
                  refine Or.inr (decide_eq_false (fun w => hc35 ?_))
                  unfold nmF tL at w
                  have := (wrd_eq.mp w).1
                  rw [wrd_len] at this
                  exact this)
          · (try rw [nI_eq (by omega) (by omega)] at hc35)
            refine v_iconst (v := nI 1) dX12_find_38 (by decide) ?_
            refine v_goto (tgt := 43) dX12_find_39 (by decide) ?_
            refine v_istore_2 rfl dX12_find_43 ?_
            refine v_iconst (v := nI 0) dX12_find_44 (by decide) ?_
            refine v_istore_3 rfl dX12_find_45 ?_
            first
              | exact inner _ 0 true (Nat.zero_add _) (fun _ => ⟨by omega, hc35, fun x hx => absurd hx (Nat.not_lt_zero x)⟩) (fun w => by cases w)
              | exact inner _ 0 false (Nat.zero_add _) (fun w => by cases w) (fun _ => by
                  show (decide (0 < F (192 + n)) && decide (nmF F n = tL tp sz e)) = false
                  rw [decide_eq_false (show ¬ 0 < F (192 + n) by omega), Bool.false_and])
              | exact inner _ 0 false (Nat.zero_add _) (fun w => by cases w) (fun _ => by
                  show (decide (0 < F (192 + n)) && decide (nmF F n = tL tp sz e)) = false
                  rw [Bool.and_eq_false_iff]
                  refine Or.inr (decide_eq_false (fun w => hc35 ?_))
                  unfold nmF tL at w
                  have := (wrd_eq.mp w).1
                  rw [wrd_len] at this
                  exact this)
  refine K.of (M := mX12_find) (lv := [some (.ref (b + 157)), none, none, none]) (by decide) (Nat.le_of_ble_eq_true rfl) rfl ?_
  refine v_iconst (v := nI 0) dX12_find_0 (by decide) ?_
  refine v_istore_1 rfl dX12_find_1 ?_
  exact outer 17 0 _ _ rfl rfl
theorem c_X12_mustBeNew (hR : RO R) (h : LvM I tp sz s.1 G l) (hG : NmE G s.2.1) (hF : ∀ f p, qNew tp sz s = .inl (f, p) → ∀ J : HI, FlM J f p → FrP I J → Q none SH J L R) (hY : qNew tp sz s = .inr s → tK tp sz s.1 = 2 → Q none SH I L R) : KK 6 mX12_mustBeNew b ad [.ref (b + 157)] I L R Q := by
  have h13 := h.2.2.1
  have t4 := h.2.2.2.1.1
  refine K.of (M := mX12_mustBeNew) (lv := [some (.ref (b + 157))]) (by decide) (Nat.le_of_ble_eq_true rfl) rfl ?_
  refine v_aload_0 dX12_mustBeNew_0 ?_
  refine u_callV_0 dX12_mustBeNew_1 ml_X12_148 mv_X12_mustName (by first | assumption | rfl | exact led_1 (by assumption) | exact led_2 (by assumption) | exact bk_m (by assumption) (by first | assumption | omega) | exact bk_p (by assumption) (by first | assumption | omega) | exact bk_o (by assumption) (by first | assumption | omega) | exact bk_s (by assumption) (by first | assumption | omega) | exact bk_1 (by assumption) | exact bk_2 (by assumption) | exact bk_3 (by assumption) | exact bk_4 (by assumption) | exact bk_5 (by assumption) | exact bk_6 (by assumption) | exact bk_7 (by assumption) | exact bk_8 (by assumption) | exact sh_ring _ (by first | assumption | omega) | exact sh_imgs _ (by first | assumption | omega)) (by decide) rfl (by decide) (Nat.le_of_ble_eq_true rfl) (c_X12_mustName hR h (fun w J j1 j2 => ?_) (fun w => ?_))
  · refine v_aload_0 dX12_mustBeNew_4 ?_
    refine u_getI dX12_mustBeNew_5 gf_X12_92 (by first | assumption | rfl | exact led_1 (by assumption) | exact led_2 (by assumption) | exact bk_m (by assumption) (by first | assumption | omega) | exact bk_p (by assumption) (by first | assumption | omega) | exact bk_o (by assumption) (by first | assumption | omega) | exact bk_s (by assumption) (by first | assumption | omega) | exact bk_1 (by assumption) | exact bk_2 (by assumption) | exact bk_3 (by assumption) | exact bk_4 (by assumption) | exact bk_5 (by assumption) | exact bk_6 (by assumption) | exact bk_7 (by assumption) | exact bk_8 (by assumption) | exact sh_ring _ (by first | assumption | omega) | exact sh_imgs _ (by first | assumption | omega)) ?_
    rw [j1.1]
    refine v_if_ne (tgt := 27) dX12_mustBeNew_8 (by decide) (fun hc8 => ?_) (fun hc8 => ?_)
    · (first | rw [bI_0, Bool.not_eq_false] at hc8 | rw [bI_0] at hc8 | rw [show (0 : Int32) = nI 0 from rfl, nI_eq (by omega) (by omega)] at hc8 | skip)
      refine v_vret dX12_mustBeNew_27 rfl rfl rfl rfl ?_
      exact hF 1 _ (by unfold qNew; rw [if_neg (by rw [w]; decide)]) J j1 j2
    · exact absurd hc8 (by decide)
  · have k2 : tK tp sz s.1 = 2 := by unfold nmok at w; rw [Bool.and_eq_true, decide_eq_true_eq] at w; exact w.1
    have ex : ∀ n, fnd tp sz s.2.1 s.1 = some n → n < 17 := fun n q => by have := fup_some q; omega
    refine v_aload_0 dX12_mustBeNew_4 ?_
    refine u_getI dX12_mustBeNew_5 gf_X12_92 (by first | assumption | rfl | exact led_1 (by assumption) | exact led_2 (by assumption) | exact bk_m (by assumption) (by first | assumption | omega) | exact bk_p (by assumption) (by first | assumption | omega) | exact bk_o (by assumption) (by first | assumption | omega) | exact bk_s (by assumption) (by first | assumption | omega) | exact bk_1 (by assumption) | exact bk_2 (by assumption) | exact bk_3 (by assumption) | exact bk_4 (by assumption) | exact bk_5 (by assumption) | exact bk_6 (by assumption) | exact bk_7 (by assumption) | exact bk_8 (by assumption) | exact sh_ring _ (by first | assumption | omega) | exact sh_imgs _ (by first | assumption | omega)) ?_
    rw [h13]
    refine v_if_ne (tgt := 27) dX12_mustBeNew_8 (by decide) (fun hc8 => ?_) (fun hc8 => ?_)
    · exact absurd rfl hc8
    · (first | rw [bI_0, Bool.not_eq_false] at hc8 | rw [bI_0] at hc8 | rw [show (0 : Int32) = nI 0 from rfl, nI_eq (by omega) (by omega)] at hc8 | skip)
      refine v_aload_0 dX12_mustBeNew_11 ?_
      refine u_callV_0 dX12_mustBeNew_12 ml_X12_151 mv_X12_find (by first | assumption | rfl | exact led_1 (by assumption) | exact led_2 (by assumption) | exact bk_m (by assumption) (by first | assumption | omega) | exact bk_p (by assumption) (by first | assumption | omega) | exact bk_o (by assumption) (by first | assumption | omega) | exact bk_s (by assumption) (by first | assumption | omega) | exact bk_1 (by assumption) | exact bk_2 (by assumption) | exact bk_3 (by assumption) | exact bk_4 (by assumption) | exact bk_5 (by assumption) | exact bk_6 (by assumption) | exact bk_7 (by assumption) | exact bk_8 (by assumption) | exact sh_ring _ (by first | assumption | omega) | exact sh_imgs _ (by first | assumption | omega)) (by decide) rfl (by decide) (Nat.le_of_ble_eq_true rfl) (c_X12_find hR h hG k2 ?_)
      refine v_if_lt (tgt := 27) dX12_mustBeNew_15 (by decide) (fun hc15 => ?_) (fun hc15 => ?_)
      · skip
        refine v_vret dX12_mustBeNew_27 rfl rfl rfl rfl ?_
        cases hf : fnd tp sz s.2.1 s.1 with
        | none =>
          first
            | exact hY (by unfold qNew; rw [if_pos w, hf]) k2
            | (rw [hf] at hc15; exact absurd (show (-1 : Int32) < 0 by decide) hc15)
        | some n =>
          have := ex n hf
          first
            | exact hF 3 _ (by unfold qNew; rw [if_pos w, hf]) _ wrong_fl.1 wrong_fl.2
            | (rw [hf] at hc15; exact absurd (Int32.lt_of_lt_of_le hc15 (nI_pos2 (i := n) (by omega))) Int32.lt_irrefl)
      · skip
        refine v_aload_0 dX12_mustBeNew_18 ?_
        refine v_iconst (v := nI 3) dX12_mustBeNew_19 (by decide) ?_
        refine v_aload_0 dX12_mustBeNew_20 ?_
        refine u_getI dX12_mustBeNew_21 gf_X12_73 (by first | assumption | rfl | exact led_1 (by assumption) | exact led_2 (by assumption) | exact bk_m (by assumption) (by first | assumption | omega) | exact bk_p (by assumption) (by first | assumption | omega) | exact bk_o (by assumption) (by first | assumption | omega) | exact bk_s (by assumption) (by first | assumption | omega) | exact bk_1 (by assumption) | exact bk_2 (by assumption) | exact bk_3 (by assumption) | exact bk_4 (by assumption) | exact bk_5 (by assumption) | exact bk_6 (by assumption) | exact bk_7 (by assumption) | exact bk_8 (by assumption) | exact sh_ring _ (by first | assumption | omega) | exact sh_imgs _ (by first | assumption | omega)) ?_
        rw [t4]
        refine u_callV_2 dX12_mustBeNew_24 ml_X12_119 mv_X12_wrong (by first | assumption | rfl | exact led_1 (by assumption) | exact led_2 (by assumption) | exact bk_m (by assumption) (by first | assumption | omega) | exact bk_p (by assumption) (by first | assumption | omega) | exact bk_o (by assumption) (by first | assumption | omega) | exact bk_s (by assumption) (by first | assumption | omega) | exact bk_1 (by assumption) | exact bk_2 (by assumption) | exact bk_3 (by assumption) | exact bk_4 (by assumption) | exact bk_5 (by assumption) | exact bk_6 (by assumption) | exact bk_7 (by assumption) | exact bk_8 (by assumption) | exact sh_ring _ (by first | assumption | omega) | exact sh_imgs _ (by first | assumption | omega)) (by decide) rfl (by decide) (Nat.le_of_ble_eq_true rfl) (c_X12_wrong h13 ?_)
        refine v_vret dX12_mustBeNew_27 rfl rfl rfl rfl ?_
        cases hf : fnd tp sz s.2.1 s.1 with
        | none =>
          first
            | exact hY (by unfold qNew; rw [if_pos w, hf]) k2
            | (rw [hf] at hc15; exact absurd (show (-1 : Int32) < 0 by decide) hc15)
        | some n =>
          have := ex n hf
          first
            | exact hF 3 _ (by unfold qNew; rw [if_pos w, hf]) _ wrong_fl.1 wrong_fl.2
            | (rw [hf] at hc15; exact absurd (Int32.lt_of_lt_of_le hc15 (nI_pos2 (i := n) (by omega))) Int32.lt_irrefl)
theorem c_X12_named_0 {but : Nat} (hbut : but < 2 ^ 30) (hR : RO R) (h : LvM I tp sz s.1 G l) (hG : NmE G s.2.1) (hF : ∀ f p, qTold tp sz 0 but s = .inl (f, p) → ∀ J : HI, FlM J f p → FrP I J → Q (some (.int (nI 0))) SH J L R) (hY : ∀ v, qTold tp sz 0 but s = .inr (v, nx tp sz s) → v < 6 → Q (some (.int (nI v))) SH I L R) : KK 6 mX12_named b ad [.ref (b + 157), .int (nI 0), .int (nI but)] I L R Q := by
  have h13 := h.2.2.1
  have t4 := h.2.2.2.1.1
  have cutF : ∀ (J : HI) (f p : Nat) (x3 x4 x5 : Option Value), FlM J f p → FrP I J → qTold tp sz 0 but s = .inl (f, p) → VV yX12_named cX12_named 6 (some .int) 6 Q b ad 92 [some (.ref (b + 157)), some (.int (nI 0)), some (.int (nI but)), x3, x4, x5] [] J L R := by
    intro J f p x3 x4 x5 j1 j2 q
    refine v_aload_0 dX12_named_92 ?_
    refine u_getI dX12_named_93 gf_X12_92 (by first | assumption | rfl | exact led_1 (by assumption) | exact led_2 (by assumption) | exact bk_m (by assumption) (by first | assumption | omega) | exact bk_p (by assumption) (by first | assumption | omega) | exact bk_o (by assumption) (by first | assumption | omega) | exact bk_s (by assumption) (by first | assumption | omega) | exact bk_1 (by assumption) | exact bk_2 (by assumption) | exact bk_3 (by assumption) | exact bk_4 (by assumption) | exact bk_5 (by assumption) | exact bk_6 (by assumption) | exact bk_7 (by assumption) | exact bk_8 (by assumption) | exact sh_ring _ (by first | assumption | omega) | exact sh_imgs _ (by first | assumption | omega)) ?_
    rw [j1.1]
    refine v_if_ne (tgt := 117) dX12_named_96 (by decide) (fun hc96 => ?_) (fun hc96 => ?_)
    · (first | rw [bI_0, Bool.not_eq_false] at hc96 | rw [bI_0] at hc96 | rw [show (0 : Int32) = nI 0 from rfl, nI_eq (by omega) (by omega)] at hc96 | skip)
      refine v_aload_0 dX12_named_117 ?_
      refine u_getI dX12_named_118 gf_X12_92 (by first | assumption | rfl | exact led_1 (by assumption) | exact led_2 (by assumption) | exact bk_m (by assumption) (by first | assumption | omega) | exact bk_p (by assumption) (by first | assumption | omega) | exact bk_o (by assumption) (by first | assumption | omega) | exact bk_s (by assumption) (by first | assumption | omega) | exact bk_1 (by assumption) | exact bk_2 (by assumption) | exact bk_3 (by assumption) | exact bk_4 (by assumption) | exact bk_5 (by assumption) | exact bk_6 (by assumption) | exact bk_7 (by assumption) | exact bk_8 (by assumption) | exact sh_ring _ (by first | assumption | omega) | exact sh_imgs _ (by first | assumption | omega)) ?_
      rw [j1.1]
      refine v_if_eq (tgt := 128) dX12_named_121 (by decide) (fun hc121 => ?_) (fun hc121 => ?_)
      · exact absurd hc121 (by decide)
      · (first | rw [bI_0, Bool.not_eq_false] at hc121 | rw [bI_0] at hc121 | rw [show (0 : Int32) = nI 0 from rfl, nI_eq (by omega) (by omega)] at hc121 | skip)
        refine v_iconst (v := nI 0) dX12_named_124 (by decide) ?_
        refine v_goto (tgt := 130) dX12_named_125 (by decide) ?_
        refine v_iret dX12_named_130 rfl rfl rfl rfl ?_
        exact hF f p q J j1 j2
    · exact absurd hc96 (by decide)
  have cutS : ∀ (n : Nat) (x3 x5 : Option Value), nmok tp sz s.1 = true → fnd tp sz s.2.1 s.1 = some n → bas 0 ≤ n → n < bas 0 + rom 0 → n < 17 → VV yX12_named cX12_named 6 (some .int) 6 Q b ad 92 [some (.ref (b + 157)), some (.int (nI 0)), some (.int (nI but)), x3, some (.int (nI (n - bas 0))), x5] [] I L R := by
    intro n x3 x5 w hf g1 g2 g3
    refine v_aload_0 dX12_named_92 ?_
    refine u_getI dX12_named_93 gf_X12_92 (by first | assumption | rfl | exact led_1 (by assumption) | exact led_2 (by assumption) | exact bk_m (by assumption) (by first | assumption | omega) | exact bk_p (by assumption) (by first | assumption | omega) | exact bk_o (by assumption) (by first | assumption | omega) | exact bk_s (by assumption) (by first | assumption | omega) | exact bk_1 (by assumption) | exact bk_2 (by assumption) | exact bk_3 (by assumption) | exact bk_4 (by assumption) | exact bk_5 (by assumption) | exact bk_6 (by assumption) | exact bk_7 (by assumption) | exact bk_8 (by assumption) | exact sh_ring _ (by first | assumption | omega) | exact sh_imgs _ (by first | assumption | omega)) ?_
    rw [h13]
    refine v_if_ne (tgt := 117) dX12_named_96 (by decide) (fun hc96 => ?_) (fun hc96 => ?_)
    · exact absurd rfl hc96
    · (first | rw [bI_0, Bool.not_eq_false] at hc96 | rw [bI_0] at hc96 | rw [show (0 : Int32) = nI 0 from rfl, nI_eq (by omega) (by omega)] at hc96 | skip)
      refine v_iload_2 dX12_named_99 ?_
      refine v_iload_4 dX12_named_100 ?_
      refine u_callS_2 dX12_named_102 ml_X12_158 ms_X12_has (by decide) (Nat.le_of_ble_eq_true rfl) (c_X12_has (by omega) (by omega) ?_)
      refine v_if_eq (tgt := 117) dX12_named_105 (by decide) (fun hc105 => ?_) (fun hc105 => ?_)
      · (first | rw [bI_0, Bool.not_eq_false] at hc105 | rw [bI_0] at hc105 | rw [show (0 : Int32) = nI 0 from rfl, nI_eq (by omega) (by omega)] at hc105 | skip)
        first
          | (refine v_aload_0 dX12_named_117 ?_
             refine u_getI dX12_named_118 gf_X12_92 (by first | assumption | rfl | exact led_1 (by assumption) | exact led_2 (by assumption) | exact bk_m (by assumption) (by first | assumption | omega) | exact bk_p (by assumption) (by first | assumption | omega) | exact bk_o (by assumption) (by first | assumption | omega) | exact bk_s (by assumption) (by first | assumption | omega) | exact bk_1 (by assumption) | exact bk_2 (by assumption) | exact bk_3 (by assumption) | exact bk_4 (by assumption) | exact bk_5 (by assumption) | exact bk_6 (by assumption) | exact bk_7 (by assumption) | exact bk_8 (by assumption) | exact sh_ring _ (by first | assumption | omega) | exact sh_imgs _ (by first | assumption | omega)) ?_
             rw [h13]
             refine v_if_eq (tgt := 128) dX12_named_121 (by decide) (fun hc121 => ?_) (fun hc121 => ?_)
             · (first | rw [bI_0, Bool.not_eq_false] at hc121 | rw [bI_0] at hc121 | rw [show (0 : Int32) = nI 0 from rfl, nI_eq (by omega) (by omega)] at hc121 | skip)
               refine v_iload_4 dX12_named_128 ?_
               refine v_iret dX12_named_130 rfl rfl rfl rfl ?_
               exact hY _ (by unfold qTold; rw [if_pos w, hf]; show (if bas 0 ≤ n ∧ n < bas 0 + rom 0 then _ else _) = _; rw [if_pos ⟨g1, g2⟩]; rw [if_neg (by rw [hc105]; decide)]) (by unfold bas rom at *; simp at *; omega)
             · exact absurd rfl hc121)
          | (refine v_aload_0 dX12_named_117 ?_
             refine u_getI dX12_named_118 gf_X12_92 (by first | assumption | rfl | exact led_1 (by assumption) | exact led_2 (by assumption) | exact bk_m (by assumption) (by first | assumption | omega) | exact bk_p (by assumption) (by first | assumption | omega) | exact bk_o (by assumption) (by first | assumption | omega) | exact bk_s (by assumption) (by first | assumption | omega) | exact bk_1 (by assumption) | exact bk_2 (by assumption) | exact bk_3 (by assumption) | exact bk_4 (by assumption) | exact bk_5 (by assumption) | exact bk_6 (by assumption) | exact bk_7 (by assumption) | exact bk_8 (by assumption) | exact sh_ring _ (by first | assumption | omega) | exact sh_imgs _ (by first | assumption | omega)) ?_
             rw [wrong_fl.1.1]
             refine v_if_eq (tgt := 128) dX12_named_121 (by decide) (fun hc121 => ?_) (fun hc121 => ?_)
             · exact absurd hc121 (by decide)
             · (first | rw [bI_0, Bool.not_eq_false] at hc121 | rw [bI_0] at hc121 | rw [show (0 : Int32) = nI 0 from rfl, nI_eq (by omega) (by omega)] at hc121 | skip)
               refine v_iconst (v := nI 0) dX12_named_124 (by decide) ?_
               refine v_goto (tgt := 130) dX12_named_125 (by decide) ?_
               refine v_iret dX12_named_130 rfl rfl rfl rfl ?_
               exact hF 3 _ (by unfold qTold; rw [if_pos w, hf]; show (if bas 0 ≤ n ∧ n < bas 0 + rom 0 then _ else _) = _; rw [if_pos ⟨g1, g2⟩]; rw [if_pos hc105]) _ wrong_fl.1 wrong_fl.2)
      · (first | rw [bI_0, Bool.not_eq_false] at hc105 | rw [bI_0] at hc105 | rw [show (0 : Int32) = nI 0 from rfl, nI_eq (by omega) (by omega)] at hc105 | skip)
        refine v_aload_0 dX12_named_108 ?_
        refine v_iconst (v := nI 3) dX12_named_109 (by decide) ?_
        refine v_aload_0 dX12_named_110 ?_
        refine u_getI dX12_named_111 gf_X12_73 (by first | assumption | rfl | exact led_1 (by assumption) | exact led_2 (by assumption) | exact bk_m (by assumption) (by first | assumption | omega) | exact bk_p (by assumption) (by first | assumption | omega) | exact bk_o (by assumption) (by first | assumption | omega) | exact bk_s (by assumption) (by first | assumption | omega) | exact bk_1 (by assumption) | exact bk_2 (by assumption) | exact bk_3 (by assumption) | exact bk_4 (by assumption) | exact bk_5 (by assumption) | exact bk_6 (by assumption) | exact bk_7 (by assumption) | exact bk_8 (by assumption) | exact sh_ring _ (by first | assumption | omega) | exact sh_imgs _ (by first | assumption | omega)) ?_
        rw [t4]
        refine u_callV_2 dX12_named_114 ml_X12_119 mv_X12_wrong (by first | assumption | rfl | exact led_1 (by assumption) | exact led_2 (by assumption) | exact bk_m (by assumption) (by first | assumption | omega) | exact bk_p (by assumption) (by first | assumption | omega) | exact bk_o (by assumption) (by first | assumption | omega) | exact bk_s (by assumption) (by first | assumption | omega) | exact bk_1 (by assumption) | exact bk_2 (by assumption) | exact bk_3 (by assumption) | exact bk_4 (by assumption) | exact bk_5 (by assumption) | exact bk_6 (by assumption) | exact bk_7 (by assumption) | exact bk_8 (by assumption) | exact sh_ring _ (by first | assumption | omega) | exact sh_imgs _ (by first | assumption | omega)) (by decide) rfl (by decide) (Nat.le_of_ble_eq_true rfl) (c_X12_wrong h13 ?_)
        first
          | (refine v_aload_0 dX12_named_117 ?_
             refine u_getI dX12_named_118 gf_X12_92 (by first | assumption | rfl | exact led_1 (by assumption) | exact led_2 (by assumption) | exact bk_m (by assumption) (by first | assumption | omega) | exact bk_p (by assumption) (by first | assumption | omega) | exact bk_o (by assumption) (by first | assumption | omega) | exact bk_s (by assumption) (by first | assumption | omega) | exact bk_1 (by assumption) | exact bk_2 (by assumption) | exact bk_3 (by assumption) | exact bk_4 (by assumption) | exact bk_5 (by assumption) | exact bk_6 (by assumption) | exact bk_7 (by assumption) | exact bk_8 (by assumption) | exact sh_ring _ (by first | assumption | omega) | exact sh_imgs _ (by first | assumption | omega)) ?_
             rw [h13]
             refine v_if_eq (tgt := 128) dX12_named_121 (by decide) (fun hc121 => ?_) (fun hc121 => ?_)
             · (first | rw [bI_0, Bool.not_eq_false] at hc121 | rw [bI_0] at hc121 | rw [show (0 : Int32) = nI 0 from rfl, nI_eq (by omega) (by omega)] at hc121 | skip)
               refine v_iload_4 dX12_named_128 ?_
               refine v_iret dX12_named_130 rfl rfl rfl rfl ?_
               exact hY _ (by unfold qTold; rw [if_pos w, hf]; show (if bas 0 ≤ n ∧ n < bas 0 + rom 0 then _ else _) = _; rw [if_pos ⟨g1, g2⟩]; rw [if_neg (by rw [hc105]; decide)]) (by unfold bas rom at *; simp at *; omega)
             · exact absurd rfl hc121)
          | (refine v_aload_0 dX12_named_117 ?_
             refine u_getI dX12_named_118 gf_X12_92 (by first | assumption | rfl | exact led_1 (by assumption) | exact led_2 (by assumption) | exact bk_m (by assumption) (by first | assumption | omega) | exact bk_p (by assumption) (by first | assumption | omega) | exact bk_o (by assumption) (by first | assumption | omega) | exact bk_s (by assumption) (by first | assumption | omega) | exact bk_1 (by assumption) | exact bk_2 (by assumption) | exact bk_3 (by assumption) | exact bk_4 (by assumption) | exact bk_5 (by assumption) | exact bk_6 (by assumption) | exact bk_7 (by assumption) | exact bk_8 (by assumption) | exact sh_ring _ (by first | assumption | omega) | exact sh_imgs _ (by first | assumption | omega)) ?_
             rw [wrong_fl.1.1]
             refine v_if_eq (tgt := 128) dX12_named_121 (by decide) (fun hc121 => ?_) (fun hc121 => ?_)
             · exact absurd hc121 (by decide)
             · (first | rw [bI_0, Bool.not_eq_false] at hc121 | rw [bI_0] at hc121 | rw [show (0 : Int32) = nI 0 from rfl, nI_eq (by omega) (by omega)] at hc121 | skip)
               refine v_iconst (v := nI 0) dX12_named_124 (by decide) ?_
               refine v_goto (tgt := 130) dX12_named_125 (by decide) ?_
               refine v_iret dX12_named_130 rfl rfl rfl rfl ?_
               exact hF 3 _ (by unfold qTold; rw [if_pos w, hf]; show (if bas 0 ≤ n ∧ n < bas 0 + rom 0 then _ else _) = _; rw [if_pos ⟨g1, g2⟩]; rw [if_pos hc105]) _ wrong_fl.1 wrong_fl.2)
  refine K.of (M := mX12_named) (lv := [some (.ref (b + 157)), some (.int (nI 0)), some (.int (nI but)), none, none, none]) (by decide) (Nat.le_of_ble_eq_true rfl) rfl ?_
  refine v_aload_0 dX12_named_0 ?_
  refine u_getI dX12_named_1 gf_X12_92 (by first | assumption | rfl | exact led_1 (by assumption) | exact led_2 (by assumption) | exact bk_m (by assumption) (by first | assumption | omega) | exact bk_p (by assumption) (by first | assumption | omega) | exact bk_o (by assumption) (by first | assumption | omega) | exact bk_s (by assumption) (by first | assumption | omega) | exact bk_1 (by assumption) | exact bk_2 (by assumption) | exact bk_3 (by assumption) | exact bk_4 (by assumption) | exact bk_5 (by assumption) | exact bk_6 (by assumption) | exact bk_7 (by assumption) | exact bk_8 (by assumption) | exact sh_ring _ (by first | assumption | omega) | exact sh_imgs _ (by first | assumption | omega)) ?_
  rw [h13]
  refine v_if_eq (tgt := 9) dX12_named_4 (by decide) (fun hc4 => ?_) (fun hc4 => ?_)
  · (first | rw [bI_0, Bool.not_eq_false] at hc4 | rw [bI_0] at hc4 | rw [show (0 : Int32) = nI 0 from rfl, nI_eq (by omega) (by omega)] at hc4 | skip)
    refine v_aload_0 dX12_named_9 ?_
    refine u_callV_0 dX12_named_10 ml_X12_148 mv_X12_mustName (by first | assumption | rfl | exact led_1 (by assumption) | exact led_2 (by assumption) | exact bk_m (by assumption) (by first | assumption | omega) | exact bk_p (by assumption) (by first | assumption | omega) | exact bk_o (by assumption) (by first | assumption | omega) | exact bk_s (by assumption) (by first | assumption | omega) | exact bk_1 (by assumption) | exact bk_2 (by assumption) | exact bk_3 (by assumption) | exact bk_4 (by assumption) | exact bk_5 (by assumption) | exact bk_6 (by assumption) | exact bk_7 (by assumption) | exact bk_8 (by assumption) | exact sh_ring _ (by first | assumption | omega) | exact sh_imgs _ (by first | assumption | omega)) (by decide) rfl (by decide) (Nat.le_of_ble_eq_true rfl) (c_X12_mustName hR h (fun w J j1 j2 => ?_) (fun w => ?_))
    · refine v_aload_0 dX12_named_13 ?_
      refine u_getI dX12_named_14 gf_X12_92 (by first | assumption | rfl | exact led_1 (by assumption) | exact led_2 (by assumption) | exact bk_m (by assumption) (by first | assumption | omega) | exact bk_p (by assumption) (by first | assumption | omega) | exact bk_o (by assumption) (by first | assumption | omega) | exact bk_s (by assumption) (by first | assumption | omega) | exact bk_1 (by assumption) | exact bk_2 (by assumption) | exact bk_3 (by assumption) | exact bk_4 (by assumption) | exact bk_5 (by assumption) | exact bk_6 (by assumption) | exact bk_7 (by assumption) | exact bk_8 (by assumption) | exact sh_ring _ (by first | assumption | omega) | exact sh_imgs _ (by first | assumption | omega)) ?_
      rw [j1.1]
      refine v_if_eq (tgt := 22) dX12_named_17 (by decide) (fun hc17 => ?_) (fun hc17 => ?_)
      · exact absurd hc17 (by decide)
      · (first | rw [bI_0, Bool.not_eq_false] at hc17 | rw [bI_0] at hc17 | rw [show (0 : Int32) = nI 0 from rfl, nI_eq (by omega) (by omega)] at hc17 | skip)
        refine v_iconst (v := nI 0) dX12_named_20 (by decide) ?_
        refine v_iret dX12_named_21 rfl rfl rfl rfl ?_
        exact hF 1 _ (by unfold qTold; rw [if_neg (by rw [w]; decide)]) J j1 j2
    · have k2 : tK tp sz s.1 = 2 := by unfold nmok at w; rw [Bool.and_eq_true, decide_eq_true_eq] at w; exact w.1
      have ex : ∀ n, fnd tp sz s.2.1 s.1 = some n → n < 17 := fun n q => by have := fup_some q; omega
      refine v_aload_0 dX12_named_13 ?_
      refine u_getI dX12_named_14 gf_X12_92 (by first | assumption | rfl | exact led_1 (by assumption) | exact led_2 (by assumption) | exact bk_m (by assumption) (by first | assumption | omega) | exact bk_p (by assumption) (by first | assumption | omega) | exact bk_o (by assumption) (by first | assumption | omega) | exact bk_s (by assumption) (by first | assumption | omega) | exact bk_1 (by assumption) | exact bk_2 (by assumption) | exact bk_3 (by assumption) | exact bk_4 (by assumption) | exact bk_5 (by assumption) | exact bk_6 (by assumption) | exact bk_7 (by assumption) | exact bk_8 (by assumption) | exact sh_ring _ (by first | assumption | omega) | exact sh_imgs _ (by first | assumption | omega)) ?_
      rw [h13]
      refine v_if_eq (tgt := 22) dX12_named_17 (by decide) (fun hc17 => ?_) (fun hc17 => ?_)
      · (first | rw [bI_0, Bool.not_eq_false] at hc17 | rw [bI_0] at hc17 | rw [show (0 : Int32) = nI 0 from rfl, nI_eq (by omega) (by omega)] at hc17 | skip)
        refine v_aload_0 dX12_named_22 ?_
        refine u_callV_0 dX12_named_23 ml_X12_151 mv_X12_find (by first | assumption | rfl | exact led_1 (by assumption) | exact led_2 (by assumption) | exact bk_m (by assumption) (by first | assumption | omega) | exact bk_p (by assumption) (by first | assumption | omega) | exact bk_o (by assumption) (by first | assumption | omega) | exact bk_s (by assumption) (by first | assumption | omega) | exact bk_1 (by assumption) | exact bk_2 (by assumption) | exact bk_3 (by assumption) | exact bk_4 (by assumption) | exact bk_5 (by assumption) | exact bk_6 (by assumption) | exact bk_7 (by assumption) | exact bk_8 (by assumption) | exact sh_ring _ (by first | assumption | omega) | exact sh_imgs _ (by first | assumption | omega)) (by decide) rfl (by decide) (Nat.le_of_ble_eq_true rfl) (c_X12_find hR h hG k2 ?_)
        cases hf : fnd tp sz s.2.1 s.1 with
        | none =>
          show VV _ _ _ _ _ _ _ _ _ _ [.int (-1)] _ _ _
          refine v_istore_3 rfl dX12_named_26 ?_
          refine v_iload_1 dX12_named_27 ?_
          refine v_if_ne (tgt := 35) dX12_named_28 (by decide) (fun hc28 => ?_) (fun hc28 => ?_)
          · exact absurd rfl hc28
          · skip
            refine v_iload_3 dX12_named_31 ?_
            refine v_goto (tgt := 52) dX12_named_32 (by decide) ?_
            refine v_istore_4 rfl dX12_named_52 ?_
            refine v_iload_1 dX12_named_54 ?_
            refine v_if_ne (tgt := 62) dX12_named_55 (by decide) (fun hc55 => ?_) (fun hc55 => ?_)
            · exact absurd rfl hc55
            · skip
              refine v_iconst (v := nI 5) dX12_named_58 (by decide) ?_
              refine v_goto (tgt := 64) dX12_named_59 (by decide) ?_
              refine v_istore_5 rfl dX12_named_64 ?_
              refine v_iload_3 dX12_named_66 ?_
              refine v_if_lt (tgt := 83) dX12_named_67 (by decide) (fun hc67 => ?_) (fun hc67 => ?_)
              · skip
                refine v_aload_0 dX12_named_83 ?_
                refine v_iconst (v := nI 2) dX12_named_84 (by decide) ?_
                refine v_aload_0 dX12_named_85 ?_
                refine u_getI dX12_named_86 gf_X12_73 (by first | assumption | rfl | exact led_1 (by assumption) | exact led_2 (by assumption) | exact bk_m (by assumption) (by first | assumption | omega) | exact bk_p (by assumption) (by first | assumption | omega) | exact bk_o (by assumption) (by first | assumption | omega) | exact bk_s (by assumption) (by first | assumption | omega) | exact bk_1 (by assumption) | exact bk_2 (by assumption) | exact bk_3 (by assumption) | exact bk_4 (by assumption) | exact bk_5 (by assumption) | exact bk_6 (by assumption) | exact bk_7 (by assumption) | exact bk_8 (by assumption) | exact sh_ring _ (by first | assumption | omega) | exact sh_imgs _ (by first | assumption | omega)) ?_
                rw [t4]
                refine u_callV_2 dX12_named_89 ml_X12_119 mv_X12_wrong (by first | assumption | rfl | exact led_1 (by assumption) | exact led_2 (by assumption) | exact bk_m (by assumption) (by first | assumption | omega) | exact bk_p (by assumption) (by first | assumption | omega) | exact bk_o (by assumption) (by first | assumption | omega) | exact bk_s (by assumption) (by first | assumption | omega) | exact bk_1 (by assumption) | exact bk_2 (by assumption) | exact bk_3 (by assumption) | exact bk_4 (by assumption) | exact bk_5 (by assumption) | exact bk_6 (by assumption) | exact bk_7 (by assumption) | exact bk_8 (by assumption) | exact sh_ring _ (by first | assumption | omega) | exact sh_imgs _ (by first | assumption | omega)) (by decide) rfl (by decide) (Nat.le_of_ble_eq_true rfl) (c_X12_wrong h13 ?_)
                exact cutF _ 2 _ _ _ _ wrong_fl.1 wrong_fl.2 (by unfold qTold; rw [if_pos w, hf])
              · exact absurd (by decide) hc67
        | some n =>
          have hn := ex n hf
          show VV _ _ _ _ _ _ _ _ _ _ [.int (nI n)] _ _ _
          refine v_istore_3 rfl dX12_named_26 ?_
          refine v_iload_1 dX12_named_27 ?_
          refine v_if_ne (tgt := 35) dX12_named_28 (by decide) (fun hc28 => ?_) (fun hc28 => ?_)
          · exact absurd rfl hc28
          · skip
            refine v_iload_3 dX12_named_31 ?_
            refine v_goto (tgt := 52) dX12_named_32 (by decide) ?_
            refine v_istore_4 rfl dX12_named_52 ?_
            refine v_iload_1 dX12_named_54 ?_
            refine v_if_ne (tgt := 62) dX12_named_55 (by decide) (fun hc55 => ?_) (fun hc55 => ?_)
            · exact absurd rfl hc55
            · skip
              refine v_iconst (v := nI 5) dX12_named_58 (by decide) ?_
              refine v_goto (tgt := 64) dX12_named_59 (by decide) ?_
              refine v_istore_5 rfl dX12_named_64 ?_
              refine v_iload_3 dX12_named_66 ?_
              refine v_if_lt (tgt := 83) dX12_named_67 (by decide) (fun hc67 => ?_) (fun hc67 => ?_)
              · exact absurd (Int32.lt_of_lt_of_le hc67 (nI_pos2 (by omega))) Int32.lt_irrefl
              · skip
                refine v_iload_4 dX12_named_70 ?_
                refine v_iconst (v := nI 0) dX12_named_72 (by decide) ?_
                refine v_iload_5 dX12_named_73 ?_
                refine v_iconst (v := nI 1) dX12_named_75 (by decide) ?_
                refine v_isub dX12_named_76 ?_
                refine u_callS_3 dX12_named_77 ml_X12_154 ms_X12_within (by decide) (Nat.le_of_ble_eq_true rfl) (c_X12_within ?_)
                rw [wth0 n hn]
                refine v_if_ne (tgt := 92) dX12_named_80 (by decide) (fun hc80 => ?_) (fun hc80 => ?_)
                · (first | rw [bI_0, Bool.not_eq_false] at hc80 | rw [bI_0] at hc80 | rw [show (0 : Int32) = nI 0 from rfl, nI_eq (by omega) (by omega)] at hc80 | skip)
                  first
                    | exact cutF _ 2 _ _ _ _ wrong_fl.1 wrong_fl.2 (by unfold qTold; rw [if_pos w, hf]; show (if bas 0 ≤ n ∧ n < bas 0 + rom 0 then _ else _) = _; rw [if_neg (fun z => by rw [decide_eq_true z] at hc80; cases hc80)])
                    | (rw [decide_eq_true_eq] at hc80; show VV _ _ _ _ _ _ _ _ _ [_, _, _, _, some (.int (nI (n - bas 0))), _] _ _ _ _; exact cutS n _ _ w hf hc80.1 hc80.2 hn)
                · (first | rw [bI_0, Bool.not_eq_false] at hc80 | rw [bI_0] at hc80 | rw [show (0 : Int32) = nI 0 from rfl, nI_eq (by omega) (by omega)] at hc80 | skip)
                  refine v_aload_0 dX12_named_83 ?_
                  refine v_iconst (v := nI 2) dX12_named_84 (by decide) ?_
                  refine v_aload_0 dX12_named_85 ?_
                  refine u_getI dX12_named_86 gf_X12_73 (by first | assumption | rfl | exact led_1 (by assumption) | exact led_2 (by assumption) | exact bk_m (by assumption) (by first | assumption | omega) | exact bk_p (by assumption) (by first | assumption | omega) | exact bk_o (by assumption) (by first | assumption | omega) | exact bk_s (by assumption) (by first | assumption | omega) | exact bk_1 (by assumption) | exact bk_2 (by assumption) | exact bk_3 (by assumption) | exact bk_4 (by assumption) | exact bk_5 (by assumption) | exact bk_6 (by assumption) | exact bk_7 (by assumption) | exact bk_8 (by assumption) | exact sh_ring _ (by first | assumption | omega) | exact sh_imgs _ (by first | assumption | omega)) ?_
                  rw [t4]
                  refine u_callV_2 dX12_named_89 ml_X12_119 mv_X12_wrong (by first | assumption | rfl | exact led_1 (by assumption) | exact led_2 (by assumption) | exact bk_m (by assumption) (by first | assumption | omega) | exact bk_p (by assumption) (by first | assumption | omega) | exact bk_o (by assumption) (by first | assumption | omega) | exact bk_s (by assumption) (by first | assumption | omega) | exact bk_1 (by assumption) | exact bk_2 (by assumption) | exact bk_3 (by assumption) | exact bk_4 (by assumption) | exact bk_5 (by assumption) | exact bk_6 (by assumption) | exact bk_7 (by assumption) | exact bk_8 (by assumption) | exact sh_ring _ (by first | assumption | omega) | exact sh_imgs _ (by first | assumption | omega)) (by decide) rfl (by decide) (Nat.le_of_ble_eq_true rfl) (c_X12_wrong h13 ?_)
                  first
                    | exact cutF _ 2 _ _ _ _ wrong_fl.1 wrong_fl.2 (by unfold qTold; rw [if_pos w, hf]; show (if bas 0 ≤ n ∧ n < bas 0 + rom 0 then _ else _) = _; rw [if_neg (fun z => by rw [decide_eq_true z] at hc80; cases hc80)])
                    | (rw [decide_eq_true_eq] at hc80; show VV _ _ _ _ _ _ _ _ _ [_, _, _, _, some (.int (nI (n - bas 0))), _] _ _ _ _; exact cutS n _ _ w hf hc80.1 hc80.2 hn)
      · exact absurd rfl hc17
  · exact absurd rfl hc4
theorem c_X12_named_1 {but : Nat} (hbut : but < 2 ^ 30) (hR : RO R) (h : LvM I tp sz s.1 G l) (hG : NmE G s.2.1) (hF : ∀ f p, qTold tp sz 1 but s = .inl (f, p) → ∀ J : HI, FlM J f p → FrP I J → Q (some (.int (nI 0))) SH J L R) (hY : ∀ v, qTold tp sz 1 but s = .inr (v, nx tp sz s) → v < 6 → Q (some (.int (nI v))) SH I L R) : KK 6 mX12_named b ad [.ref (b + 157), .int (nI 1), .int (nI but)] I L R Q := by
  have h13 := h.2.2.1
  have t4 := h.2.2.2.1.1
  have cutF : ∀ (J : HI) (f p : Nat) (x3 x4 x5 : Option Value), FlM J f p → FrP I J → qTold tp sz 1 but s = .inl (f, p) → VV yX12_named cX12_named 6 (some .int) 6 Q b ad 92 [some (.ref (b + 157)), some (.int (nI 1)), some (.int (nI but)), x3, x4, x5] [] J L R := by
    intro J f p x3 x4 x5 j1 j2 q
    refine v_aload_0 dX12_named_92 ?_
    refine u_getI dX12_named_93 gf_X12_92 (by first | assumption | rfl | exact led_1 (by assumption) | exact led_2 (by assumption) | exact bk_m (by assumption) (by first | assumption | omega) | exact bk_p (by assumption) (by first | assumption | omega) | exact bk_o (by assumption) (by first | assumption | omega) | exact bk_s (by assumption) (by first | assumption | omega) | exact bk_1 (by assumption) | exact bk_2 (by assumption) | exact bk_3 (by assumption) | exact bk_4 (by assumption) | exact bk_5 (by assumption) | exact bk_6 (by assumption) | exact bk_7 (by assumption) | exact bk_8 (by assumption) | exact sh_ring _ (by first | assumption | omega) | exact sh_imgs _ (by first | assumption | omega)) ?_
    rw [j1.1]
    refine v_if_ne (tgt := 117) dX12_named_96 (by decide) (fun hc96 => ?_) (fun hc96 => ?_)
    · (first | rw [bI_0, Bool.not_eq_false] at hc96 | rw [bI_0] at hc96 | rw [show (0 : Int32) = nI 0 from rfl, nI_eq (by omega) (by omega)] at hc96 | skip)
      refine v_aload_0 dX12_named_117 ?_
      refine u_getI dX12_named_118 gf_X12_92 (by first | assumption | rfl | exact led_1 (by assumption) | exact led_2 (by assumption) | exact bk_m (by assumption) (by first | assumption | omega) | exact bk_p (by assumption) (by first | assumption | omega) | exact bk_o (by assumption) (by first | assumption | omega) | exact bk_s (by assumption) (by first | assumption | omega) | exact bk_1 (by assumption) | exact bk_2 (by assumption) | exact bk_3 (by assumption) | exact bk_4 (by assumption) | exact bk_5 (by assumption) | exact bk_6 (by assumption) | exact bk_7 (by assumption) | exact bk_8 (by assumption) | exact sh_ring _ (by first | assumption | omega) | exact sh_imgs _ (by first | assumption | omega)) ?_
      rw [j1.1]
      refine v_if_eq (tgt := 128) dX12_named_121 (by decide) (fun hc121 => ?_) (fun hc121 => ?_)
      · exact absurd hc121 (by decide)
      · (first | rw [bI_0, Bool.not_eq_false] at hc121 | rw [bI_0] at hc121 | rw [show (0 : Int32) = nI 0 from rfl, nI_eq (by omega) (by omega)] at hc121 | skip)
        refine v_iconst (v := nI 0) dX12_named_124 (by decide) ?_
        refine v_goto (tgt := 130) dX12_named_125 (by decide) ?_
        refine v_iret dX12_named_130 rfl rfl rfl rfl ?_
        exact hF f p q J j1 j2
    · exact absurd hc96 (by decide)
  have cutS : ∀ (n : Nat) (x3 x5 : Option Value), nmok tp sz s.1 = true → fnd tp sz s.2.1 s.1 = some n → bas 1 ≤ n → n < bas 1 + rom 1 → n < 17 → VV yX12_named cX12_named 6 (some .int) 6 Q b ad 92 [some (.ref (b + 157)), some (.int (nI 1)), some (.int (nI but)), x3, some (.int (nI (n - bas 1))), x5] [] I L R := by
    intro n x3 x5 w hf g1 g2 g3
    refine v_aload_0 dX12_named_92 ?_
    refine u_getI dX12_named_93 gf_X12_92 (by first | assumption | rfl | exact led_1 (by assumption) | exact led_2 (by assumption) | exact bk_m (by assumption) (by first | assumption | omega) | exact bk_p (by assumption) (by first | assumption | omega) | exact bk_o (by assumption) (by first | assumption | omega) | exact bk_s (by assumption) (by first | assumption | omega) | exact bk_1 (by assumption) | exact bk_2 (by assumption) | exact bk_3 (by assumption) | exact bk_4 (by assumption) | exact bk_5 (by assumption) | exact bk_6 (by assumption) | exact bk_7 (by assumption) | exact bk_8 (by assumption) | exact sh_ring _ (by first | assumption | omega) | exact sh_imgs _ (by first | assumption | omega)) ?_
    rw [h13]
    refine v_if_ne (tgt := 117) dX12_named_96 (by decide) (fun hc96 => ?_) (fun hc96 => ?_)
    · exact absurd rfl hc96
    · (first | rw [bI_0, Bool.not_eq_false] at hc96 | rw [bI_0] at hc96 | rw [show (0 : Int32) = nI 0 from rfl, nI_eq (by omega) (by omega)] at hc96 | skip)
      refine v_iload_2 dX12_named_99 ?_
      refine v_iload_4 dX12_named_100 ?_
      refine u_callS_2 dX12_named_102 ml_X12_158 ms_X12_has (by decide) (Nat.le_of_ble_eq_true rfl) (c_X12_has (by omega) (by omega) ?_)
      refine v_if_eq (tgt := 117) dX12_named_105 (by decide) (fun hc105 => ?_) (fun hc105 => ?_)
      · (first | rw [bI_0, Bool.not_eq_false] at hc105 | rw [bI_0] at hc105 | rw [show (0 : Int32) = nI 0 from rfl, nI_eq (by omega) (by omega)] at hc105 | skip)
        first
          | (refine v_aload_0 dX12_named_117 ?_
             refine u_getI dX12_named_118 gf_X12_92 (by first | assumption | rfl | exact led_1 (by assumption) | exact led_2 (by assumption) | exact bk_m (by assumption) (by first | assumption | omega) | exact bk_p (by assumption) (by first | assumption | omega) | exact bk_o (by assumption) (by first | assumption | omega) | exact bk_s (by assumption) (by first | assumption | omega) | exact bk_1 (by assumption) | exact bk_2 (by assumption) | exact bk_3 (by assumption) | exact bk_4 (by assumption) | exact bk_5 (by assumption) | exact bk_6 (by assumption) | exact bk_7 (by assumption) | exact bk_8 (by assumption) | exact sh_ring _ (by first | assumption | omega) | exact sh_imgs _ (by first | assumption | omega)) ?_
             rw [h13]
             refine v_if_eq (tgt := 128) dX12_named_121 (by decide) (fun hc121 => ?_) (fun hc121 => ?_)
             · (first | rw [bI_0, Bool.not_eq_false] at hc121 | rw [bI_0] at hc121 | rw [show (0 : Int32) = nI 0 from rfl, nI_eq (by omega) (by omega)] at hc121 | skip)
               refine v_iload_4 dX12_named_128 ?_
               refine v_iret dX12_named_130 rfl rfl rfl rfl ?_
               exact hY _ (by unfold qTold; rw [if_pos w, hf]; show (if bas 1 ≤ n ∧ n < bas 1 + rom 1 then _ else _) = _; rw [if_pos ⟨g1, g2⟩]; rw [if_neg (by rw [hc105]; decide)]) (by unfold bas rom at *; simp at *; omega)
             · exact absurd rfl hc121)
          | (refine v_aload_0 dX12_named_117 ?_
             refine u_getI dX12_named_118 gf_X12_92 (by first | assumption | rfl | exact led_1 (by assumption) | exact led_2 (by assumption) | exact bk_m (by assumption) (by first | assumption | omega) | exact bk_p (by assumption) (by first | assumption | omega) | exact bk_o (by assumption) (by first | assumption | omega) | exact bk_s (by assumption) (by first | assumption | omega) | exact bk_1 (by assumption) | exact bk_2 (by assumption) | exact bk_3 (by assumption) | exact bk_4 (by assumption) | exact bk_5 (by assumption) | exact bk_6 (by assumption) | exact bk_7 (by assumption) | exact bk_8 (by assumption) | exact sh_ring _ (by first | assumption | omega) | exact sh_imgs _ (by first | assumption | omega)) ?_
             rw [wrong_fl.1.1]
             refine v_if_eq (tgt := 128) dX12_named_121 (by decide) (fun hc121 => ?_) (fun hc121 => ?_)
             · exact absurd hc121 (by decide)
             · (first | rw [bI_0, Bool.not_eq_false] at hc121 | rw [bI_0] at hc121 | rw [show (0 : Int32) = nI 0 from rfl, nI_eq (by omega) (by omega)] at hc121 | skip)
               refine v_iconst (v := nI 0) dX12_named_124 (by decide) ?_
               refine v_goto (tgt := 130) dX12_named_125 (by decide) ?_
               refine v_iret dX12_named_130 rfl rfl rfl rfl ?_
               exact hF 3 _ (by unfold qTold; rw [if_pos w, hf]; show (if bas 1 ≤ n ∧ n < bas 1 + rom 1 then _ else _) = _; rw [if_pos ⟨g1, g2⟩]; rw [if_pos hc105]) _ wrong_fl.1 wrong_fl.2)
      · (first | rw [bI_0, Bool.not_eq_false] at hc105 | rw [bI_0] at hc105 | rw [show (0 : Int32) = nI 0 from rfl, nI_eq (by omega) (by omega)] at hc105 | skip)
        refine v_aload_0 dX12_named_108 ?_
        refine v_iconst (v := nI 3) dX12_named_109 (by decide) ?_
        refine v_aload_0 dX12_named_110 ?_
        refine u_getI dX12_named_111 gf_X12_73 (by first | assumption | rfl | exact led_1 (by assumption) | exact led_2 (by assumption) | exact bk_m (by assumption) (by first | assumption | omega) | exact bk_p (by assumption) (by first | assumption | omega) | exact bk_o (by assumption) (by first | assumption | omega) | exact bk_s (by assumption) (by first | assumption | omega) | exact bk_1 (by assumption) | exact bk_2 (by assumption) | exact bk_3 (by assumption) | exact bk_4 (by assumption) | exact bk_5 (by assumption) | exact bk_6 (by assumption) | exact bk_7 (by assumption) | exact bk_8 (by assumption) | exact sh_ring _ (by first | assumption | omega) | exact sh_imgs _ (by first | assumption | omega)) ?_
        rw [t4]
        refine u_callV_2 dX12_named_114 ml_X12_119 mv_X12_wrong (by first | assumption | rfl | exact led_1 (by assumption) | exact led_2 (by assumption) | exact bk_m (by assumption) (by first | assumption | omega) | exact bk_p (by assumption) (by first | assumption | omega) | exact bk_o (by assumption) (by first | assumption | omega) | exact bk_s (by assumption) (by first | assumption | omega) | exact bk_1 (by assumption) | exact bk_2 (by assumption) | exact bk_3 (by assumption) | exact bk_4 (by assumption) | exact bk_5 (by assumption) | exact bk_6 (by assumption) | exact bk_7 (by assumption) | exact bk_8 (by assumption) | exact sh_ring _ (by first | assumption | omega) | exact sh_imgs _ (by first | assumption | omega)) (by decide) rfl (by decide) (Nat.le_of_ble_eq_true rfl) (c_X12_wrong h13 ?_)
        first
          | (refine v_aload_0 dX12_named_117 ?_
             refine u_getI dX12_named_118 gf_X12_92 (by first | assumption | rfl | exact led_1 (by assumption) | exact led_2 (by assumption) | exact bk_m (by assumption) (by first | assumption | omega) | exact bk_p (by assumption) (by first | assumption | omega) | exact bk_o (by assumption) (by first | assumption | omega) | exact bk_s (by assumption) (by first | assumption | omega) | exact bk_1 (by assumption) | exact bk_2 (by assumption) | exact bk_3 (by assumption) | exact bk_4 (by assumption) | exact bk_5 (by assumption) | exact bk_6 (by assumption) | exact bk_7 (by assumption) | exact bk_8 (by assumption) | exact sh_ring _ (by first | assumption | omega) | exact sh_imgs _ (by first | assumption | omega)) ?_
             rw [h13]
             refine v_if_eq (tgt := 128) dX12_named_121 (by decide) (fun hc121 => ?_) (fun hc121 => ?_)
             · (first | rw [bI_0, Bool.not_eq_false] at hc121 | rw [bI_0] at hc121 | rw [show (0 : Int32) = nI 0 from rfl, nI_eq (by omega) (by omega)] at hc121 | skip)
               refine v_iload_4 dX12_named_128 ?_
               refine v_iret dX12_named_130 rfl rfl rfl rfl ?_
               exact hY _ (by unfold qTold; rw [if_pos w, hf]; show (if bas 1 ≤ n ∧ n < bas 1 + rom 1 then _ else _) = _; rw [if_pos ⟨g1, g2⟩]; rw [if_neg (by rw [hc105]; decide)]) (by unfold bas rom at *; simp at *; omega)
             · exact absurd rfl hc121)
          | (refine v_aload_0 dX12_named_117 ?_
             refine u_getI dX12_named_118 gf_X12_92 (by first | assumption | rfl | exact led_1 (by assumption) | exact led_2 (by assumption) | exact bk_m (by assumption) (by first | assumption | omega) | exact bk_p (by assumption) (by first | assumption | omega) | exact bk_o (by assumption) (by first | assumption | omega) | exact bk_s (by assumption) (by first | assumption | omega) | exact bk_1 (by assumption) | exact bk_2 (by assumption) | exact bk_3 (by assumption) | exact bk_4 (by assumption) | exact bk_5 (by assumption) | exact bk_6 (by assumption) | exact bk_7 (by assumption) | exact bk_8 (by assumption) | exact sh_ring _ (by first | assumption | omega) | exact sh_imgs _ (by first | assumption | omega)) ?_
             rw [wrong_fl.1.1]
             refine v_if_eq (tgt := 128) dX12_named_121 (by decide) (fun hc121 => ?_) (fun hc121 => ?_)
             · exact absurd hc121 (by decide)
             · (first | rw [bI_0, Bool.not_eq_false] at hc121 | rw [bI_0] at hc121 | rw [show (0 : Int32) = nI 0 from rfl, nI_eq (by omega) (by omega)] at hc121 | skip)
               refine v_iconst (v := nI 0) dX12_named_124 (by decide) ?_
               refine v_goto (tgt := 130) dX12_named_125 (by decide) ?_
               refine v_iret dX12_named_130 rfl rfl rfl rfl ?_
               exact hF 3 _ (by unfold qTold; rw [if_pos w, hf]; show (if bas 1 ≤ n ∧ n < bas 1 + rom 1 then _ else _) = _; rw [if_pos ⟨g1, g2⟩]; rw [if_pos hc105]) _ wrong_fl.1 wrong_fl.2)
  refine K.of (M := mX12_named) (lv := [some (.ref (b + 157)), some (.int (nI 1)), some (.int (nI but)), none, none, none]) (by decide) (Nat.le_of_ble_eq_true rfl) rfl ?_
  refine v_aload_0 dX12_named_0 ?_
  refine u_getI dX12_named_1 gf_X12_92 (by first | assumption | rfl | exact led_1 (by assumption) | exact led_2 (by assumption) | exact bk_m (by assumption) (by first | assumption | omega) | exact bk_p (by assumption) (by first | assumption | omega) | exact bk_o (by assumption) (by first | assumption | omega) | exact bk_s (by assumption) (by first | assumption | omega) | exact bk_1 (by assumption) | exact bk_2 (by assumption) | exact bk_3 (by assumption) | exact bk_4 (by assumption) | exact bk_5 (by assumption) | exact bk_6 (by assumption) | exact bk_7 (by assumption) | exact bk_8 (by assumption) | exact sh_ring _ (by first | assumption | omega) | exact sh_imgs _ (by first | assumption | omega)) ?_
  rw [h13]
  refine v_if_eq (tgt := 9) dX12_named_4 (by decide) (fun hc4 => ?_) (fun hc4 => ?_)
  · (first | rw [bI_0, Bool.not_eq_false] at hc4 | rw [bI_0] at hc4 | rw [show (0 : Int32) = nI 0 from rfl, nI_eq (by omega) (by omega)] at hc4 | skip)
    refine v_aload_0 dX12_named_9 ?_
    refine u_callV_0 dX12_named_10 ml_X12_148 mv_X12_mustName (by first | assumption | rfl | exact led_1 (by assumption) | exact led_2 (by assumption) | exact bk_m (by assumption) (by first | assumption | omega) | exact bk_p (by assumption) (by first | assumption | omega) | exact bk_o (by assumption) (by first | assumption | omega) | exact bk_s (by assumption) (by first | assumption | omega) | exact bk_1 (by assumption) | exact bk_2 (by assumption) | exact bk_3 (by assumption) | exact bk_4 (by assumption) | exact bk_5 (by assumption) | exact bk_6 (by assumption) | exact bk_7 (by assumption) | exact bk_8 (by assumption) | exact sh_ring _ (by first | assumption | omega) | exact sh_imgs _ (by first | assumption | omega)) (by decide) rfl (by decide) (Nat.le_of_ble_eq_true rfl) (c_X12_mustName hR h (fun w J j1 j2 => ?_) (fun w => ?_))
    · refine v_aload_0 dX12_named_13 ?_
      refine u_getI dX12_named_14 gf_X12_92 (by first | assumption | rfl | exact led_1 (by assumption) | exact led_2 (by assumption) | exact bk_m (by assumption) (by first | assumption | omega) | exact bk_p (by assumption) (by first | assumption | omega) | exact bk_o (by assumption) (by first | assumption | omega) | exact bk_s (by assumption) (by first | assumption | omega) | exact bk_1 (by assumption) | exact bk_2 (by assumption) | exact bk_3 (by assumption) | exact bk_4 (by assumption) | exact bk_5 (by assumption) | exact bk_6 (by assumption) | exact bk_7 (by assumption) | exact bk_8 (by assumption) | exact sh_ring _ (by first | assumption | omega) | exact sh_imgs _ (by first | assumption | omega)) ?_
      rw [j1.1]
      refine v_if_eq (tgt := 22) dX12_named_17 (by decide) (fun hc17 => ?_) (fun hc17 => ?_)
      · exact absurd hc17 (by decide)
      · (first | rw [bI_0, Bool.not_eq_false] at hc17 | rw [bI_0] at hc17 | rw [show (0 : Int32) = nI 0 from rfl, nI_eq (by omega) (by omega)] at hc17 | skip)
        refine v_iconst (v := nI 0) dX12_named_20 (by decide) ?_
        refine v_iret dX12_named_21 rfl rfl rfl rfl ?_
        exact hF 1 _ (by unfold qTold; rw [if_neg (by rw [w]; decide)]) J j1 j2
    · have k2 : tK tp sz s.1 = 2 := by unfold nmok at w; rw [Bool.and_eq_true, decide_eq_true_eq] at w; exact w.1
      have ex : ∀ n, fnd tp sz s.2.1 s.1 = some n → n < 17 := fun n q => by have := fup_some q; omega
      refine v_aload_0 dX12_named_13 ?_
      refine u_getI dX12_named_14 gf_X12_92 (by first | assumption | rfl | exact led_1 (by assumption) | exact led_2 (by assumption) | exact bk_m (by assumption) (by first | assumption | omega) | exact bk_p (by assumption) (by first | assumption | omega) | exact bk_o (by assumption) (by first | assumption | omega) | exact bk_s (by assumption) (by first | assumption | omega) | exact bk_1 (by assumption) | exact bk_2 (by assumption) | exact bk_3 (by assumption) | exact bk_4 (by assumption) | exact bk_5 (by assumption) | exact bk_6 (by assumption) | exact bk_7 (by assumption) | exact bk_8 (by assumption) | exact sh_ring _ (by first | assumption | omega) | exact sh_imgs _ (by first | assumption | omega)) ?_
      rw [h13]
      refine v_if_eq (tgt := 22) dX12_named_17 (by decide) (fun hc17 => ?_) (fun hc17 => ?_)
      · (first | rw [bI_0, Bool.not_eq_false] at hc17 | rw [bI_0] at hc17 | rw [show (0 : Int32) = nI 0 from rfl, nI_eq (by omega) (by omega)] at hc17 | skip)
        refine v_aload_0 dX12_named_22 ?_
        refine u_callV_0 dX12_named_23 ml_X12_151 mv_X12_find (by first | assumption | rfl | exact led_1 (by assumption) | exact led_2 (by assumption) | exact bk_m (by assumption) (by first | assumption | omega) | exact bk_p (by assumption) (by first | assumption | omega) | exact bk_o (by assumption) (by first | assumption | omega) | exact bk_s (by assumption) (by first | assumption | omega) | exact bk_1 (by assumption) | exact bk_2 (by assumption) | exact bk_3 (by assumption) | exact bk_4 (by assumption) | exact bk_5 (by assumption) | exact bk_6 (by assumption) | exact bk_7 (by assumption) | exact bk_8 (by assumption) | exact sh_ring _ (by first | assumption | omega) | exact sh_imgs _ (by first | assumption | omega)) (by decide) rfl (by decide) (Nat.le_of_ble_eq_true rfl) (c_X12_find hR h hG k2 ?_)
        cases hf : fnd tp sz s.2.1 s.1 with
        | none =>
          show VV _ _ _ _ _ _ _ _ _ _ [.int (-1)] _ _ _
          refine v_istore_3 rfl dX12_named_26 ?_
          refine v_iload_1 dX12_named_27 ?_
          refine v_if_ne (tgt := 35) dX12_named_28 (by decide) (fun hc28 => ?_) (fun hc28 => ?_)
          · skip
            refine v_iload_1 dX12_named_35 ?_
            refine v_iconst (v := nI 1) dX12_named_36 (by decide) ?_
            refine v_icmp_ne (tgt := 46) dX12_named_37 (by decide) (fun hc37 => ?_) (fun hc37 => ?_)
            · exact absurd rfl hc37
            · skip
              refine v_iload_3 dX12_named_40 ?_
              refine v_iconst (v := nI 5) dX12_named_41 (by decide) ?_
              refine v_isub dX12_named_42 ?_
              refine v_goto (tgt := 52) dX12_named_43 (by decide) ?_
              refine v_istore_4 rfl dX12_named_52 ?_
              refine v_iload_1 dX12_named_54 ?_
              refine v_if_ne (tgt := 62) dX12_named_55 (by decide) (fun hc55 => ?_) (fun hc55 => ?_)
              · skip
                refine v_bipush (v := nI 6) dX12_named_62 (by decide) ?_
                refine v_istore_5 rfl dX12_named_64 ?_
                refine v_iload_3 dX12_named_66 ?_
                refine v_if_lt (tgt := 83) dX12_named_67 (by decide) (fun hc67 => ?_) (fun hc67 => ?_)
                · skip
                  refine v_aload_0 dX12_named_83 ?_
                  refine v_iconst (v := nI 2) dX12_named_84 (by decide) ?_
                  refine v_aload_0 dX12_named_85 ?_
                  refine u_getI dX12_named_86 gf_X12_73 (by first | assumption | rfl | exact led_1 (by assumption) | exact led_2 (by assumption) | exact bk_m (by assumption) (by first | assumption | omega) | exact bk_p (by assumption) (by first | assumption | omega) | exact bk_o (by assumption) (by first | assumption | omega) | exact bk_s (by assumption) (by first | assumption | omega) | exact bk_1 (by assumption) | exact bk_2 (by assumption) | exact bk_3 (by assumption) | exact bk_4 (by assumption) | exact bk_5 (by assumption) | exact bk_6 (by assumption) | exact bk_7 (by assumption) | exact bk_8 (by assumption) | exact sh_ring _ (by first | assumption | omega) | exact sh_imgs _ (by first | assumption | omega)) ?_
                  rw [t4]
                  refine u_callV_2 dX12_named_89 ml_X12_119 mv_X12_wrong (by first | assumption | rfl | exact led_1 (by assumption) | exact led_2 (by assumption) | exact bk_m (by assumption) (by first | assumption | omega) | exact bk_p (by assumption) (by first | assumption | omega) | exact bk_o (by assumption) (by first | assumption | omega) | exact bk_s (by assumption) (by first | assumption | omega) | exact bk_1 (by assumption) | exact bk_2 (by assumption) | exact bk_3 (by assumption) | exact bk_4 (by assumption) | exact bk_5 (by assumption) | exact bk_6 (by assumption) | exact bk_7 (by assumption) | exact bk_8 (by assumption) | exact sh_ring _ (by first | assumption | omega) | exact sh_imgs _ (by first | assumption | omega)) (by decide) rfl (by decide) (Nat.le_of_ble_eq_true rfl) (c_X12_wrong h13 ?_)
                  exact cutF _ 2 _ _ _ _ wrong_fl.1 wrong_fl.2 (by unfold qTold; rw [if_pos w, hf])
                · exact absurd (by decide) hc67
              · exact absurd hc55 (by decide)
          · exact absurd hc28 (by decide)
        | some n =>
          have hn := ex n hf
          show VV _ _ _ _ _ _ _ _ _ _ [.int (nI n)] _ _ _
          refine v_istore_3 rfl dX12_named_26 ?_
          refine v_iload_1 dX12_named_27 ?_
          refine v_if_ne (tgt := 35) dX12_named_28 (by decide) (fun hc28 => ?_) (fun hc28 => ?_)
          · skip
            refine v_iload_1 dX12_named_35 ?_
            refine v_iconst (v := nI 1) dX12_named_36 (by decide) ?_
            refine v_icmp_ne (tgt := 46) dX12_named_37 (by decide) (fun hc37 => ?_) (fun hc37 => ?_)
            · exact absurd rfl hc37
            · skip
              refine v_iload_3 dX12_named_40 ?_
              refine v_iconst (v := nI 5) dX12_named_41 (by decide) ?_
              refine v_isub dX12_named_42 ?_
              refine v_goto (tgt := 52) dX12_named_43 (by decide) ?_
              refine v_istore_4 rfl dX12_named_52 ?_
              refine v_iload_1 dX12_named_54 ?_
              refine v_if_ne (tgt := 62) dX12_named_55 (by decide) (fun hc55 => ?_) (fun hc55 => ?_)
              · skip
                refine v_bipush (v := nI 6) dX12_named_62 (by decide) ?_
                refine v_istore_5 rfl dX12_named_64 ?_
                refine v_iload_3 dX12_named_66 ?_
                refine v_if_lt (tgt := 83) dX12_named_67 (by decide) (fun hc67 => ?_) (fun hc67 => ?_)
                · exact absurd (Int32.lt_of_lt_of_le hc67 (nI_pos2 (by omega))) Int32.lt_irrefl
                · skip
                  refine v_iload_4 dX12_named_70 ?_
                  refine v_iconst (v := nI 0) dX12_named_72 (by decide) ?_
                  refine v_iload_5 dX12_named_73 ?_
                  refine v_iconst (v := nI 1) dX12_named_75 (by decide) ?_
                  refine v_isub dX12_named_76 ?_
                  refine u_callS_3 dX12_named_77 ml_X12_154 ms_X12_within (by decide) (Nat.le_of_ble_eq_true rfl) (c_X12_within ?_)
                  rw [wth1 n hn]
                  refine v_if_ne (tgt := 92) dX12_named_80 (by decide) (fun hc80 => ?_) (fun hc80 => ?_)
                  · (first | rw [bI_0, Bool.not_eq_false] at hc80 | rw [bI_0] at hc80 | rw [show (0 : Int32) = nI 0 from rfl, nI_eq (by omega) (by omega)] at hc80 | skip)
                    first
                      | exact cutF _ 2 _ _ _ _ wrong_fl.1 wrong_fl.2 (by unfold qTold; rw [if_pos w, hf]; show (if bas 1 ≤ n ∧ n < bas 1 + rom 1 then _ else _) = _; rw [if_neg (fun z => by rw [decide_eq_true z] at hc80; cases hc80)])
                      | (rw [decide_eq_true_eq] at hc80; rw [pk_sub (show 5 ≤ n from hc80.1)]; exact cutS n _ _ w hf hc80.1 hc80.2 hn)
                  · (first | rw [bI_0, Bool.not_eq_false] at hc80 | rw [bI_0] at hc80 | rw [show (0 : Int32) = nI 0 from rfl, nI_eq (by omega) (by omega)] at hc80 | skip)
                    refine v_aload_0 dX12_named_83 ?_
                    refine v_iconst (v := nI 2) dX12_named_84 (by decide) ?_
                    refine v_aload_0 dX12_named_85 ?_
                    refine u_getI dX12_named_86 gf_X12_73 (by first | assumption | rfl | exact led_1 (by assumption) | exact led_2 (by assumption) | exact bk_m (by assumption) (by first | assumption | omega) | exact bk_p (by assumption) (by first | assumption | omega) | exact bk_o (by assumption) (by first | assumption | omega) | exact bk_s (by assumption) (by first | assumption | omega) | exact bk_1 (by assumption) | exact bk_2 (by assumption) | exact bk_3 (by assumption) | exact bk_4 (by assumption) | exact bk_5 (by assumption) | exact bk_6 (by assumption) | exact bk_7 (by assumption) | exact bk_8 (by assumption) | exact sh_ring _ (by first | assumption | omega) | exact sh_imgs _ (by first | assumption | omega)) ?_
                    rw [t4]
                    refine u_callV_2 dX12_named_89 ml_X12_119 mv_X12_wrong (by first | assumption | rfl | exact led_1 (by assumption) | exact led_2 (by assumption) | exact bk_m (by assumption) (by first | assumption | omega) | exact bk_p (by assumption) (by first | assumption | omega) | exact bk_o (by assumption) (by first | assumption | omega) | exact bk_s (by assumption) (by first | assumption | omega) | exact bk_1 (by assumption) | exact bk_2 (by assumption) | exact bk_3 (by assumption) | exact bk_4 (by assumption) | exact bk_5 (by assumption) | exact bk_6 (by assumption) | exact bk_7 (by assumption) | exact bk_8 (by assumption) | exact sh_ring _ (by first | assumption | omega) | exact sh_imgs _ (by first | assumption | omega)) (by decide) rfl (by decide) (Nat.le_of_ble_eq_true rfl) (c_X12_wrong h13 ?_)
                    first
                      | exact cutF _ 2 _ _ _ _ wrong_fl.1 wrong_fl.2 (by unfold qTold; rw [if_pos w, hf]; show (if bas 1 ≤ n ∧ n < bas 1 + rom 1 then _ else _) = _; rw [if_neg (fun z => by rw [decide_eq_true z] at hc80; cases hc80)])
                      | (rw [decide_eq_true_eq] at hc80; rw [pk_sub (show 5 ≤ n from hc80.1)]; exact cutS n _ _ w hf hc80.1 hc80.2 hn)
              · exact absurd hc55 (by decide)
          · exact absurd hc28 (by decide)
      · exact absurd rfl hc17
  · exact absurd rfl hc4
theorem c_X12_named_2 {but : Nat} (hbut : but < 2 ^ 30) (hR : RO R) (h : LvM I tp sz s.1 G l) (hG : NmE G s.2.1) (hF : ∀ f p, qTold tp sz 2 but s = .inl (f, p) → ∀ J : HI, FlM J f p → FrP I J → Q (some (.int (nI 0))) SH J L R) (hY : ∀ v, qTold tp sz 2 but s = .inr (v, nx tp sz s) → v < 6 → Q (some (.int (nI v))) SH I L R) : KK 6 mX12_named b ad [.ref (b + 157), .int (nI 2), .int (nI but)] I L R Q := by
  have h13 := h.2.2.1
  have t4 := h.2.2.2.1.1
  have cutF : ∀ (J : HI) (f p : Nat) (x3 x4 x5 : Option Value), FlM J f p → FrP I J → qTold tp sz 2 but s = .inl (f, p) → VV yX12_named cX12_named 6 (some .int) 6 Q b ad 92 [some (.ref (b + 157)), some (.int (nI 2)), some (.int (nI but)), x3, x4, x5] [] J L R := by
    intro J f p x3 x4 x5 j1 j2 q
    refine v_aload_0 dX12_named_92 ?_
    refine u_getI dX12_named_93 gf_X12_92 (by first | assumption | rfl | exact led_1 (by assumption) | exact led_2 (by assumption) | exact bk_m (by assumption) (by first | assumption | omega) | exact bk_p (by assumption) (by first | assumption | omega) | exact bk_o (by assumption) (by first | assumption | omega) | exact bk_s (by assumption) (by first | assumption | omega) | exact bk_1 (by assumption) | exact bk_2 (by assumption) | exact bk_3 (by assumption) | exact bk_4 (by assumption) | exact bk_5 (by assumption) | exact bk_6 (by assumption) | exact bk_7 (by assumption) | exact bk_8 (by assumption) | exact sh_ring _ (by first | assumption | omega) | exact sh_imgs _ (by first | assumption | omega)) ?_
    rw [j1.1]
    refine v_if_ne (tgt := 117) dX12_named_96 (by decide) (fun hc96 => ?_) (fun hc96 => ?_)
    · (first | rw [bI_0, Bool.not_eq_false] at hc96 | rw [bI_0] at hc96 | rw [show (0 : Int32) = nI 0 from rfl, nI_eq (by omega) (by omega)] at hc96 | skip)
      refine v_aload_0 dX12_named_117 ?_
      refine u_getI dX12_named_118 gf_X12_92 (by first | assumption | rfl | exact led_1 (by assumption) | exact led_2 (by assumption) | exact bk_m (by assumption) (by first | assumption | omega) | exact bk_p (by assumption) (by first | assumption | omega) | exact bk_o (by assumption) (by first | assumption | omega) | exact bk_s (by assumption) (by first | assumption | omega) | exact bk_1 (by assumption) | exact bk_2 (by assumption) | exact bk_3 (by assumption) | exact bk_4 (by assumption) | exact bk_5 (by assumption) | exact bk_6 (by assumption) | exact bk_7 (by assumption) | exact bk_8 (by assumption) | exact sh_ring _ (by first | assumption | omega) | exact sh_imgs _ (by first | assumption | omega)) ?_
      rw [j1.1]
      refine v_if_eq (tgt := 128) dX12_named_121 (by decide) (fun hc121 => ?_) (fun hc121 => ?_)
      · exact absurd hc121 (by decide)
      · (first | rw [bI_0, Bool.not_eq_false] at hc121 | rw [bI_0] at hc121 | rw [show (0 : Int32) = nI 0 from rfl, nI_eq (by omega) (by omega)] at hc121 | skip)
        refine v_iconst (v := nI 0) dX12_named_124 (by decide) ?_
        refine v_goto (tgt := 130) dX12_named_125 (by decide) ?_
        refine v_iret dX12_named_130 rfl rfl rfl rfl ?_
        exact hF f p q J j1 j2
    · exact absurd hc96 (by decide)
  have cutS : ∀ (n : Nat) (x3 x5 : Option Value), nmok tp sz s.1 = true → fnd tp sz s.2.1 s.1 = some n → bas 2 ≤ n → n < bas 2 + rom 2 → n < 17 → VV yX12_named cX12_named 6 (some .int) 6 Q b ad 92 [some (.ref (b + 157)), some (.int (nI 2)), some (.int (nI but)), x3, some (.int (nI (n - bas 2))), x5] [] I L R := by
    intro n x3 x5 w hf g1 g2 g3
    refine v_aload_0 dX12_named_92 ?_
    refine u_getI dX12_named_93 gf_X12_92 (by first | assumption | rfl | exact led_1 (by assumption) | exact led_2 (by assumption) | exact bk_m (by assumption) (by first | assumption | omega) | exact bk_p (by assumption) (by first | assumption | omega) | exact bk_o (by assumption) (by first | assumption | omega) | exact bk_s (by assumption) (by first | assumption | omega) | exact bk_1 (by assumption) | exact bk_2 (by assumption) | exact bk_3 (by assumption) | exact bk_4 (by assumption) | exact bk_5 (by assumption) | exact bk_6 (by assumption) | exact bk_7 (by assumption) | exact bk_8 (by assumption) | exact sh_ring _ (by first | assumption | omega) | exact sh_imgs _ (by first | assumption | omega)) ?_
    rw [h13]
    refine v_if_ne (tgt := 117) dX12_named_96 (by decide) (fun hc96 => ?_) (fun hc96 => ?_)
    · exact absurd rfl hc96
    · (first | rw [bI_0, Bool.not_eq_false] at hc96 | rw [bI_0] at hc96 | rw [show (0 : Int32) = nI 0 from rfl, nI_eq (by omega) (by omega)] at hc96 | skip)
      refine v_iload_2 dX12_named_99 ?_
      refine v_iload_4 dX12_named_100 ?_
      refine u_callS_2 dX12_named_102 ml_X12_158 ms_X12_has (by decide) (Nat.le_of_ble_eq_true rfl) (c_X12_has (by omega) (by omega) ?_)
      refine v_if_eq (tgt := 117) dX12_named_105 (by decide) (fun hc105 => ?_) (fun hc105 => ?_)
      · (first | rw [bI_0, Bool.not_eq_false] at hc105 | rw [bI_0] at hc105 | rw [show (0 : Int32) = nI 0 from rfl, nI_eq (by omega) (by omega)] at hc105 | skip)
        first
          | (refine v_aload_0 dX12_named_117 ?_
             refine u_getI dX12_named_118 gf_X12_92 (by first | assumption | rfl | exact led_1 (by assumption) | exact led_2 (by assumption) | exact bk_m (by assumption) (by first | assumption | omega) | exact bk_p (by assumption) (by first | assumption | omega) | exact bk_o (by assumption) (by first | assumption | omega) | exact bk_s (by assumption) (by first | assumption | omega) | exact bk_1 (by assumption) | exact bk_2 (by assumption) | exact bk_3 (by assumption) | exact bk_4 (by assumption) | exact bk_5 (by assumption) | exact bk_6 (by assumption) | exact bk_7 (by assumption) | exact bk_8 (by assumption) | exact sh_ring _ (by first | assumption | omega) | exact sh_imgs _ (by first | assumption | omega)) ?_
             rw [h13]
             refine v_if_eq (tgt := 128) dX12_named_121 (by decide) (fun hc121 => ?_) (fun hc121 => ?_)
             · (first | rw [bI_0, Bool.not_eq_false] at hc121 | rw [bI_0] at hc121 | rw [show (0 : Int32) = nI 0 from rfl, nI_eq (by omega) (by omega)] at hc121 | skip)
               refine v_iload_4 dX12_named_128 ?_
               refine v_iret dX12_named_130 rfl rfl rfl rfl ?_
               exact hY _ (by unfold qTold; rw [if_pos w, hf]; show (if bas 2 ≤ n ∧ n < bas 2 + rom 2 then _ else _) = _; rw [if_pos ⟨g1, g2⟩]; rw [if_neg (by rw [hc105]; decide)]) (by unfold bas rom at *; simp at *; omega)
             · exact absurd rfl hc121)
          | (refine v_aload_0 dX12_named_117 ?_
             refine u_getI dX12_named_118 gf_X12_92 (by first | assumption | rfl | exact led_1 (by assumption) | exact led_2 (by assumption) | exact bk_m (by assumption) (by first | assumption | omega) | exact bk_p (by assumption) (by first | assumption | omega) | exact bk_o (by assumption) (by first | assumption | omega) | exact bk_s (by assumption) (by first | assumption | omega) | exact bk_1 (by assumption) | exact bk_2 (by assumption) | exact bk_3 (by assumption) | exact bk_4 (by assumption) | exact bk_5 (by assumption) | exact bk_6 (by assumption) | exact bk_7 (by assumption) | exact bk_8 (by assumption) | exact sh_ring _ (by first | assumption | omega) | exact sh_imgs _ (by first | assumption | omega)) ?_
             rw [wrong_fl.1.1]
             refine v_if_eq (tgt := 128) dX12_named_121 (by decide) (fun hc121 => ?_) (fun hc121 => ?_)
             · exact absurd hc121 (by decide)
             · (first | rw [bI_0, Bool.not_eq_false] at hc121 | rw [bI_0] at hc121 | rw [show (0 : Int32) = nI 0 from rfl, nI_eq (by omega) (by omega)] at hc121 | skip)
               refine v_iconst (v := nI 0) dX12_named_124 (by decide) ?_
               refine v_goto (tgt := 130) dX12_named_125 (by decide) ?_
               refine v_iret dX12_named_130 rfl rfl rfl rfl ?_
               exact hF 3 _ (by unfold qTold; rw [if_pos w, hf]; show (if bas 2 ≤ n ∧ n < bas 2 + rom 2 then _ else _) = _; rw [if_pos ⟨g1, g2⟩]; rw [if_pos hc105]) _ wrong_fl.1 wrong_fl.2)
      · (first | rw [bI_0, Bool.not_eq_false] at hc105 | rw [bI_0] at hc105 | rw [show (0 : Int32) = nI 0 from rfl, nI_eq (by omega) (by omega)] at hc105 | skip)
        refine v_aload_0 dX12_named_108 ?_
        refine v_iconst (v := nI 3) dX12_named_109 (by decide) ?_
        refine v_aload_0 dX12_named_110 ?_
        refine u_getI dX12_named_111 gf_X12_73 (by first | assumption | rfl | exact led_1 (by assumption) | exact led_2 (by assumption) | exact bk_m (by assumption) (by first | assumption | omega) | exact bk_p (by assumption) (by first | assumption | omega) | exact bk_o (by assumption) (by first | assumption | omega) | exact bk_s (by assumption) (by first | assumption | omega) | exact bk_1 (by assumption) | exact bk_2 (by assumption) | exact bk_3 (by assumption) | exact bk_4 (by assumption) | exact bk_5 (by assumption) | exact bk_6 (by assumption) | exact bk_7 (by assumption) | exact bk_8 (by assumption) | exact sh_ring _ (by first | assumption | omega) | exact sh_imgs _ (by first | assumption | omega)) ?_
        rw [t4]
        refine u_callV_2 dX12_named_114 ml_X12_119 mv_X12_wrong (by first | assumption | rfl | exact led_1 (by assumption) | exact led_2 (by assumption) | exact bk_m (by assumption) (by first | assumption | omega) | exact bk_p (by assumption) (by first | assumption | omega) | exact bk_o (by assumption) (by first | assumption | omega) | exact bk_s (by assumption) (by first | assumption | omega) | exact bk_1 (by assumption) | exact bk_2 (by assumption) | exact bk_3 (by assumption) | exact bk_4 (by assumption) | exact bk_5 (by assumption) | exact bk_6 (by assumption) | exact bk_7 (by assumption) | exact bk_8 (by assumption) | exact sh_ring _ (by first | assumption | omega) | exact sh_imgs _ (by first | assumption | omega)) (by decide) rfl (by decide) (Nat.le_of_ble_eq_true rfl) (c_X12_wrong h13 ?_)
        first
          | (refine v_aload_0 dX12_named_117 ?_
             refine u_getI dX12_named_118 gf_X12_92 (by first | assumption | rfl | exact led_1 (by assumption) | exact led_2 (by assumption) | exact bk_m (by assumption) (by first | assumption | omega) | exact bk_p (by assumption) (by first | assumption | omega) | exact bk_o (by assumption) (by first | assumption | omega) | exact bk_s (by assumption) (by first | assumption | omega) | exact bk_1 (by assumption) | exact bk_2 (by assumption) | exact bk_3 (by assumption) | exact bk_4 (by assumption) | exact bk_5 (by assumption) | exact bk_6 (by assumption) | exact bk_7 (by assumption) | exact bk_8 (by assumption) | exact sh_ring _ (by first | assumption | omega) | exact sh_imgs _ (by first | assumption | omega)) ?_
             rw [h13]
             refine v_if_eq (tgt := 128) dX12_named_121 (by decide) (fun hc121 => ?_) (fun hc121 => ?_)
             · (first | rw [bI_0, Bool.not_eq_false] at hc121 | rw [bI_0] at hc121 | rw [show (0 : Int32) = nI 0 from rfl, nI_eq (by omega) (by omega)] at hc121 | skip)
               refine v_iload_4 dX12_named_128 ?_
               refine v_iret dX12_named_130 rfl rfl rfl rfl ?_
               exact hY _ (by unfold qTold; rw [if_pos w, hf]; show (if bas 2 ≤ n ∧ n < bas 2 + rom 2 then _ else _) = _; rw [if_pos ⟨g1, g2⟩]; rw [if_neg (by rw [hc105]; decide)]) (by unfold bas rom at *; simp at *; omega)
             · exact absurd rfl hc121)
          | (refine v_aload_0 dX12_named_117 ?_
             refine u_getI dX12_named_118 gf_X12_92 (by first | assumption | rfl | exact led_1 (by assumption) | exact led_2 (by assumption) | exact bk_m (by assumption) (by first | assumption | omega) | exact bk_p (by assumption) (by first | assumption | omega) | exact bk_o (by assumption) (by first | assumption | omega) | exact bk_s (by assumption) (by first | assumption | omega) | exact bk_1 (by assumption) | exact bk_2 (by assumption) | exact bk_3 (by assumption) | exact bk_4 (by assumption) | exact bk_5 (by assumption) | exact bk_6 (by assumption) | exact bk_7 (by assumption) | exact bk_8 (by assumption) | exact sh_ring _ (by first | assumption | omega) | exact sh_imgs _ (by first | assumption | omega)) ?_
             rw [wrong_fl.1.1]
             refine v_if_eq (tgt := 128) dX12_named_121 (by decide) (fun hc121 => ?_) (fun hc121 => ?_)
             · exact absurd hc121 (by decide)
             · (first | rw [bI_0, Bool.not_eq_false] at hc121 | rw [bI_0] at hc121 | rw [show (0 : Int32) = nI 0 from rfl, nI_eq (by omega) (by omega)] at hc121 | skip)
               refine v_iconst (v := nI 0) dX12_named_124 (by decide) ?_
               refine v_goto (tgt := 130) dX12_named_125 (by decide) ?_
               refine v_iret dX12_named_130 rfl rfl rfl rfl ?_
               exact hF 3 _ (by unfold qTold; rw [if_pos w, hf]; show (if bas 2 ≤ n ∧ n < bas 2 + rom 2 then _ else _) = _; rw [if_pos ⟨g1, g2⟩]; rw [if_pos hc105]) _ wrong_fl.1 wrong_fl.2)
  refine K.of (M := mX12_named) (lv := [some (.ref (b + 157)), some (.int (nI 2)), some (.int (nI but)), none, none, none]) (by decide) (Nat.le_of_ble_eq_true rfl) rfl ?_
  refine v_aload_0 dX12_named_0 ?_
  refine u_getI dX12_named_1 gf_X12_92 (by first | assumption | rfl | exact led_1 (by assumption) | exact led_2 (by assumption) | exact bk_m (by assumption) (by first | assumption | omega) | exact bk_p (by assumption) (by first | assumption | omega) | exact bk_o (by assumption) (by first | assumption | omega) | exact bk_s (by assumption) (by first | assumption | omega) | exact bk_1 (by assumption) | exact bk_2 (by assumption) | exact bk_3 (by assumption) | exact bk_4 (by assumption) | exact bk_5 (by assumption) | exact bk_6 (by assumption) | exact bk_7 (by assumption) | exact bk_8 (by assumption) | exact sh_ring _ (by first | assumption | omega) | exact sh_imgs _ (by first | assumption | omega)) ?_
  rw [h13]
  refine v_if_eq (tgt := 9) dX12_named_4 (by decide) (fun hc4 => ?_) (fun hc4 => ?_)
  · (first | rw [bI_0, Bool.not_eq_false] at hc4 | rw [bI_0] at hc4 | rw [show (0 : Int32) = nI 0 from rfl, nI_eq (by omega) (by omega)] at hc4 | skip)
    refine v_aload_0 dX12_named_9 ?_
    refine u_callV_0 dX12_named_10 ml_X12_148 mv_X12_mustName (by first | assumption | rfl | exact led_1 (by assumption) | exact led_2 (by assumption) | exact bk_m (by assumption) (by first | assumption | omega) | exact bk_p (by assumption) (by first | assumption | omega) | exact bk_o (by assumption) (by first | assumption | omega) | exact bk_s (by assumption) (by first | assumption | omega) | exact bk_1 (by assumption) | exact bk_2 (by assumption) | exact bk_3 (by assumption) | exact bk_4 (by assumption) | exact bk_5 (by assumption) | exact bk_6 (by assumption) | exact bk_7 (by assumption) | exact bk_8 (by assumption) | exact sh_ring _ (by first | assumption | omega) | exact sh_imgs _ (by first | assumption | omega)) (by decide) rfl (by decide) (Nat.le_of_ble_eq_true rfl) (c_X12_mustName hR h (fun w J j1 j2 => ?_) (fun w => ?_))
    · refine v_aload_0 dX12_named_13 ?_
      refine u_getI dX12_named_14 gf_X12_92 (by first | assumption | rfl | exact led_1 (by assumption) | exact led_2 (by assumption) | exact bk_m (by assumption) (by first | assumption | omega) | exact bk_p (by assumption) (by first | assumption | omega) | exact bk_o (by assumption) (by first | assumption | omega) | exact bk_s (by assumption) (by first | assumption | omega) | exact bk_1 (by assumption) | exact bk_2 (by assumption) | exact bk_3 (by assumption) | exact bk_4 (by assumption) | exact bk_5 (by assumption) | exact bk_6 (by assumption) | exact bk_7 (by assumption) | exact bk_8 (by assumption) | exact sh_ring _ (by first | assumption | omega) | exact sh_imgs _ (by first | assumption | omega)) ?_
      rw [j1.1]
      refine v_if_eq (tgt := 22) dX12_named_17 (by decide) (fun hc17 => ?_) (fun hc17 => ?_)
      · exact absurd hc17 (by decide)
      · (first | rw [bI_0, Bool.not_eq_false] at hc17 | rw [bI_0] at hc17 | rw [show (0 : Int32) = nI 0 from rfl, nI_eq (by omega) (by omega)] at hc17 | skip)
        refine v_iconst (v := nI 0) dX12_named_20 (by decide) ?_
        refine v_iret dX12_named_21 rfl rfl rfl rfl ?_
        exact hF 1 _ (by unfold qTold; rw [if_neg (by rw [w]; decide)]) J j1 j2
    · have k2 : tK tp sz s.1 = 2 := by unfold nmok at w; rw [Bool.and_eq_true, decide_eq_true_eq] at w; exact w.1
      have ex : ∀ n, fnd tp sz s.2.1 s.1 = some n → n < 17 := fun n q => by have := fup_some q; omega
      refine v_aload_0 dX12_named_13 ?_
      refine u_getI dX12_named_14 gf_X12_92 (by first | assumption | rfl | exact led_1 (by assumption) | exact led_2 (by assumption) | exact bk_m (by assumption) (by first | assumption | omega) | exact bk_p (by assumption) (by first | assumption | omega) | exact bk_o (by assumption) (by first | assumption | omega) | exact bk_s (by assumption) (by first | assumption | omega) | exact bk_1 (by assumption) | exact bk_2 (by assumption) | exact bk_3 (by assumption) | exact bk_4 (by assumption) | exact bk_5 (by assumption) | exact bk_6 (by assumption) | exact bk_7 (by assumption) | exact bk_8 (by assumption) | exact sh_ring _ (by first | assumption | omega) | exact sh_imgs _ (by first | assumption | omega)) ?_
      rw [h13]
      refine v_if_eq (tgt := 22) dX12_named_17 (by decide) (fun hc17 => ?_) (fun hc17 => ?_)
      · (first | rw [bI_0, Bool.not_eq_false] at hc17 | rw [bI_0] at hc17 | rw [show (0 : Int32) = nI 0 from rfl, nI_eq (by omega) (by omega)] at hc17 | skip)
        refine v_aload_0 dX12_named_22 ?_
        refine u_callV_0 dX12_named_23 ml_X12_151 mv_X12_find (by first | assumption | rfl | exact led_1 (by assumption) | exact led_2 (by assumption) | exact bk_m (by assumption) (by first | assumption | omega) | exact bk_p (by assumption) (by first | assumption | omega) | exact bk_o (by assumption) (by first | assumption | omega) | exact bk_s (by assumption) (by first | assumption | omega) | exact bk_1 (by assumption) | exact bk_2 (by assumption) | exact bk_3 (by assumption) | exact bk_4 (by assumption) | exact bk_5 (by assumption) | exact bk_6 (by assumption) | exact bk_7 (by assumption) | exact bk_8 (by assumption) | exact sh_ring _ (by first | assumption | omega) | exact sh_imgs _ (by first | assumption | omega)) (by decide) rfl (by decide) (Nat.le_of_ble_eq_true rfl) (c_X12_find hR h hG k2 ?_)
        cases hf : fnd tp sz s.2.1 s.1 with
        | none =>
          show VV _ _ _ _ _ _ _ _ _ _ [.int (-1)] _ _ _
          refine v_istore_3 rfl dX12_named_26 ?_
          refine v_iload_1 dX12_named_27 ?_
          refine v_if_ne (tgt := 35) dX12_named_28 (by decide) (fun hc28 => ?_) (fun hc28 => ?_)
          · skip
            refine v_iload_1 dX12_named_35 ?_
            refine v_iconst (v := nI 1) dX12_named_36 (by decide) ?_
            refine v_icmp_ne (tgt := 46) dX12_named_37 (by decide) (fun hc37 => ?_) (fun hc37 => ?_)
            · skip
              refine v_iload_3 dX12_named_46 ?_
              refine v_iconst (v := nI 5) dX12_named_47 (by decide) ?_
              refine v_isub dX12_named_48 ?_
              refine v_bipush (v := nI 6) dX12_named_49 (by decide) ?_
              refine v_isub dX12_named_51 ?_
              refine v_istore_4 rfl dX12_named_52 ?_
              refine v_iload_1 dX12_named_54 ?_
              refine v_if_ne (tgt := 62) dX12_named_55 (by decide) (fun hc55 => ?_) (fun hc55 => ?_)
              · skip
                refine v_bipush (v := nI 6) dX12_named_62 (by decide) ?_
                refine v_istore_5 rfl dX12_named_64 ?_
                refine v_iload_3 dX12_named_66 ?_
                refine v_if_lt (tgt := 83) dX12_named_67 (by decide) (fun hc67 => ?_) (fun hc67 => ?_)
                · skip
                  refine v_aload_0 dX12_named_83 ?_
                  refine v_iconst (v := nI 2) dX12_named_84 (by decide) ?_
                  refine v_aload_0 dX12_named_85 ?_
                  refine u_getI dX12_named_86 gf_X12_73 (by first | assumption | rfl | exact led_1 (by assumption) | exact led_2 (by assumption) | exact bk_m (by assumption) (by first | assumption | omega) | exact bk_p (by assumption) (by first | assumption | omega) | exact bk_o (by assumption) (by first | assumption | omega) | exact bk_s (by assumption) (by first | assumption | omega) | exact bk_1 (by assumption) | exact bk_2 (by assumption) | exact bk_3 (by assumption) | exact bk_4 (by assumption) | exact bk_5 (by assumption) | exact bk_6 (by assumption) | exact bk_7 (by assumption) | exact bk_8 (by assumption) | exact sh_ring _ (by first | assumption | omega) | exact sh_imgs _ (by first | assumption | omega)) ?_
                  rw [t4]
                  refine u_callV_2 dX12_named_89 ml_X12_119 mv_X12_wrong (by first | assumption | rfl | exact led_1 (by assumption) | exact led_2 (by assumption) | exact bk_m (by assumption) (by first | assumption | omega) | exact bk_p (by assumption) (by first | assumption | omega) | exact bk_o (by assumption) (by first | assumption | omega) | exact bk_s (by assumption) (by first | assumption | omega) | exact bk_1 (by assumption) | exact bk_2 (by assumption) | exact bk_3 (by assumption) | exact bk_4 (by assumption) | exact bk_5 (by assumption) | exact bk_6 (by assumption) | exact bk_7 (by assumption) | exact bk_8 (by assumption) | exact sh_ring _ (by first | assumption | omega) | exact sh_imgs _ (by first | assumption | omega)) (by decide) rfl (by decide) (Nat.le_of_ble_eq_true rfl) (c_X12_wrong h13 ?_)
                  exact cutF _ 2 _ _ _ _ wrong_fl.1 wrong_fl.2 (by unfold qTold; rw [if_pos w, hf])
                · exact absurd (by decide) hc67
              · exact absurd hc55 (by decide)
            · exact absurd hc37 (by decide)
          · exact absurd hc28 (by decide)
        | some n =>
          have hn := ex n hf
          show VV _ _ _ _ _ _ _ _ _ _ [.int (nI n)] _ _ _
          refine v_istore_3 rfl dX12_named_26 ?_
          refine v_iload_1 dX12_named_27 ?_
          refine v_if_ne (tgt := 35) dX12_named_28 (by decide) (fun hc28 => ?_) (fun hc28 => ?_)
          · skip
            refine v_iload_1 dX12_named_35 ?_
            refine v_iconst (v := nI 1) dX12_named_36 (by decide) ?_
            refine v_icmp_ne (tgt := 46) dX12_named_37 (by decide) (fun hc37 => ?_) (fun hc37 => ?_)
            · skip
              refine v_iload_3 dX12_named_46 ?_
              refine v_iconst (v := nI 5) dX12_named_47 (by decide) ?_
              refine v_isub dX12_named_48 ?_
              refine v_bipush (v := nI 6) dX12_named_49 (by decide) ?_
              refine v_isub dX12_named_51 ?_
              refine v_istore_4 rfl dX12_named_52 ?_
              refine v_iload_1 dX12_named_54 ?_
              refine v_if_ne (tgt := 62) dX12_named_55 (by decide) (fun hc55 => ?_) (fun hc55 => ?_)
              · skip
                refine v_bipush (v := nI 6) dX12_named_62 (by decide) ?_
                refine v_istore_5 rfl dX12_named_64 ?_
                refine v_iload_3 dX12_named_66 ?_
                refine v_if_lt (tgt := 83) dX12_named_67 (by decide) (fun hc67 => ?_) (fun hc67 => ?_)
                · exact absurd (Int32.lt_of_lt_of_le hc67 (nI_pos2 (by omega))) Int32.lt_irrefl
                · skip
                  refine v_iload_4 dX12_named_70 ?_
                  refine v_iconst (v := nI 0) dX12_named_72 (by decide) ?_
                  refine v_iload_5 dX12_named_73 ?_
                  refine v_iconst (v := nI 1) dX12_named_75 (by decide) ?_
                  refine v_isub dX12_named_76 ?_
                  refine u_callS_3 dX12_named_77 ml_X12_154 ms_X12_within (by decide) (Nat.le_of_ble_eq_true rfl) (c_X12_within ?_)
                  rw [wth2 n hn]
                  refine v_if_ne (tgt := 92) dX12_named_80 (by decide) (fun hc80 => ?_) (fun hc80 => ?_)
                  · (first | rw [bI_0, Bool.not_eq_false] at hc80 | rw [bI_0] at hc80 | rw [show (0 : Int32) = nI 0 from rfl, nI_eq (by omega) (by omega)] at hc80 | skip)
                    first
                      | exact cutF _ 2 _ _ _ _ wrong_fl.1 wrong_fl.2 (by unfold qTold; rw [if_pos w, hf]; show (if bas 2 ≤ n ∧ n < bas 2 + rom 2 then _ else _) = _; rw [if_neg (fun z => by rw [decide_eq_true z] at hc80; cases hc80)])
                      | (rw [decide_eq_true_eq] at hc80; rw [Int32.sub_sub, show nI 5 + nI 6 = nI 11 from rfl, pk_sub (show 11 ≤ n from hc80.1)]; exact cutS n _ _ w hf hc80.1 hc80.2 hn)
                  · (first | rw [bI_0, Bool.not_eq_false] at hc80 | rw [bI_0] at hc80 | rw [show (0 : Int32) = nI 0 from rfl, nI_eq (by omega) (by omega)] at hc80 | skip)
                    refine v_aload_0 dX12_named_83 ?_
                    refine v_iconst (v := nI 2) dX12_named_84 (by decide) ?_
                    refine v_aload_0 dX12_named_85 ?_
                    refine u_getI dX12_named_86 gf_X12_73 (by first | assumption | rfl | exact led_1 (by assumption) | exact led_2 (by assumption) | exact bk_m (by assumption) (by first | assumption | omega) | exact bk_p (by assumption) (by first | assumption | omega) | exact bk_o (by assumption) (by first | assumption | omega) | exact bk_s (by assumption) (by first | assumption | omega) | exact bk_1 (by assumption) | exact bk_2 (by assumption) | exact bk_3 (by assumption) | exact bk_4 (by assumption) | exact bk_5 (by assumption) | exact bk_6 (by assumption) | exact bk_7 (by assumption) | exact bk_8 (by assumption) | exact sh_ring _ (by first | assumption | omega) | exact sh_imgs _ (by first | assumption | omega)) ?_
                    rw [t4]
                    refine u_callV_2 dX12_named_89 ml_X12_119 mv_X12_wrong (by first | assumption | rfl | exact led_1 (by assumption) | exact led_2 (by assumption) | exact bk_m (by assumption) (by first | assumption | omega) | exact bk_p (by assumption) (by first | assumption | omega) | exact bk_o (by assumption) (by first | assumption | omega) | exact bk_s (by assumption) (by first | assumption | omega) | exact bk_1 (by assumption) | exact bk_2 (by assumption) | exact bk_3 (by assumption) | exact bk_4 (by assumption) | exact bk_5 (by assumption) | exact bk_6 (by assumption) | exact bk_7 (by assumption) | exact bk_8 (by assumption) | exact sh_ring _ (by first | assumption | omega) | exact sh_imgs _ (by first | assumption | omega)) (by decide) rfl (by decide) (Nat.le_of_ble_eq_true rfl) (c_X12_wrong h13 ?_)
                    first
                      | exact cutF _ 2 _ _ _ _ wrong_fl.1 wrong_fl.2 (by unfold qTold; rw [if_pos w, hf]; show (if bas 2 ≤ n ∧ n < bas 2 + rom 2 then _ else _) = _; rw [if_neg (fun z => by rw [decide_eq_true z] at hc80; cases hc80)])
                      | (rw [decide_eq_true_eq] at hc80; rw [Int32.sub_sub, show nI 5 + nI 6 = nI 11 from rfl, pk_sub (show 11 ≤ n from hc80.1)]; exact cutS n _ _ w hf hc80.1 hc80.2 hn)
              · exact absurd hc55 (by decide)
            · exact absurd hc37 (by decide)
          · exact absurd hc28 (by decide)
      · exact absurd rfl hc17
  · exact absurd rfl hc4
theorem z_X12_named {x y : Int32} (h : I 157 13 = nI 1) (hQ : Q (some (.int (nI 0))) SH I L R) : KK 6 mX12_named b ad [.ref (b + 157), .int x, .int y] I L R Q := by
  refine K.of (M := mX12_named) (lv := [some (.ref (b + 157)), some (.int x), some (.int y), none, none, none]) (by decide) (Nat.le_of_ble_eq_true rfl) rfl ?_
  refine v_aload_0 dX12_named_0 ?_
  refine u_getI dX12_named_1 gf_X12_92 (by first | assumption | rfl | exact led_1 (by assumption) | exact led_2 (by assumption) | exact bk_m (by assumption) (by first | assumption | omega) | exact bk_p (by assumption) (by first | assumption | omega) | exact bk_o (by assumption) (by first | assumption | omega) | exact bk_s (by assumption) (by first | assumption | omega) | exact bk_1 (by assumption) | exact bk_2 (by assumption) | exact bk_3 (by assumption) | exact bk_4 (by assumption) | exact bk_5 (by assumption) | exact bk_6 (by assumption) | exact bk_7 (by assumption) | exact bk_8 (by assumption) | exact sh_ring _ (by first | assumption | omega) | exact sh_imgs _ (by first | assumption | omega)) ?_
  rw [h]
  refine v_if_eq (tgt := 9) dX12_named_4 (by decide) (fun hc4 => ?_) (fun hc4 => ?_)
  · exact absurd hc4 (by decide)
  · (first | rw [bI_0, Bool.not_eq_false] at hc4 | rw [bI_0] at hc4 | rw [show (0 : Int32) = nI 0 from rfl, nI_eq (by omega) (by omega)] at hc4 | skip)
    refine v_iconst (v := nI 0) dX12_named_7 (by decide) ?_
    refine v_iret dX12_named_8 rfl rfl rfl rfl ?_
    exact hQ
theorem c_X12_passed_0 {but : Nat} (hbut : but < 2 ^ 30) (hR : RO R) (h : LvM I tp sz s.1 G l) (hG : NmE G s.2.1) (hF : ∀ f p, qTold tp sz 0 but s = .inl (f, p) → ∀ J : HI, FlM J f p → FrP I J → Q (some (.int (nI 0))) SH J L R) (hY : ∀ v u, qTold tp sz 0 but s = .inr (v, u) → u = nx tp sz s → v < 6 → ∀ J : HI, LvM J tp sz u.1 G l → FrP I J → Q (some (.int (nI v))) SH J L R) : KK 7 mX12_passed b ad [.ref (b + 157), .int (nI 0), .int (nI but)] I L R Q := by
  have h13 := h.2.2.1
  refine K.of (M := mX12_passed) (lv := [some (.ref (b + 157)), some (.int (nI 0)), some (.int (nI but)), none]) (by decide) (Nat.le_of_ble_eq_true rfl) rfl ?_
  refine v_aload_0 dX12_passed_0 ?_
  refine v_iload_1 dX12_passed_1 ?_
  refine v_iload_2 dX12_passed_2 ?_
  refine u_callV_2 dX12_passed_3 ml_X12_162 mv_X12_named (by first | assumption | rfl | exact led_1 (by assumption) | exact led_2 (by assumption) | exact bk_m (by assumption) (by first | assumption | omega) | exact bk_p (by assumption) (by first | assumption | omega) | exact bk_o (by assumption) (by first | assumption | omega) | exact bk_s (by assumption) (by first | assumption | omega) | exact bk_1 (by assumption) | exact bk_2 (by assumption) | exact bk_3 (by assumption) | exact bk_4 (by assumption) | exact bk_5 (by assumption) | exact bk_6 (by assumption) | exact bk_7 (by assumption) | exact bk_8 (by assumption) | exact sh_ring _ (by first | assumption | omega) | exact sh_imgs _ (by first | assumption | omega)) (by decide) rfl (by decide) (Nat.le_of_ble_eq_true rfl) (c_X12_named_0 hbut hR h hG (fun f p q J j1 j2 => ?_) (fun v q g => ?_))
  · refine v_istore_3 rfl dX12_passed_6 ?_
    refine v_aload_0 dX12_passed_7 ?_
    refine u_getI dX12_passed_8 gf_X12_92 (by first | assumption | rfl | exact led_1 (by assumption) | exact led_2 (by assumption) | exact bk_m (by assumption) (by first | assumption | omega) | exact bk_p (by assumption) (by first | assumption | omega) | exact bk_o (by assumption) (by first | assumption | omega) | exact bk_s (by assumption) (by first | assumption | omega) | exact bk_1 (by assumption) | exact bk_2 (by assumption) | exact bk_3 (by assumption) | exact bk_4 (by assumption) | exact bk_5 (by assumption) | exact bk_6 (by assumption) | exact bk_7 (by assumption) | exact bk_8 (by assumption) | exact sh_ring _ (by first | assumption | omega) | exact sh_imgs _ (by first | assumption | omega)) ?_
    rw [j1.1]
    refine v_if_ne (tgt := 18) dX12_passed_11 (by decide) (fun hc11 => ?_) (fun hc11 => ?_)
    · (first | rw [bI_0, Bool.not_eq_false] at hc11 | rw [bI_0] at hc11 | rw [show (0 : Int32) = nI 0 from rfl, nI_eq (by omega) (by omega)] at hc11 | skip)
      refine v_iload_3 dX12_passed_18 ?_
      refine v_iret dX12_passed_19 rfl rfl rfl rfl ?_
      exact hF f p q J j1 j2
    · exact absurd hc11 (by decide)
  · refine v_istore_3 rfl dX12_passed_6 ?_
    refine v_aload_0 dX12_passed_7 ?_
    refine u_getI dX12_passed_8 gf_X12_92 (by first | assumption | rfl | exact led_1 (by assumption) | exact led_2 (by assumption) | exact bk_m (by assumption) (by first | assumption | omega) | exact bk_p (by assumption) (by first | assumption | omega) | exact bk_o (by assumption) (by first | assumption | omega) | exact bk_s (by assumption) (by first | assumption | omega) | exact bk_1 (by assumption) | exact bk_2 (by assumption) | exact bk_3 (by assumption) | exact bk_4 (by assumption) | exact bk_5 (by assumption) | exact bk_6 (by assumption) | exact bk_7 (by assumption) | exact bk_8 (by assumption) | exact sh_ring _ (by first | assumption | omega) | exact sh_imgs _ (by first | assumption | omega)) ?_
    rw [h13]
    refine v_if_ne (tgt := 18) dX12_passed_11 (by decide) (fun hc11 => ?_) (fun hc11 => ?_)
    · exact absurd rfl hc11
    · (first | rw [bI_0, Bool.not_eq_false] at hc11 | rw [bI_0] at hc11 | rw [show (0 : Int32) = nI 0 from rfl, nI_eq (by omega) (by omega)] at hc11 | skip)
      refine v_aload_0 dX12_passed_14 ?_
      refine u_callV_0 dX12_passed_15 ml_X12_113 mv_X12_next (by first | assumption | rfl | exact led_1 (by assumption) | exact led_2 (by assumption) | exact bk_m (by assumption) (by first | assumption | omega) | exact bk_p (by assumption) (by first | assumption | omega) | exact bk_o (by assumption) (by first | assumption | omega) | exact bk_s (by assumption) (by first | assumption | omega) | exact bk_1 (by assumption) | exact bk_2 (by assumption) | exact bk_3 (by assumption) | exact bk_4 (by assumption) | exact bk_5 (by assumption) | exact bk_6 (by assumption) | exact bk_7 (by assumption) | exact bk_8 (by assumption) | exact sh_ring _ (by first | assumption | omega) | exact sh_imgs _ (by first | assumption | omega)) (by decide) rfl (by decide) (Nat.le_of_ble_eq_true rfl) (c_X12_next hR h.1 h.E h.2.2.2.1.2.1 (fun J t1 f1 => ?_))
      refine v_iload_3 dX12_passed_18 ?_
      refine v_iret dX12_passed_19 rfl rfl rfl rfl ?_
      exact hY v _ q rfl g J (h.nx h.E t1 f1) f1.p
theorem c_X12_passed_1 {but : Nat} (hbut : but < 2 ^ 30) (hR : RO R) (h : LvM I tp sz s.1 G l) (hG : NmE G s.2.1) (hF : ∀ f p, qTold tp sz 1 but s = .inl (f, p) → ∀ J : HI, FlM J f p → FrP I J → Q (some (.int (nI 0))) SH J L R) (hY : ∀ v u, qTold tp sz 1 but s = .inr (v, u) → u = nx tp sz s → v < 6 → ∀ J : HI, LvM J tp sz u.1 G l → FrP I J → Q (some (.int (nI v))) SH J L R) : KK 7 mX12_passed b ad [.ref (b + 157), .int (nI 1), .int (nI but)] I L R Q := by
  have h13 := h.2.2.1
  refine K.of (M := mX12_passed) (lv := [some (.ref (b + 157)), some (.int (nI 1)), some (.int (nI but)), none]) (by decide) (Nat.le_of_ble_eq_true rfl) rfl ?_
  refine v_aload_0 dX12_passed_0 ?_
  refine v_iload_1 dX12_passed_1 ?_
  refine v_iload_2 dX12_passed_2 ?_
  refine u_callV_2 dX12_passed_3 ml_X12_162 mv_X12_named (by first | assumption | rfl | exact led_1 (by assumption) | exact led_2 (by assumption) | exact bk_m (by assumption) (by first | assumption | omega) | exact bk_p (by assumption) (by first | assumption | omega) | exact bk_o (by assumption) (by first | assumption | omega) | exact bk_s (by assumption) (by first | assumption | omega) | exact bk_1 (by assumption) | exact bk_2 (by assumption) | exact bk_3 (by assumption) | exact bk_4 (by assumption) | exact bk_5 (by assumption) | exact bk_6 (by assumption) | exact bk_7 (by assumption) | exact bk_8 (by assumption) | exact sh_ring _ (by first | assumption | omega) | exact sh_imgs _ (by first | assumption | omega)) (by decide) rfl (by decide) (Nat.le_of_ble_eq_true rfl) (c_X12_named_1 hbut hR h hG (fun f p q J j1 j2 => ?_) (fun v q g => ?_))
  · refine v_istore_3 rfl dX12_passed_6 ?_
    refine v_aload_0 dX12_passed_7 ?_
    refine u_getI dX12_passed_8 gf_X12_92 (by first | assumption | rfl | exact led_1 (by assumption) | exact led_2 (by assumption) | exact bk_m (by assumption) (by first | assumption | omega) | exact bk_p (by assumption) (by first | assumption | omega) | exact bk_o (by assumption) (by first | assumption | omega) | exact bk_s (by assumption) (by first | assumption | omega) | exact bk_1 (by assumption) | exact bk_2 (by assumption) | exact bk_3 (by assumption) | exact bk_4 (by assumption) | exact bk_5 (by assumption) | exact bk_6 (by assumption) | exact bk_7 (by assumption) | exact bk_8 (by assumption) | exact sh_ring _ (by first | assumption | omega) | exact sh_imgs _ (by first | assumption | omega)) ?_
    rw [j1.1]
    refine v_if_ne (tgt := 18) dX12_passed_11 (by decide) (fun hc11 => ?_) (fun hc11 => ?_)
    · (first | rw [bI_0, Bool.not_eq_false] at hc11 | rw [bI_0] at hc11 | rw [show (0 : Int32) = nI 0 from rfl, nI_eq (by omega) (by omega)] at hc11 | skip)
      refine v_iload_3 dX12_passed_18 ?_
      refine v_iret dX12_passed_19 rfl rfl rfl rfl ?_
      exact hF f p q J j1 j2
    · exact absurd hc11 (by decide)
  · refine v_istore_3 rfl dX12_passed_6 ?_
    refine v_aload_0 dX12_passed_7 ?_
    refine u_getI dX12_passed_8 gf_X12_92 (by first | assumption | rfl | exact led_1 (by assumption) | exact led_2 (by assumption) | exact bk_m (by assumption) (by first | assumption | omega) | exact bk_p (by assumption) (by first | assumption | omega) | exact bk_o (by assumption) (by first | assumption | omega) | exact bk_s (by assumption) (by first | assumption | omega) | exact bk_1 (by assumption) | exact bk_2 (by assumption) | exact bk_3 (by assumption) | exact bk_4 (by assumption) | exact bk_5 (by assumption) | exact bk_6 (by assumption) | exact bk_7 (by assumption) | exact bk_8 (by assumption) | exact sh_ring _ (by first | assumption | omega) | exact sh_imgs _ (by first | assumption | omega)) ?_
    rw [h13]
    refine v_if_ne (tgt := 18) dX12_passed_11 (by decide) (fun hc11 => ?_) (fun hc11 => ?_)
    · exact absurd rfl hc11
    · (first | rw [bI_0, Bool.not_eq_false] at hc11 | rw [bI_0] at hc11 | rw [show (0 : Int32) = nI 0 from rfl, nI_eq (by omega) (by omega)] at hc11 | skip)
      refine v_aload_0 dX12_passed_14 ?_
      refine u_callV_0 dX12_passed_15 ml_X12_113 mv_X12_next (by first | assumption | rfl | exact led_1 (by assumption) | exact led_2 (by assumption) | exact bk_m (by assumption) (by first | assumption | omega) | exact bk_p (by assumption) (by first | assumption | omega) | exact bk_o (by assumption) (by first | assumption | omega) | exact bk_s (by assumption) (by first | assumption | omega) | exact bk_1 (by assumption) | exact bk_2 (by assumption) | exact bk_3 (by assumption) | exact bk_4 (by assumption) | exact bk_5 (by assumption) | exact bk_6 (by assumption) | exact bk_7 (by assumption) | exact bk_8 (by assumption) | exact sh_ring _ (by first | assumption | omega) | exact sh_imgs _ (by first | assumption | omega)) (by decide) rfl (by decide) (Nat.le_of_ble_eq_true rfl) (c_X12_next hR h.1 h.E h.2.2.2.1.2.1 (fun J t1 f1 => ?_))
      refine v_iload_3 dX12_passed_18 ?_
      refine v_iret dX12_passed_19 rfl rfl rfl rfl ?_
      exact hY v _ q rfl g J (h.nx h.E t1 f1) f1.p
theorem c_X12_passed_2 {but : Nat} (hbut : but < 2 ^ 30) (hR : RO R) (h : LvM I tp sz s.1 G l) (hG : NmE G s.2.1) (hF : ∀ f p, qTold tp sz 2 but s = .inl (f, p) → ∀ J : HI, FlM J f p → FrP I J → Q (some (.int (nI 0))) SH J L R) (hY : ∀ v u, qTold tp sz 2 but s = .inr (v, u) → u = nx tp sz s → v < 6 → ∀ J : HI, LvM J tp sz u.1 G l → FrP I J → Q (some (.int (nI v))) SH J L R) : KK 7 mX12_passed b ad [.ref (b + 157), .int (nI 2), .int (nI but)] I L R Q := by
  have h13 := h.2.2.1
  refine K.of (M := mX12_passed) (lv := [some (.ref (b + 157)), some (.int (nI 2)), some (.int (nI but)), none]) (by decide) (Nat.le_of_ble_eq_true rfl) rfl ?_
  refine v_aload_0 dX12_passed_0 ?_
  refine v_iload_1 dX12_passed_1 ?_
  refine v_iload_2 dX12_passed_2 ?_
  refine u_callV_2 dX12_passed_3 ml_X12_162 mv_X12_named (by first | assumption | rfl | exact led_1 (by assumption) | exact led_2 (by assumption) | exact bk_m (by assumption) (by first | assumption | omega) | exact bk_p (by assumption) (by first | assumption | omega) | exact bk_o (by assumption) (by first | assumption | omega) | exact bk_s (by assumption) (by first | assumption | omega) | exact bk_1 (by assumption) | exact bk_2 (by assumption) | exact bk_3 (by assumption) | exact bk_4 (by assumption) | exact bk_5 (by assumption) | exact bk_6 (by assumption) | exact bk_7 (by assumption) | exact bk_8 (by assumption) | exact sh_ring _ (by first | assumption | omega) | exact sh_imgs _ (by first | assumption | omega)) (by decide) rfl (by decide) (Nat.le_of_ble_eq_true rfl) (c_X12_named_2 hbut hR h hG (fun f p q J j1 j2 => ?_) (fun v q g => ?_))
  · refine v_istore_3 rfl dX12_passed_6 ?_
    refine v_aload_0 dX12_passed_7 ?_
    refine u_getI dX12_passed_8 gf_X12_92 (by first | assumption | rfl | exact led_1 (by assumption) | exact led_2 (by assumption) | exact bk_m (by assumption) (by first | assumption | omega) | exact bk_p (by assumption) (by first | assumption | omega) | exact bk_o (by assumption) (by first | assumption | omega) | exact bk_s (by assumption) (by first | assumption | omega) | exact bk_1 (by assumption) | exact bk_2 (by assumption) | exact bk_3 (by assumption) | exact bk_4 (by assumption) | exact bk_5 (by assumption) | exact bk_6 (by assumption) | exact bk_7 (by assumption) | exact bk_8 (by assumption) | exact sh_ring _ (by first | assumption | omega) | exact sh_imgs _ (by first | assumption | omega)) ?_
    rw [j1.1]
    refine v_if_ne (tgt := 18) dX12_passed_11 (by decide) (fun hc11 => ?_) (fun hc11 => ?_)
    · (first | rw [bI_0, Bool.not_eq_false] at hc11 | rw [bI_0] at hc11 | rw [show (0 : Int32) = nI 0 from rfl, nI_eq (by omega) (by omega)] at hc11 | skip)
      refine v_iload_3 dX12_passed_18 ?_
      refine v_iret dX12_passed_19 rfl rfl rfl rfl ?_
      exact hF f p q J j1 j2
    · exact absurd hc11 (by decide)
  · refine v_istore_3 rfl dX12_passed_6 ?_
    refine v_aload_0 dX12_passed_7 ?_
    refine u_getI dX12_passed_8 gf_X12_92 (by first | assumption | rfl | exact led_1 (by assumption) | exact led_2 (by assumption) | exact bk_m (by assumption) (by first | assumption | omega) | exact bk_p (by assumption) (by first | assumption | omega) | exact bk_o (by assumption) (by first | assumption | omega) | exact bk_s (by assumption) (by first | assumption | omega) | exact bk_1 (by assumption) | exact bk_2 (by assumption) | exact bk_3 (by assumption) | exact bk_4 (by assumption) | exact bk_5 (by assumption) | exact bk_6 (by assumption) | exact bk_7 (by assumption) | exact bk_8 (by assumption) | exact sh_ring _ (by first | assumption | omega) | exact sh_imgs _ (by first | assumption | omega)) ?_
    rw [h13]
    refine v_if_ne (tgt := 18) dX12_passed_11 (by decide) (fun hc11 => ?_) (fun hc11 => ?_)
    · exact absurd rfl hc11
    · (first | rw [bI_0, Bool.not_eq_false] at hc11 | rw [bI_0] at hc11 | rw [show (0 : Int32) = nI 0 from rfl, nI_eq (by omega) (by omega)] at hc11 | skip)
      refine v_aload_0 dX12_passed_14 ?_
      refine u_callV_0 dX12_passed_15 ml_X12_113 mv_X12_next (by first | assumption | rfl | exact led_1 (by assumption) | exact led_2 (by assumption) | exact bk_m (by assumption) (by first | assumption | omega) | exact bk_p (by assumption) (by first | assumption | omega) | exact bk_o (by assumption) (by first | assumption | omega) | exact bk_s (by assumption) (by first | assumption | omega) | exact bk_1 (by assumption) | exact bk_2 (by assumption) | exact bk_3 (by assumption) | exact bk_4 (by assumption) | exact bk_5 (by assumption) | exact bk_6 (by assumption) | exact bk_7 (by assumption) | exact bk_8 (by assumption) | exact sh_ring _ (by first | assumption | omega) | exact sh_imgs _ (by first | assumption | omega)) (by decide) rfl (by decide) (Nat.le_of_ble_eq_true rfl) (c_X12_next hR h.1 h.E h.2.2.2.1.2.1 (fun J t1 f1 => ?_))
      refine v_iload_3 dX12_passed_18 ?_
      refine v_iret dX12_passed_19 rfl rfl rfl rfl ?_
      exact hY v _ q rfl g J (h.nx h.E t1 f1) f1.p
theorem z_X12_passed {x y : Int32} (h : I 157 13 = nI 1) (hQ : Q (some (.int (nI 0))) SH I L R) : KK 7 mX12_passed b ad [.ref (b + 157), .int x, .int y] I L R Q := by
  refine K.of (M := mX12_passed) (lv := [some (.ref (b + 157)), some (.int x), some (.int y), none]) (by decide) (Nat.le_of_ble_eq_true rfl) rfl ?_
  refine v_aload_0 dX12_passed_0 ?_
  refine v_iload_1 dX12_passed_1 ?_
  refine v_iload_2 dX12_passed_2 ?_
  refine u_callV_2 dX12_passed_3 ml_X12_162 mv_X12_named (by first | assumption | rfl | exact led_1 (by assumption) | exact led_2 (by assumption) | exact bk_m (by assumption) (by first | assumption | omega) | exact bk_p (by assumption) (by first | assumption | omega) | exact bk_o (by assumption) (by first | assumption | omega) | exact bk_s (by assumption) (by first | assumption | omega) | exact bk_1 (by assumption) | exact bk_2 (by assumption) | exact bk_3 (by assumption) | exact bk_4 (by assumption) | exact bk_5 (by assumption) | exact bk_6 (by assumption) | exact bk_7 (by assumption) | exact bk_8 (by assumption) | exact sh_ring _ (by first | assumption | omega) | exact sh_imgs _ (by first | assumption | omega)) (by decide) rfl (by decide) (Nat.le_of_ble_eq_true rfl) (z_X12_named h ?_)
  refine v_istore_3 rfl dX12_passed_6 ?_
  refine v_aload_0 dX12_passed_7 ?_
  refine u_getI dX12_passed_8 gf_X12_92 (by first | assumption | rfl | exact led_1 (by assumption) | exact led_2 (by assumption) | exact bk_m (by assumption) (by first | assumption | omega) | exact bk_p (by assumption) (by first | assumption | omega) | exact bk_o (by assumption) (by first | assumption | omega) | exact bk_s (by assumption) (by first | assumption | omega) | exact bk_1 (by assumption) | exact bk_2 (by assumption) | exact bk_3 (by assumption) | exact bk_4 (by assumption) | exact bk_5 (by assumption) | exact bk_6 (by assumption) | exact bk_7 (by assumption) | exact bk_8 (by assumption) | exact sh_ring _ (by first | assumption | omega) | exact sh_imgs _ (by first | assumption | omega)) ?_
  rw [h]
  refine v_if_ne (tgt := 18) dX12_passed_11 (by decide) (fun hc11 => ?_) (fun hc11 => ?_)
  · (first | rw [bI_0, Bool.not_eq_false] at hc11 | rw [bI_0] at hc11 | rw [show (0 : Int32) = nI 0 from rfl, nI_eq (by omega) (by omega)] at hc11 | skip)
    refine v_iload_3 dX12_passed_18 ?_
    refine v_iret dX12_passed_19 rfl rfl rfl rfl ?_
    exact hQ
  · exact absurd hc11 (by decide)
end
