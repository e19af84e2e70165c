section
variable {b : Nat} {ad : Nat → Nat} {I J : HI} {L M : HL} {R : HR} {Q : QT} {tp : Nat → Nat} {sz k e : Nat} {G F : bkF} {l : LSt} {s : PS}
theorem z_X12_personLine (h : I 157 13 = nI 1) (hQ : Q none SH I L R) : KK 9 mX12_personLine b ad [.ref (b + 157)] I L R Q := by
  refine K.of (M := mX12_personLine) (lv := [some (.ref (b + 157)), none, none]) (by decide) (Nat.le_of_ble_eq_true rfl) rfl ?_
  refine v_aload_0 dX12_personLine_0 ?_
  refine u_getI dX12_personLine_1 gf_X12_92 (by first | assumption | rfl | exact led_1 (by assumption) | exact led_2 (by assumption) | exact bk_m (by assumption) (by first | assumption | omega) | exact bk_p (by assumption) (by first | assumption | omega) | exact bk_o (by assumption) (by first | assumption | omega) | exact bk_s (by assumption) (by first | assumption | omega) | exact bk_1 (by assumption) | exact bk_2 (by assumption) | exact bk_3 (by assumption) | exact bk_4 (by assumption) | exact bk_5 (by assumption) | exact bk_6 (by assumption) | exact bk_7 (by assumption) | exact bk_8 (by assumption) | exact sh_ring _ (by first | assumption | omega) | exact sh_imgs _ (by first | assumption | omega)) ?_
  rw [h]
  refine v_if_eq (tgt := 8) dX12_personLine_4 (by decide) (fun hc4 => ?_) (fun hc4 => ?_)
  · exact absurd hc4 (by decide)
  · (first | rw [bI_0, Bool.not_eq_false] at hc4 | rw [bI_0] at hc4 | rw [show (0 : Int32) = nI 0 from rfl, nI_eq (by omega) (by omega)] at hc4 | skip)
    refine v_vret dX12_personLine_7 rfl rfl rfl rfl ?_
    exact hQ
theorem l_does {U : PS} {p : Nat} (hR : RO R) (hG : NmE G U.2.1) (hFl : ∀ f q, lDoes tp sz 6 0 U = .inl (f, q) → ∀ (J : HI) (x : Int32), FlM J f q → FrK I J → VV yX12_personLine cX12_personLine 3 none 9 Q b ad 154 [some (.ref (b + 157)), some (.int (nI p)), some (.int x)] [] J L R) (hOk : ∀ set t, lDoes tp sz 6 0 U = .inr (set, t) → t.2 = U.2 → set < 32 → ∀ J : HI, LvM J tp sz t.1 G l → FrK I J → VV yX12_personLine cX12_personLine 3 none 9 Q b ad 154 [some (.ref (b + 157)), some (.int (nI p)), some (.int (nI set))] [] J L R) (x2 : Option Value) (J0 : HI) (hL : LvM J0 tp sz U.1 G l) (jk : FrK I J0) : VV yX12_personLine cX12_personLine 3 none 9 Q b ad 124 [some (.ref (b + 157)), some (.int (nI p)), x2] [] J0 L R := by
  have loop : ∀ (n set : Nat) (t : PS) (J : HI), n + bitc set = 6 → set < 32 → t.2 = U.2 → LvM J tp sz t.1 G l → FrK I J → (if tK tp sz t.1 = 44 then lDoes tp sz n set (nx tp sz t) else .inr (set, t)) = lDoes tp sz 6 0 U → VV yX12_personLine cX12_personLine 3 none 9 Q b ad 133 [some (.ref (b + 157)), some (.int (nI p)), some (.int (nI set))] [] J L R := by
    intro n
    induction n with
    | zero => intro set t J hn hs; have := (bitF5 set hs).1; omega
    | succ n ih =>
      intro set t J hn hs et hL jk he
      refine v_aload_0 dX12_personLine_133 ?_
      refine u_callV_0 dX12_personLine_134 ml_X12_246 mv_X12_comma (by first | assumption | rfl | exact led_1 (by assumption) | exact led_2 (by assumption) | exact bk_m (by assumption) (by first | assumption | omega) | exact bk_p (by assumption) (by first | assumption | omega) | exact bk_o (by assumption) (by first | assumption | omega) | exact bk_s (by assumption) (by first | assumption | omega) | exact bk_1 (by assumption) | exact bk_2 (by assumption) | exact bk_3 (by assumption) | exact bk_4 (by assumption) | exact bk_5 (by assumption) | exact bk_6 (by assumption) | exact bk_7 (by assumption) | exact bk_8 (by assumption) | exact sh_ring _ (by first | assumption | omega) | exact sh_imgs _ (by first | assumption | omega)) (by decide) rfl (by decide) (Nat.le_of_ble_eq_true rfl) (c_X12_comma hR hL (fun q2 => ?_) (fun q2 J3 j31 j32 => ?_))
      · refine v_if_eq (tgt := 154) dX12_personLine_137 (by decide) (fun hc137 => ?_) (fun hc137 => ?_)
        · (first | rw [bI_0, Bool.not_eq_false] at hc137 | rw [bI_0] at hc137 | rw [show (0 : Int32) = nI 0 from rfl, nI_eq (by omega) (by omega)] at hc137 | skip)
          exact hOk set t (by rw [← he, if_neg q2]) et hs J hL jk
        · exact absurd rfl hc137
      · rw [if_pos q2] at he
        refine v_if_eq (tgt := 154) dX12_personLine_137 (by decide) (fun hc137 => ?_) (fun hc137 => ?_)
        · exact absurd hc137 (by decide)
        · (first | rw [bI_0, Bool.not_eq_false] at hc137 | rw [bI_0] at hc137 | rw [show (0 : Int32) = nI 0 from rfl, nI_eq (by omega) (by omega)] at hc137 | skip)
          refine v_iload_2 dX12_personLine_140 ?_
          refine v_iconst (v := nI 1) dX12_personLine_141 (by decide) ?_
          refine v_aload_0 dX12_personLine_142 ?_
          refine v_iconst (v := nI 0) dX12_personLine_143 (by decide) ?_
          refine v_iload_2 dX12_personLine_144 ?_
          refine u_callV_2 dX12_personLine_145 ml_X12_262 mv_X12_passed (by first | assumption | rfl | exact led_1 (by assumption) | exact led_2 (by assumption) | exact bk_m (by assumption) (by first | assumption | omega) | exact bk_p (by assumption) (by first | assumption | omega) | exact bk_o (by assumption) (by first | assumption | omega) | exact bk_s (by assumption) (by first | assumption | omega) | exact bk_1 (by assumption) | exact bk_2 (by assumption) | exact bk_3 (by assumption) | exact bk_4 (by assumption) | exact bk_5 (by assumption) | exact bk_6 (by assumption) | exact bk_7 (by assumption) | exact bk_8 (by assumption) | exact sh_ring _ (by first | assumption | omega) | exact sh_imgs _ (by first | assumption | omega)) (by decide) rfl (by decide) (Nat.le_of_ble_eq_true rfl) (c_X12_passed_0 (but := set) (s := nx tp sz t) (by omega) hR j31 (by show NmE G t.2.1; rw [et]; exact hG) (fun f p q J j1 j2 => ?_) (fun v u q e g J4 j1 j2 => ?_))
          · refine v_ishl dX12_personLine_148 ?_
            refine v_ior dX12_personLine_149 ?_
            refine v_istore_2 rfl dX12_personLine_150 ?_
            refine v_goto (tgt := 133) dX12_personLine_151 (by decide) ?_
            refine v_aload_0 dX12_personLine_133 ?_
            refine u_callV_0 dX12_personLine_134 ml_X12_246 mv_X12_comma (by first | assumption | rfl | exact led_1 (by assumption) | exact led_2 (by assumption) | exact bk_m (by assumption) (by first | assumption | omega) | exact bk_p (by assumption) (by first | assumption | omega) | exact bk_o (by assumption) (by first | assumption | omega) | exact bk_s (by assumption) (by first | assumption | omega) | exact bk_1 (by assumption) | exact bk_2 (by assumption) | exact bk_3 (by assumption) | exact bk_4 (by assumption) | exact bk_5 (by assumption) | exact bk_6 (by assumption) | exact bk_7 (by assumption) | exact bk_8 (by assumption) | exact sh_ring _ (by first | assumption | omega) | exact sh_imgs _ (by first | assumption | omega)) (by decide) rfl (by decide) (Nat.le_of_ble_eq_true rfl) (z_X12_comma j1.1 ?_)
            refine v_if_eq (tgt := 154) dX12_personLine_137 (by decide) (fun hc137 => ?_) (fun hc137 => ?_)
            · (first | rw [bI_0, Bool.not_eq_false] at hc137 | rw [bI_0] at hc137 | rw [show (0 : Int32) = nI 0 from rfl, nI_eq (by omega) (by omega)] at hc137 | skip)
              exact hFl f p (by rw [← he, lDoes, bnd_l q]) J _ j1 ((jk.trans j32.k).trans j2.k)
            · exact absurd rfl hc137
          · have b5 : v < 5 := (qTold_i q).2.2.2.1
            have h2p : 2 ^ v < 2 ^ 5 := Nat.pow_lt_pow_right (by decide) b5
            have hb1 := (bitF5 set hs).2 v b5 (qTold_i q).2.2.2.2
            have hs2 : set ||| 2 ^ v < 2 ^ 5 := Nat.or_lt_two_pow hs h2p
            refine v_ishl dX12_personLine_148 ?_
            rw [one_shl (by omega)]
            refine v_ior dX12_personLine_149 ?_
            rw [nx_or]
            refine v_istore_2 rfl dX12_personLine_150 ?_
            refine v_goto (tgt := 133) dX12_personLine_151 (by decide) ?_
            exact ih (set ||| 2 ^ v) u J4 (by omega) hs2 (by rw [e]; exact et) j1 ((jk.trans j32.k).trans j2.k) (by rw [← he, lDoes, bnd_r q])
  refine v_iconst (v := nI 1) dX12_personLine_124 (by decide) ?_
  refine v_aload_0 dX12_personLine_125 ?_
  refine v_iconst (v := nI 0) dX12_personLine_126 (by decide) ?_
  refine v_iconst (v := nI 0) dX12_personLine_127 (by decide) ?_
  refine u_callV_2 dX12_personLine_128 ml_X12_262 mv_X12_passed (by first | assumption | rfl | exact led_1 (by assumption) | exact led_2 (by assumption) | exact bk_m (by assumption) (by first | assumption | omega) | exact bk_p (by assumption) (by first | assumption | omega) | exact bk_o (by assumption) (by first | assumption | omega) | exact bk_s (by assumption) (by first | assumption | omega) | exact bk_1 (by assumption) | exact bk_2 (by assumption) | exact bk_3 (by assumption) | exact bk_4 (by assumption) | exact bk_5 (by assumption) | exact bk_6 (by assumption) | exact bk_7 (by assumption) | exact bk_8 (by assumption) | exact sh_ring _ (by first | assumption | omega) | exact sh_imgs _ (by first | assumption | omega)) (by decide) rfl (by decide) (Nat.le_of_ble_eq_true rfl) (c_X12_passed_0 (but := 0) (s := U) (by omega) hR hL hG (fun f p q J j1 j2 => ?_) (fun v u q e g J j1 j2 => ?_))
  · refine v_ishl dX12_personLine_131 ?_
    refine v_istore_2 rfl dX12_personLine_132 ?_
    refine v_aload_0 dX12_personLine_133 ?_
    refine u_callV_0 dX12_personLine_134 ml_X12_246 mv_X12_comma (by first | assumption | rfl | exact led_1 (by assumption) | exact led_2 (by assumption) | exact bk_m (by assumption) (by first | assumption | omega) | exact bk_p (by assumption) (by first | assumption | omega) | exact bk_o (by assumption) (by first | assumption | omega) | exact bk_s (by assumption) (by first | assumption | omega) | exact bk_1 (by assumption) | exact bk_2 (by assumption) | exact bk_3 (by assumption) | exact bk_4 (by assumption) | exact bk_5 (by assumption) | exact bk_6 (by assumption) | exact bk_7 (by assumption) | exact bk_8 (by assumption) | exact sh_ring _ (by first | assumption | omega) | exact sh_imgs _ (by first | assumption | omega)) (by decide) rfl (by decide) (Nat.le_of_ble_eq_true rfl) (z_X12_comma j1.1 ?_)
    refine v_if_eq (tgt := 154) dX12_personLine_137 (by decide) (fun hc137 => ?_) (fun hc137 => ?_)
    · (first | rw [bI_0, Bool.not_eq_false] at hc137 | rw [bI_0] at hc137 | rw [show (0 : Int32) = nI 0 from rfl, nI_eq (by omega) (by omega)] at hc137 | skip)
      exact hFl f p (by rw [lDoes, bnd_l q]) J _ j1 (jk.trans j2.k)
    · exact absurd rfl hc137
  · have b5 : v < 5 := (qTold_i q).2.2.2.1
    have h2p : 2 ^ v < 2 ^ 5 := Nat.pow_lt_pow_right (by decide) b5
    have hb1 := (bitF5 0 (by decide)).2 v b5 (Nat.zero_testBit v)
    rw [Nat.zero_or, show bitc 0 = 0 by decide] at hb1
    refine v_ishl dX12_personLine_131 ?_
    rw [one_shl (by omega)]
    refine v_istore_2 rfl dX12_personLine_132 ?_
    exact loop 5 (2 ^ v) u J (by omega) (by omega) (by rw [e]; rfl) j1 (jk.trans j2.k) (by rw [show lDoes tp sz 6 0 U = bnd (qTold tp sz 0 0 U) (fun k => if tK tp sz k.2.1 = 44 then lDoes tp sz 5 (0 ||| 2 ^ k.1) (nx tp sz k.2) else .inr (0 ||| 2 ^ k.1, k.2)) from rfl, bnd_r q, Nat.zero_or])
theorem c_X12_personLine (hR : RO R) (h : LvM I tp sz s.1 s.2.1 s.2.2) (hI : PInv sz s) (h3 : s.2.1 3 < 6) (hF : ∀ f p, lPerson tp sz s = .inl (f, p) → ∀ J : HI, FlM J f p → FrK I J → Q none SH J L R) (hY : ∀ u, lPerson tp sz s = .inr u → ∀ J : HI, LvM J tp sz u.1 u.2.1 u.2.2 → FrK I J → Q none SH J L R) : KK 9 mX12_personLine b ad [.ref (b + 157)] I L R Q := by
  have hL := h
  have hG : NmE s.2.1 s.2.1 := NmE.refl
  have jk : FrK I I := FrK.refl
  have hO := hI.2.1
  have o0 := hO.1
  have o1 := hO.2.1
  have o2 := hO.2.2.1
  have o3 := hO.2.2.2.1
  have o4 := hO.2.2.2.2.1
  have o5 := hO.2.2.2.2.2.1
  have o6 := hO.2.2.2.2.2.2.1
  have es0 : s.2 = s.2 := rfl
  refine K.of (M := mX12_personLine) (lv := [some (.ref (b + 157)), none, none]) (by decide) (Nat.le_of_ble_eq_true rfl) rfl ?_
  refine v_aload_0 dX12_personLine_0 ?_
  refine u_getI dX12_personLine_1 gf_X12_92 (by first | assumption | rfl | exact led_1 (by assumption) | exact led_2 (by assumption) | exact bk_m (by assumption) (by first | assumption | omega) | exact bk_p (by assumption) (by first | assumption | omega) | exact bk_o (by assumption) (by first | assumption | omega) | exact bk_s (by assumption) (by first | assumption | omega) | exact bk_1 (by assumption) | exact bk_2 (by assumption) | exact bk_3 (by assumption) | exact bk_4 (by assumption) | exact bk_5 (by assumption) | exact bk_6 (by assumption) | exact bk_7 (by assumption) | exact bk_8 (by assumption) | exact sh_ring _ (by first | assumption | omega) | exact sh_imgs _ (by first | assumption | omega)) ?_
  rw [hL.2.2.1]
  refine v_if_eq (tgt := 8) dX12_personLine_4 (by decide) (fun hc4 => ?_) (fun hc4 => ?_)
  · (first | rw [bI_0, Bool.not_eq_false] at hc4 | rw [bI_0] at hc4 | rw [show (0 : Int32) = nI 0 from rfl, nI_eq (by omega) (by omega)] at hc4 | skip)
    refine v_aload_0 dX12_personLine_8 ?_
    refine u_getR dX12_personLine_9 gf_X12_23 (by first | assumption | rfl | exact led_1 (by assumption) | exact led_2 (by assumption) | exact bk_m (by assumption) (by first | assumption | omega) | exact bk_p (by assumption) (by first | assumption | omega) | exact bk_o (by assumption) (by first | assumption | omega) | exact bk_s (by assumption) (by first | assumption | omega) | exact bk_1 (by assumption) | exact bk_2 (by assumption) | exact bk_3 (by assumption) | exact bk_4 (by assumption) | exact bk_5 (by assumption) | exact bk_6 (by assumption) | exact bk_7 (by assumption) | exact bk_8 (by assumption) | exact sh_ring _ (by first | assumption | omega) | exact sh_imgs _ (by first | assumption | omega)) (ro_X12_16 (by assumption)) ?_
    refine v_iconst (v := nI 3) dX12_personLine_12 (by decide) ?_
    refine u_iald dX12_personLine_13 (by first | assumption | rfl | exact led_1 (by assumption) | exact led_2 (by assumption) | exact bk_m (by assumption) (by first | assumption | omega) | exact bk_p (by assumption) (by first | assumption | omega) | exact bk_o (by assumption) (by first | assumption | omega) | exact bk_s (by assumption) (by first | assumption | omega) | exact bk_1 (by assumption) | exact bk_2 (by assumption) | exact bk_3 (by assumption) | exact bk_4 (by assumption) | exact bk_5 (by assumption) | exact bk_6 (by assumption) | exact bk_7 (by assumption) | exact bk_8 (by assumption) | exact sh_ring _ (by first | assumption | omega) | exact sh_imgs _ (by first | assumption | omega)) (by first | with_reducible rfl | (simp only [nlit, nI_add, pk_mul]; with_reducible rfl) | rfl) (by first | assumption | omega) (by first | assumption | decide) ?_
    rw [(hL.2.2.2.2.1 3 (by decide)).1]
    refine v_istore_1 rfl dX12_personLine_14 ?_
    refine v_aload_0 dX12_personLine_15 ?_
    refine u_callV_0 dX12_personLine_16 ml_X12_239 mv_X12_mustBeNew (by first | assumption | rfl | exact led_1 (by assumption) | exact led_2 (by assumption) | exact bk_m (by assumption) (by first | assumption | omega) | exact bk_p (by assumption) (by first | assumption | omega) | exact bk_o (by assumption) (by first | assumption | omega) | exact bk_s (by assumption) (by first | assumption | omega) | exact bk_1 (by assumption) | exact bk_2 (by assumption) | exact bk_3 (by assumption) | exact bk_4 (by assumption) | exact bk_5 (by assumption) | exact bk_6 (by assumption) | exact bk_7 (by assumption) | exact bk_8 (by assumption) | exact sh_ring _ (by first | assumption | omega) | exact sh_imgs _ (by first | assumption | omega)) (by decide) rfl (by decide) (Nat.le_of_ble_eq_true rfl) (c_X12_mustBeNew (s := s) hR hL hG (fun f p q J j1 j2 => ?_) (fun q1 kk => ?_))
    · have jf := jk.trans j2.k
      refine v_aload_0 dX12_personLine_19 ?_
      refine u_getI dX12_personLine_20 gf_X12_92 (by first | assumption | rfl | exact led_1 (by assumption) | exact led_2 (by assumption) | exact bk_m (by assumption) (by first | assumption | omega) | exact bk_p (by assumption) (by first | assumption | omega) | exact bk_o (by assumption) (by first | assumption | omega) | exact bk_s (by assumption) (by first | assumption | omega) | exact bk_1 (by assumption) | exact bk_2 (by assumption) | exact bk_3 (by assumption) | exact bk_4 (by assumption) | exact bk_5 (by assumption) | exact bk_6 (by assumption) | exact bk_7 (by assumption) | exact bk_8 (by assumption) | exact sh_ring _ (by first | assumption | omega) | exact sh_imgs _ (by first | assumption | omega)) ?_
      (try simp only [ui_ne (show (157 : Nat) ≠ 161 by decide)])
      rw [j1.1]
      refine v_if_eq (tgt := 27) dX12_personLine_23 (by decide) (fun hc23 => ?_) (fun hc23 => ?_)
      · exact absurd hc23 (by decide)
      · (first | rw [bI_0, Bool.not_eq_false] at hc23 | rw [bI_0] at hc23 | rw [show (0 : Int32) = nI 0 from rfl, nI_eq (by omega) (by omega)] at hc23 | skip)
        refine v_vret dX12_personLine_26 rfl rfl rfl rfl ?_
        refine hF f p (by rw [lPerson, bnd_l q]) _ ?_ ?_
        · (repeat (first | exact j1 | apply FlM.put))
        · (repeat (first | exact jf | apply FrK.up))
    · refine v_aload_0 dX12_personLine_19 ?_
      refine u_getI dX12_personLine_20 gf_X12_92 (by first | assumption | rfl | exact led_1 (by assumption) | exact led_2 (by assumption) | exact bk_m (by assumption) (by first | assumption | omega) | exact bk_p (by assumption) (by first | assumption | omega) | exact bk_o (by assumption) (by first | assumption | omega) | exact bk_s (by assumption) (by first | assumption | omega) | exact bk_1 (by assumption) | exact bk_2 (by assumption) | exact bk_3 (by assumption) | exact bk_4 (by assumption) | exact bk_5 (by assumption) | exact bk_6 (by assumption) | exact bk_7 (by assumption) | exact bk_8 (by assumption) | exact sh_ring _ (by first | assumption | omega) | exact sh_imgs _ (by first | assumption | omega)) ?_
      rw [hL.2.2.1]
      refine v_if_eq (tgt := 27) dX12_personLine_23 (by decide) (fun hc23 => ?_) (fun hc23 => ?_)
      · (first | rw [bI_0, Bool.not_eq_false] at hc23 | rw [bI_0] at hc23 | rw [show (0 : Int32) = nI 0 from rfl, nI_eq (by omega) (by omega)] at hc23 | skip)
        refine v_aload_0 dX12_personLine_27 ?_
        refine v_bipush (v := nI 11) dX12_personLine_28 (by decide) ?_
        refine v_iload_1 dX12_personLine_30 ?_
        refine v_iadd dX12_personLine_31 ?_
        rw [nI_add]
        refine u_callV_1 dX12_personLine_32 ml_X12_242 mv_X12_keepName (by first | assumption | rfl | exact led_1 (by assumption) | exact led_2 (by assumption) | exact bk_m (by assumption) (by first | assumption | omega) | exact bk_p (by assumption) (by first | assumption | omega) | exact bk_o (by assumption) (by first | assumption | omega) | exact bk_s (by assumption) (by first | assumption | omega) | exact bk_1 (by assumption) | exact bk_2 (by assumption) | exact bk_3 (by assumption) | exact bk_4 (by assumption) | exact bk_5 (by assumption) | exact bk_6 (by assumption) | exact bk_7 (by assumption) | exact bk_8 (by assumption) | exact sh_ring _ (by first | assumption | omega) | exact sh_imgs _ (by first | assumption | omega)) (by decide) rfl (by decide) (Nat.le_of_ble_eq_true rfl) (c_X12_keepName (n := 11 + s.2.1 3) (by omega) hR hL kk (fun J2 hL j22 => ?_))
        have jk := jk.trans j22
        have hG : NmE (kept tp sz (11 + s.2.1 3) s).2.1 (kept tp sz (11 + s.2.1 3) s).2.1 := NmE.refl
        have hc_3 : keepF tp sz s.2.1 s.1 (11 + s.2.1 3) 3 = s.2.1 3 := keepF_l2 (by decide)
        have es0 : (kept tp sz (11 + s.2.1 3) s).2 = (kept tp sz (11 + s.2.1 3) s).2 := rfl
        have hzz := hI.2.2.2.2.2.2.2.1 (s.2.1 3) (Nat.le_refl _) h3
        have hz38 : (kept tp sz (11 + s.2.1 3) s).2.1 (38 + s.2.1 3) = 0 := (keepF_l2 (by omega)).trans hzz.1
        have hz44 : (kept tp sz (11 + s.2.1 3) s).2.1 (44 + s.2.1 3) = 0 := (keepF_l2 (by omega)).trans hzz.2.1
        have hz50 : (kept tp sz (11 + s.2.1 3) s).2.1 (50 + s.2.1 3) = 0 := (keepF_l2 (by omega)).trans hzz.2.2
        refine v_aload_0 dX12_personLine_35 ?_
        refine u_getR dX12_personLine_36 gf_X12_23 (by first | assumption | rfl | exact led_1 (by assumption) | exact led_2 (by assumption) | exact bk_m (by assumption) (by first | assumption | omega) | exact bk_p (by assumption) (by first | assumption | omega) | exact bk_o (by assumption) (by first | assumption | omega) | exact bk_s (by assumption) (by first | assumption | omega) | exact bk_1 (by assumption) | exact bk_2 (by assumption) | exact bk_3 (by assumption) | exact bk_4 (by assumption) | exact bk_5 (by assumption) | exact bk_6 (by assumption) | exact bk_7 (by assumption) | exact bk_8 (by assumption) | exact sh_ring _ (by first | assumption | omega) | exact sh_imgs _ (by first | assumption | omega)) (ro_X12_16 (by assumption)) ?_
        refine v_bipush (v := nI 26) dX12_personLine_39 (by decide) ?_
        refine v_iload_1 dX12_personLine_41 ?_
        refine v_iadd dX12_personLine_42 ?_
        rw [nI_add]
        refine v_aload_0 dX12_personLine_43 ?_
        refine v_ldcS (i := 41) dX12_personLine_44 (by decide) rfl rfl ?_
        refine v_iconst (v := nI 1) dX12_personLine_46 (by decide) ?_
        refine v_bipush (v := nI 9) dX12_personLine_47 (by decide) ?_
        refine u_callV_3 dX12_personLine_49 ml_X12_235 mv_X12_told (by first | assumption | rfl | exact led_1 (by assumption) | exact led_2 (by assumption) | exact bk_m (by assumption) (by first | assumption | omega) | exact bk_p (by assumption) (by first | assumption | omega) | exact bk_o (by assumption) (by first | assumption | omega) | exact bk_s (by assumption) (by first | assumption | omega) | exact bk_1 (by assumption) | exact bk_2 (by assumption) | exact bk_3 (by assumption) | exact bk_4 (by assumption) | exact bk_5 (by assumption) | exact bk_6 (by assumption) | exact bk_7 (by assumption) | exact bk_8 (by assumption) | exact sh_ring _ (by first | assumption | omega) | exact sh_imgs _ (by first | assumption | omega)) (by decide) rfl (by decide) (Nat.le_of_ble_eq_true rfl) (c_X12_told (i := 41) (lo := 1) (hi := 9) (s := (kept tp sz (11 + s.2.1 3) s)) (by decide) (by omega) (by omega) hR hL (fun f p q J j1 j2 => ?_) (fun v2 u2 q2 e2 g2 h2 w2 J2 j21 j22 => ?_))
        · have q : qWhole tp sz (wd 12) 1 9 (kept tp sz (11 + s.2.1 3) s) = .inl (f, p) := q
          have jf := jk.trans j2.k
          refine u_iast dX12_personLine_52 (by first | assumption | rfl | exact led_1 (by assumption) | exact led_2 (by assumption) | exact bk_m (by assumption) (by first | assumption | omega) | exact bk_p (by assumption) (by first | assumption | omega) | exact bk_o (by assumption) (by first | assumption | omega) | exact bk_s (by assumption) (by first | assumption | omega) | exact bk_1 (by assumption) | exact bk_2 (by assumption) | exact bk_3 (by assumption) | exact bk_4 (by assumption) | exact bk_5 (by assumption) | exact bk_6 (by assumption) | exact bk_7 (by assumption) | exact bk_8 (by assumption) | exact sh_ring _ (by first | assumption | omega) | exact sh_imgs _ (by first | assumption | omega)) (by first | with_reducible rfl | (simp only [nlit, nI_add, pk_mul]; with_reducible rfl) | rfl) (by first | assumption | omega) (by first | assumption | decide) ?_
          refine v_aload_0 dX12_personLine_53 ?_
          refine u_getR dX12_personLine_54 gf_X12_23 (by first | assumption | rfl | exact led_1 (by assumption) | exact led_2 (by assumption) | exact bk_m (by assumption) (by first | assumption | omega) | exact bk_p (by assumption) (by first | assumption | omega) | exact bk_o (by assumption) (by first | assumption | omega) | exact bk_s (by assumption) (by first | assumption | omega) | exact bk_1 (by assumption) | exact bk_2 (by assumption) | exact bk_3 (by assumption) | exact bk_4 (by assumption) | exact bk_5 (by assumption) | exact bk_6 (by assumption) | exact bk_7 (by assumption) | exact bk_8 (by assumption) | exact sh_ring _ (by first | assumption | omega) | exact sh_imgs _ (by first | assumption | omega)) (ro_X12_16 (by assumption)) ?_
          refine v_bipush (v := nI 32) dX12_personLine_57 (by decide) ?_
          refine v_iload_1 dX12_personLine_59 ?_
          refine v_iadd dX12_personLine_60 ?_
          refine v_aload_0 dX12_personLine_61 ?_
          refine v_ldcSw (i := 47) dX12_personLine_62 (by decide) rfl rfl ?_
          refine v_iconst (v := nI 0) dX12_personLine_65 (by decide) ?_
          refine v_bipush (v := nI 99) dX12_personLine_66 (by decide) ?_
          refine u_callV_3 dX12_personLine_68 ml_X12_235 mv_X12_told (by first | assumption | rfl | exact led_1 (by assumption) | exact led_2 (by assumption) | exact bk_m (by assumption) (by first | assumption | omega) | exact bk_p (by assumption) (by first | assumption | omega) | exact bk_o (by assumption) (by first | assumption | omega) | exact bk_s (by assumption) (by first | assumption | omega) | exact bk_1 (by assumption) | exact bk_2 (by assumption) | exact bk_3 (by assumption) | exact bk_4 (by assumption) | exact bk_5 (by assumption) | exact bk_6 (by assumption) | exact bk_7 (by assumption) | exact bk_8 (by assumption) | exact sh_ring _ (by first | assumption | omega) | exact sh_imgs _ (by first | assumption | omega)) (by decide) rfl (by decide) (Nat.le_of_ble_eq_true rfl) (z_X12_told (by (try simp only [ui_ne (show (157 : Nat) ≠ 161 by decide)]); exact j1.1) ?_)
          refine u_iast dX12_personLine_71 (by first | assumption | rfl | exact led_1 (by assumption) | exact led_2 (by assumption) | exact bk_m (by assumption) (by first | assumption | omega) | exact bk_p (by assumption) (by first | assumption | omega) | exact bk_o (by assumption) (by first | assumption | omega) | exact bk_s (by assumption) (by first | assumption | omega) | exact bk_1 (by assumption) | exact bk_2 (by assumption) | exact bk_3 (by assumption) | exact bk_4 (by assumption) | exact bk_5 (by assumption) | exact bk_6 (by assumption) | exact bk_7 (by assumption) | exact bk_8 (by assumption) | exact sh_ring _ (by first | assumption | omega) | exact sh_imgs _ (by first | assumption | omega)) (by first | with_reducible rfl | (simp only [nlit, nI_add, pk_mul]; with_reducible rfl) | rfl) (by first | assumption | omega) (by first | assumption | decide) ?_
          refine v_aload_0 dX12_personLine_72 ?_
          refine v_ldcS (i := 38) dX12_personLine_73 (by decide) rfl rfl ?_
          refine u_callV_1 dX12_personLine_75 ml_X12_116 mv_X12_takes (by first | assumption | rfl | exact led_1 (by assumption) | exact led_2 (by assumption) | exact bk_m (by assumption) (by first | assumption | omega) | exact bk_p (by assumption) (by first | assumption | omega) | exact bk_o (by assumption) (by first | assumption | omega) | exact bk_s (by assumption) (by first | assumption | omega) | exact bk_1 (by assumption) | exact bk_2 (by assumption) | exact bk_3 (by assumption) | exact bk_4 (by assumption) | exact bk_5 (by assumption) | exact bk_6 (by assumption) | exact bk_7 (by assumption) | exact bk_8 (by assumption) | exact sh_ring _ (by first | assumption | omega) | exact sh_imgs _ (by first | assumption | omega)) (by decide) rfl (by decide) (Nat.le_of_ble_eq_true rfl) (z_X12_takes (by (try simp only [ui_ne (show (157 : Nat) ≠ 161 by decide)]); exact j1.1) ?_)
          refine v_if_eq (tgt := 91) dX12_personLine_78 (by decide) (fun hc78 => ?_) (fun hc78 => ?_)
          · (first | rw [bI_0, Bool.not_eq_false] at hc78 | rw [bI_0] at hc78 | rw [show (0 : Int32) = nI 0 from rfl, nI_eq (by omega) (by omega)] at hc78 | skip)
            refine v_aload_0 dX12_personLine_91 ?_
            refine v_ldcS (i := 39) dX12_personLine_92 (by decide) rfl rfl ?_
            refine u_callV_1 dX12_personLine_94 ml_X12_116 mv_X12_takes (by first | assumption | rfl | exact led_1 (by assumption) | exact led_2 (by assumption) | exact bk_m (by assumption) (by first | assumption | omega) | exact bk_p (by assumption) (by first | assumption | omega) | exact bk_o (by assumption) (by first | assumption | omega) | exact bk_s (by assumption) (by first | assumption | omega) | exact bk_1 (by assumption) | exact bk_2 (by assumption) | exact bk_3 (by assumption) | exact bk_4 (by assumption) | exact bk_5 (by assumption) | exact bk_6 (by assumption) | exact bk_7 (by assumption) | exact bk_8 (by assumption) | exact sh_ring _ (by first | assumption | omega) | exact sh_imgs _ (by first | assumption | omega)) (by decide) rfl (by decide) (Nat.le_of_ble_eq_true rfl) (z_X12_takes (by (try simp only [ui_ne (show (157 : Nat) ≠ 161 by decide)]); exact j1.1) ?_)
            refine v_if_eq (tgt := 115) dX12_personLine_97 (by decide) (fun hc97 => ?_) (fun hc97 => ?_)
            · (first | rw [bI_0, Bool.not_eq_false] at hc97 | rw [bI_0] at hc97 | rw [show (0 : Int32) = nI 0 from rfl, nI_eq (by omega) (by omega)] at hc97 | skip)
              refine v_aload_0 dX12_personLine_115 ?_
              refine v_ldcS (i := 40) dX12_personLine_116 (by decide) rfl rfl ?_
              refine u_callV_1 dX12_personLine_118 ml_X12_116 mv_X12_takes (by first | assumption | rfl | exact led_1 (by assumption) | exact led_2 (by assumption) | exact bk_m (by assumption) (by first | assumption | omega) | exact bk_p (by assumption) (by first | assumption | omega) | exact bk_o (by assumption) (by first | assumption | omega) | exact bk_s (by assumption) (by first | assumption | omega) | exact bk_1 (by assumption) | exact bk_2 (by assumption) | exact bk_3 (by assumption) | exact bk_4 (by assumption) | exact bk_5 (by assumption) | exact bk_6 (by assumption) | exact bk_7 (by assumption) | exact bk_8 (by assumption) | exact sh_ring _ (by first | assumption | omega) | exact sh_imgs _ (by first | assumption | omega)) (by decide) rfl (by decide) (Nat.le_of_ble_eq_true rfl) (z_X12_takes (by (try simp only [ui_ne (show (157 : Nat) ≠ 161 by decide)]); exact j1.1) ?_)
              refine v_if_eq (tgt := 164) dX12_personLine_121 (by decide) (fun hc121 => ?_) (fun hc121 => ?_)
              · (first | rw [bI_0, Bool.not_eq_false] at hc121 | rw [bI_0] at hc121 | rw [show (0 : Int32) = nI 0 from rfl, nI_eq (by omega) (by omega)] at hc121 | skip)
                refine v_aload_0 dX12_personLine_164 ?_
                refine u_getR dX12_personLine_165 gf_X12_23 (by first | assumption | rfl | exact led_1 (by assumption) | exact led_2 (by assumption) | exact bk_m (by assumption) (by first | assumption | omega) | exact bk_p (by assumption) (by first | assumption | omega) | exact bk_o (by assumption) (by first | assumption | omega) | exact bk_s (by assumption) (by first | assumption | omega) | exact bk_1 (by assumption) | exact bk_2 (by assumption) | exact bk_3 (by assumption) | exact bk_4 (by assumption) | exact bk_5 (by assumption) | exact bk_6 (by assumption) | exact bk_7 (by assumption) | exact bk_8 (by assumption) | exact sh_ring _ (by first | assumption | omega) | exact sh_imgs _ (by first | assumption | omega)) (ro_X12_16 (by assumption)) ?_
                refine v_iconst (v := nI 3) dX12_personLine_168 (by decide) ?_
                refine v_dup2 dX12_personLine_169 rfl rfl ?_
                refine u_iald dX12_personLine_170 (by first | assumption | rfl | exact led_1 (by assumption) | exact led_2 (by assumption) | exact bk_m (by assumption) (by first | assumption | omega) | exact bk_p (by assumption) (by first | assumption | omega) | exact bk_o (by assumption) (by first | assumption | omega) | exact bk_s (by assumption) (by first | assumption | omega) | exact bk_1 (by assumption) | exact bk_2 (by assumption) | exact bk_3 (by assumption) | exact bk_4 (by assumption) | exact bk_5 (by assumption) | exact bk_6 (by assumption) | exact bk_7 (by assumption) | exact bk_8 (by assumption) | exact sh_ring _ (by first | assumption | omega) | exact sh_imgs _ (by first | assumption | omega)) (by first | with_reducible rfl | (simp only [nlit, nI_add, pk_mul]; with_reducible rfl) | rfl) (by first | assumption | omega) (by first | assumption | decide) ?_
                refine v_iconst (v := nI 1) dX12_personLine_171 (by decide) ?_
                refine v_iadd dX12_personLine_172 ?_
                refine u_iast dX12_personLine_173 (by first | assumption | rfl | exact led_1 (by assumption) | exact led_2 (by assumption) | exact bk_m (by assumption) (by first | assumption | omega) | exact bk_p (by assumption) (by first | assumption | omega) | exact bk_o (by assumption) (by first | assumption | omega) | exact bk_s (by assumption) (by first | assumption | omega) | exact bk_1 (by assumption) | exact bk_2 (by assumption) | exact bk_3 (by assumption) | exact bk_4 (by assumption) | exact bk_5 (by assumption) | exact bk_6 (by assumption) | exact bk_7 (by assumption) | exact bk_8 (by assumption) | exact sh_ring _ (by first | assumption | omega) | exact sh_imgs _ (by first | assumption | omega)) (by first | with_reducible rfl | (simp only [nlit, nI_add, pk_mul]; with_reducible rfl) | rfl) (by first | assumption | omega) (by first | assumption | decide) ?_
                refine v_vret dX12_personLine_174 rfl rfl rfl rfl ?_
                refine hF f p (by rw [lPerson, bnd_r q1, bnd_l q]) _ ?_ ?_
                · (repeat (first | exact j1 | apply FlM.put))
                · (repeat (first | exact jf | apply FrK.up))
              · exact absurd rfl hc121
            · exact absurd rfl hc97
          · exact absurd rfl hc78
        · have q2 : qWhole tp sz (wd 12) 1 9 (kept tp sz (11 + s.2.1 3) s) = .inr (v2, u2) := q2
          have es2 : u2.2 = (kept tp sz (11 + s.2.1 3) s).2 := e2.trans es0
          have hL := j21
          have jk := jk.trans j22.k
          refine u_iast dX12_personLine_52 (by first | assumption | rfl | exact led_1 (by assumption) | exact led_2 (by assumption) | exact bk_m (by assumption) (by first | assumption | omega) | exact bk_p (by assumption) (by first | assumption | omega) | exact bk_o (by assumption) (by first | assumption | omega) | exact bk_s (by assumption) (by first | assumption | omega) | exact bk_1 (by assumption) | exact bk_2 (by assumption) | exact bk_3 (by assumption) | exact bk_4 (by assumption) | exact bk_5 (by assumption) | exact bk_6 (by assumption) | exact bk_7 (by assumption) | exact bk_8 (by assumption) | exact sh_ring _ (by first | assumption | omega) | exact sh_imgs _ (by first | assumption | omega)) (by first | with_reducible rfl | (simp only [nlit, nI_add, pk_mul]; with_reducible rfl) | rfl) (by first | assumption | omega) (by first | assumption | decide) ?_
          have hL := hL.put (j := 26 + s.2.1 3) (v := v2) (by omega)
          have hG := hG.put (j := 26 + s.2.1 3) (v := v2) (by omega)
          have jk := jk.up (j := 26 + s.2.1 3) (v := nI (v2))
          have hc_3 := (setF_n (k := 26 + s.2.1 3) (v := v2) (show 3 ≠ 26 + s.2.1 3 by omega)).trans hc_3
          refine v_aload_0 dX12_personLine_53 ?_
          refine u_getR dX12_personLine_54 gf_X12_23 (by first | assumption | rfl | exact led_1 (by assumption) | exact led_2 (by assumption) | exact bk_m (by assumption) (by first | assumption | omega) | exact bk_p (by assumption) (by first | assumption | omega) | exact bk_o (by assumption) (by first | assumption | omega) | exact bk_s (by assumption) (by first | assumption | omega) | exact bk_1 (by assumption) | exact bk_2 (by assumption) | exact bk_3 (by assumption) | exact bk_4 (by assumption) | exact bk_5 (by assumption) | exact bk_6 (by assumption) | exact bk_7 (by assumption) | exact bk_8 (by assumption) | exact sh_ring _ (by first | assumption | omega) | exact sh_imgs _ (by first | assumption | omega)) (ro_X12_16 (by assumption)) ?_
          refine v_bipush (v := nI 32) dX12_personLine_57 (by decide) ?_
          refine v_iload_1 dX12_personLine_59 ?_
          refine v_iadd dX12_personLine_60 ?_
          rw [nI_add]
          refine v_aload_0 dX12_personLine_61 ?_
          refine v_ldcSw (i := 47) dX12_personLine_62 (by decide) rfl rfl ?_
          refine v_iconst (v := nI 0) dX12_personLine_65 (by decide) ?_
          refine v_bipush (v := nI 99) dX12_personLine_66 (by decide) ?_
          refine u_callV_3 dX12_personLine_68 ml_X12_235 mv_X12_told (by first | assumption | rfl | exact led_1 (by assumption) | exact led_2 (by assumption) | exact bk_m (by assumption) (by first | assumption | omega) | exact bk_p (by assumption) (by first | assumption | omega) | exact bk_o (by assumption) (by first | assumption | omega) | exact bk_s (by assumption) (by first | assumption | omega) | exact bk_1 (by assumption) | exact bk_2 (by assumption) | exact bk_3 (by assumption) | exact bk_4 (by assumption) | exact bk_5 (by assumption) | exact bk_6 (by assumption) | exact bk_7 (by assumption) | exact bk_8 (by assumption) | exact sh_ring _ (by first | assumption | omega) | exact sh_imgs _ (by first | assumption | omega)) (by decide) rfl (by decide) (Nat.le_of_ble_eq_true rfl) (c_X12_told (i := 47) (lo := 0) (hi := 99) (s := u2) (by decide) (by omega) (by omega) hR hL (fun f p q J j1 j2 => ?_) (fun v3 u3 q3 e3 g3 h3 w3 J3 j31 j32 => ?_))
          · have q : qWhole tp sz (wd 19) 0 99 u2 = .inl (f, p) := q
            have jf := jk.trans j2.k
            refine u_iast dX12_personLine_71 (by first | assumption | rfl | exact led_1 (by assumption) | exact led_2 (by assumption) | exact bk_m (by assumption) (by first | assumption | omega) | exact bk_p (by assumption) (by first | assumption | omega) | exact bk_o (by assumption) (by first | assumption | omega) | exact bk_s (by assumption) (by first | assumption | omega) | exact bk_1 (by assumption) | exact bk_2 (by assumption) | exact bk_3 (by assumption) | exact bk_4 (by assumption) | exact bk_5 (by assumption) | exact bk_6 (by assumption) | exact bk_7 (by assumption) | exact bk_8 (by assumption) | exact sh_ring _ (by first | assumption | omega) | exact sh_imgs _ (by first | assumption | omega)) (by first | with_reducible rfl | (simp only [nlit, nI_add, pk_mul]; with_reducible rfl) | rfl) (by first | assumption | omega) (by first | assumption | decide) ?_
            refine v_aload_0 dX12_personLine_72 ?_
            refine v_ldcS (i := 38) dX12_personLine_73 (by decide) rfl rfl ?_
            refine u_callV_1 dX12_personLine_75 ml_X12_116 mv_X12_takes (by first | assumption | rfl | exact led_1 (by assumption) | exact led_2 (by assumption) | exact bk_m (by assumption) (by first | assumption | omega) | exact bk_p (by assumption) (by first | assumption | omega) | exact bk_o (by assumption) (by first | assumption | omega) | exact bk_s (by assumption) (by first | assumption | omega) | exact bk_1 (by assumption) | exact bk_2 (by assumption) | exact bk_3 (by assumption) | exact bk_4 (by assumption) | exact bk_5 (by assumption) | exact bk_6 (by assumption) | exact bk_7 (by assumption) | exact bk_8 (by assumption) | exact sh_ring _ (by first | assumption | omega) | exact sh_imgs _ (by first | assumption | omega)) (by decide) rfl (by decide) (Nat.le_of_ble_eq_true rfl) (z_X12_takes (by (try simp only [ui_ne (show (157 : Nat) ≠ 161 by decide)]); exact j1.1) ?_)
            refine v_if_eq (tgt := 91) dX12_personLine_78 (by decide) (fun hc78 => ?_) (fun hc78 => ?_)
            · (first | rw [bI_0, Bool.not_eq_false] at hc78 | rw [bI_0] at hc78 | rw [show (0 : Int32) = nI 0 from rfl, nI_eq (by omega) (by omega)] at hc78 | skip)
              refine v_aload_0 dX12_personLine_91 ?_
              refine v_ldcS (i := 39) dX12_personLine_92 (by decide) rfl rfl ?_
              refine u_callV_1 dX12_personLine_94 ml_X12_116 mv_X12_takes (by first | assumption | rfl | exact led_1 (by assumption) | exact led_2 (by assumption) | exact bk_m (by assumption) (by first | assumption | omega) | exact bk_p (by assumption) (by first | assumption | omega) | exact bk_o (by assumption) (by first | assumption | omega) | exact bk_s (by assumption) (by first | assumption | omega) | exact bk_1 (by assumption) | exact bk_2 (by assumption) | exact bk_3 (by assumption) | exact bk_4 (by assumption) | exact bk_5 (by assumption) | exact bk_6 (by assumption) | exact bk_7 (by assumption) | exact bk_8 (by assumption) | exact sh_ring _ (by first | assumption | omega) | exact sh_imgs _ (by first | assumption | omega)) (by decide) rfl (by decide) (Nat.le_of_ble_eq_true rfl) (z_X12_takes (by (try simp only [ui_ne (show (157 : Nat) ≠ 161 by decide)]); exact j1.1) ?_)
              refine v_if_eq (tgt := 115) dX12_personLine_97 (by decide) (fun hc97 => ?_) (fun hc97 => ?_)
              · (first | rw [bI_0, Bool.not_eq_false] at hc97 | rw [bI_0] at hc97 | rw [show (0 : Int32) = nI 0 from rfl, nI_eq (by omega) (by omega)] at hc97 | skip)
                refine v_aload_0 dX12_personLine_115 ?_
                refine v_ldcS (i := 40) dX12_personLine_116 (by decide) rfl rfl ?_
                refine u_callV_1 dX12_personLine_118 ml_X12_116 mv_X12_takes (by first | assumption | rfl | exact led_1 (by assumption) | exact led_2 (by assumption) | exact bk_m (by assumption) (by first | assumption | omega) | exact bk_p (by assumption) (by first | assumption | omega) | exact bk_o (by assumption) (by first | assumption | omega) | exact bk_s (by assumption) (by first | assumption | omega) | exact bk_1 (by assumption) | exact bk_2 (by assumption) | exact bk_3 (by assumption) | exact bk_4 (by assumption) | exact bk_5 (by assumption) | exact bk_6 (by assumption) | exact bk_7 (by assumption) | exact bk_8 (by assumption) | exact sh_ring _ (by first | assumption | omega) | exact sh_imgs _ (by first | assumption | omega)) (by decide) rfl (by decide) (Nat.le_of_ble_eq_true rfl) (z_X12_takes (by (try simp only [ui_ne (show (157 : Nat) ≠ 161 by decide)]); exact j1.1) ?_)
                refine v_if_eq (tgt := 164) dX12_personLine_121 (by decide) (fun hc121 => ?_) (fun hc121 => ?_)
                · (first | rw [bI_0, Bool.not_eq_false] at hc121 | rw [bI_0] at hc121 | rw [show (0 : Int32) = nI 0 from rfl, nI_eq (by omega) (by omega)] at hc121 | skip)
                  refine v_aload_0 dX12_personLine_164 ?_
                  refine u_getR dX12_personLine_165 gf_X12_23 (by first | assumption | rfl | exact led_1 (by assumption) | exact led_2 (by assumption) | exact bk_m (by assumption) (by first | assumption | omega) | exact bk_p (by assumption) (by first | assumption | omega) | exact bk_o (by assumption) (by first | assumption | omega) | exact bk_s (by assumption) (by first | assumption | omega) | exact bk_1 (by assumption) | exact bk_2 (by assumption) | exact bk_3 (by assumption) | exact bk_4 (by assumption) | exact bk_5 (by assumption) | exact bk_6 (by assumption) | exact bk_7 (by assumption) | exact bk_8 (by assumption) | exact sh_ring _ (by first | assumption | omega) | exact sh_imgs _ (by first | assumption | omega)) (ro_X12_16 (by assumption)) ?_
                  refine v_iconst (v := nI 3) dX12_personLine_168 (by decide) ?_
                  refine v_dup2 dX12_personLine_169 rfl rfl ?_
                  refine u_iald dX12_personLine_170 (by first | assumption | rfl | exact led_1 (by assumption) | exact led_2 (by assumption) | exact bk_m (by assumption) (by first | assumption | omega) | exact bk_p (by assumption) (by first | assumption | omega) | exact bk_o (by assumption) (by first | assumption | omega) | exact bk_s (by assumption) (by first | assumption | omega) | exact bk_1 (by assumption) | exact bk_2 (by assumption) | exact bk_3 (by assumption) | exact bk_4 (by assumption) | exact bk_5 (by assumption) | exact bk_6 (by assumption) | exact bk_7 (by assumption) | exact bk_8 (by assumption) | exact sh_ring _ (by first | assumption | omega) | exact sh_imgs _ (by first | assumption | omega)) (by first | with_reducible rfl | (simp only [nlit, nI_add, pk_mul]; with_reducible rfl) | rfl) (by first | assumption | omega) (by first | assumption | decide) ?_
                  refine v_iconst (v := nI 1) dX12_personLine_171 (by decide) ?_
                  refine v_iadd dX12_personLine_172 ?_
                  refine u_iast dX12_personLine_173 (by first | assumption | rfl | exact led_1 (by assumption) | exact led_2 (by assumption) | exact bk_m (by assumption) (by first | assumption | omega) | exact bk_p (by assumption) (by first | assumption | omega) | exact bk_o (by assumption) (by first | assumption | omega) | exact bk_s (by assumption) (by first | assumption | omega) | exact bk_1 (by assumption) | exact bk_2 (by assumption) | exact bk_3 (by assumption) | exact bk_4 (by assumption) | exact bk_5 (by assumption) | exact bk_6 (by assumption) | exact bk_7 (by assumption) | exact bk_8 (by assumption) | exact sh_ring _ (by first | assumption | omega) | exact sh_imgs _ (by first | assumption | omega)) (by first | with_reducible rfl | (simp only [nlit, nI_add, pk_mul]; with_reducible rfl) | rfl) (by first | assumption | omega) (by first | assumption | decide) ?_
                  refine v_vret dX12_personLine_174 rfl rfl rfl rfl ?_
                  refine hF f p (by rw [lPerson, bnd_r q1, bnd_r q2, bnd_l q]) _ ?_ ?_
                  · (repeat (first | exact j1 | apply FlM.put))
                  · (repeat (first | exact jf | apply FrK.up))
                · exact absurd rfl hc121
              · exact absurd rfl hc97
            · exact absurd rfl hc78
          · have q3 : qWhole tp sz (wd 19) 0 99 u2 = .inr (v3, u3) := q3
            have es3 : u3.2 = (kept tp sz (11 + s.2.1 3) s).2 := e3.trans es2
            have hL := j31
            have jk := jk.trans j32.k
            refine u_iast dX12_personLine_71 (by first | assumption | rfl | exact led_1 (by assumption) | exact led_2 (by assumption) | exact bk_m (by assumption) (by first | assumption | omega) | exact bk_p (by assumption) (by first | assumption | omega) | exact bk_o (by assumption) (by first | assumption | omega) | exact bk_s (by assumption) (by first | assumption | omega) | exact bk_1 (by assumption) | exact bk_2 (by assumption) | exact bk_3 (by assumption) | exact bk_4 (by assumption) | exact bk_5 (by assumption) | exact bk_6 (by assumption) | exact bk_7 (by assumption) | exact bk_8 (by assumption) | exact sh_ring _ (by first | assumption | omega) | exact sh_imgs _ (by first | assumption | omega)) (by first | with_reducible rfl | (simp only [nlit, nI_add, pk_mul]; with_reducible rfl) | rfl) (by first | assumption | omega) (by first | assumption | decide) ?_
            have hL := hL.put (j := 32 + s.2.1 3) (v := v3) (by omega)
            have hG := hG.put (j := 32 + s.2.1 3) (v := v3) (by omega)
            have jk := jk.up (j := 32 + s.2.1 3) (v := nI (v3))
            have hc_3 := (setF_n (k := 32 + s.2.1 3) (v := v3) (show 3 ≠ 32 + s.2.1 3 by omega)).trans hc_3
            refine v_aload_0 dX12_personLine_72 ?_
            refine v_ldcS (i := 38) dX12_personLine_73 (by decide) rfl rfl ?_
            refine u_callV_1 dX12_personLine_75 ml_X12_116 mv_X12_takes (by first | assumption | rfl | exact led_1 (by assumption) | exact led_2 (by assumption) | exact bk_m (by assumption) (by first | assumption | omega) | exact bk_p (by assumption) (by first | assumption | omega) | exact bk_o (by assumption) (by first | assumption | omega) | exact bk_s (by assumption) (by first | assumption | omega) | exact bk_1 (by assumption) | exact bk_2 (by assumption) | exact bk_3 (by assumption) | exact bk_4 (by assumption) | exact bk_5 (by assumption) | exact bk_6 (by assumption) | exact bk_7 (by assumption) | exact bk_8 (by assumption) | exact sh_ring _ (by first | assumption | omega) | exact sh_imgs _ (by first | assumption | omega)) (by decide) rfl (by decide) (Nat.le_of_ble_eq_true rfl) (c_X12_takes (i := 38) (by decide) hR hL (fun w => ?_) (fun w J40 j401 j402 => ?_))
            · have qc : qChild tp sz u3 = (0, u3) := by rw [qChild, if_neg (by rw [show isW tp sz (wd 9) u3.1 = false from w]; decide)]
              refine v_if_eq (tgt := 91) dX12_personLine_78 (by decide) (fun hc78 => ?_) (fun hc78 => ?_)
              · (first | rw [bI_0, Bool.not_eq_false] at hc78 | rw [bI_0] at hc78 | rw [show (0 : Int32) = nI 0 from rfl, nI_eq (by omega) (by omega)] at hc78 | skip)
                refine v_aload_0 dX12_personLine_91 ?_
                refine v_ldcS (i := 39) dX12_personLine_92 (by decide) rfl rfl ?_
                refine u_callV_1 dX12_personLine_94 ml_X12_116 mv_X12_takes (by first | assumption | rfl | exact led_1 (by assumption) | exact led_2 (by assumption) | exact bk_m (by assumption) (by first | assumption | omega) | exact bk_p (by assumption) (by first | assumption | omega) | exact bk_o (by assumption) (by first | assumption | omega) | exact bk_s (by assumption) (by first | assumption | omega) | exact bk_1 (by assumption) | exact bk_2 (by assumption) | exact bk_3 (by assumption) | exact bk_4 (by assumption) | exact bk_5 (by assumption) | exact bk_6 (by assumption) | exact bk_7 (by assumption) | exact bk_8 (by assumption) | exact sh_ring _ (by first | assumption | omega) | exact sh_imgs _ (by first | assumption | omega)) (by decide) rfl (by decide) (Nat.le_of_ble_eq_true rfl) (c_X12_takes (i := 39) (by decide) hR hL (fun w => ?_) (fun w J40 j401 j402 => ?_))
                · have q4 : qHabit tp sz (qChild tp sz u3).2 = .inr (0, u3) := by rw [qc, qHabit, if_neg (by rw [show isW tp sz (wd 10) u3.1 = false from w]; decide)]
                  refine v_if_eq (tgt := 115) dX12_personLine_97 (by decide) (fun hc97 => ?_) (fun hc97 => ?_)
                  · (first | rw [bI_0, Bool.not_eq_false] at hc97 | rw [bI_0] at hc97 | rw [show (0 : Int32) = nI 0 from rfl, nI_eq (by omega) (by omega)] at hc97 | skip)
                    refine v_aload_0 dX12_personLine_115 ?_
                    refine v_ldcS (i := 40) dX12_personLine_116 (by decide) rfl rfl ?_
                    refine u_callV_1 dX12_personLine_118 ml_X12_116 mv_X12_takes (by first | assumption | rfl | exact led_1 (by assumption) | exact led_2 (by assumption) | exact bk_m (by assumption) (by first | assumption | omega) | exact bk_p (by assumption) (by first | assumption | omega) | exact bk_o (by assumption) (by first | assumption | omega) | exact bk_s (by assumption) (by first | assumption | omega) | exact bk_1 (by assumption) | exact bk_2 (by assumption) | exact bk_3 (by assumption) | exact bk_4 (by assumption) | exact bk_5 (by assumption) | exact bk_6 (by assumption) | exact bk_7 (by assumption) | exact bk_8 (by assumption) | exact sh_ring _ (by first | assumption | omega) | exact sh_imgs _ (by first | assumption | omega)) (by decide) rfl (by decide) (Nat.le_of_ble_eq_true rfl) (c_X12_takes (i := 40) (by decide) hR hL (fun w => ?_) (fun w J50 j501 j502 => ?_))
                    · have q5 : qDoes tp sz u3 = .inr (0, u3) := by rw [qDoes, if_neg (by rw [show isW tp sz (wd 11) u3.1 = false from w]; decide)]
                      refine v_if_eq (tgt := 164) dX12_personLine_121 (by decide) (fun hc121 => ?_) (fun hc121 => ?_)
                      · (first | rw [bI_0, Bool.not_eq_false] at hc121 | rw [bI_0] at hc121 | rw [show (0 : Int32) = nI 0 from rfl, nI_eq (by omega) (by omega)] at hc121 | skip)
                        refine v_aload_0 dX12_personLine_164 ?_
                        refine u_getR dX12_personLine_165 gf_X12_23 (by first | assumption | rfl | exact led_1 (by assumption) | exact led_2 (by assumption) | exact bk_m (by assumption) (by first | assumption | omega) | exact bk_p (by assumption) (by first | assumption | omega) | exact bk_o (by assumption) (by first | assumption | omega) | exact bk_s (by assumption) (by first | assumption | omega) | exact bk_1 (by assumption) | exact bk_2 (by assumption) | exact bk_3 (by assumption) | exact bk_4 (by assumption) | exact bk_5 (by assumption) | exact bk_6 (by assumption) | exact bk_7 (by assumption) | exact bk_8 (by assumption) | exact sh_ring _ (by first | assumption | omega) | exact sh_imgs _ (by first | assumption | omega)) (ro_X12_16 (by assumption)) ?_
                        refine v_iconst (v := nI 3) dX12_personLine_168 (by decide) ?_
                        refine v_dup2 dX12_personLine_169 rfl rfl ?_
                        refine u_iald dX12_personLine_170 (by first | assumption | rfl | exact led_1 (by assumption) | exact led_2 (by assumption) | exact bk_m (by assumption) (by first | assumption | omega) | exact bk_p (by assumption) (by first | assumption | omega) | exact bk_o (by assumption) (by first | assumption | omega) | exact bk_s (by assumption) (by first | assumption | omega) | exact bk_1 (by assumption) | exact bk_2 (by assumption) | exact bk_3 (by assumption) | exact bk_4 (by assumption) | exact bk_5 (by assumption) | exact bk_6 (by assumption) | exact bk_7 (by assumption) | exact bk_8 (by assumption) | exact sh_ring _ (by first | assumption | omega) | exact sh_imgs _ (by first | assumption | omega)) (by first | with_reducible rfl | (simp only [nlit, nI_add, pk_mul]; with_reducible rfl) | rfl) (by first | assumption | omega) (by first | assumption | decide) ?_
                        rw [(hL.2.2.2.2.1 3 (by decide)).1, hc_3]
                        refine v_iconst (v := nI 1) dX12_personLine_171 (by decide) ?_
                        refine v_iadd dX12_personLine_172 ?_
                        rw [nI_add]
                        refine u_iast dX12_personLine_173 (by first | assumption | rfl | exact led_1 (by assumption) | exact led_2 (by assumption) | exact bk_m (by assumption) (by first | assumption | omega) | exact bk_p (by assumption) (by first | assumption | omega) | exact bk_o (by assumption) (by first | assumption | omega) | exact bk_s (by assumption) (by first | assumption | omega) | exact bk_1 (by assumption) | exact bk_2 (by assumption) | exact bk_3 (by assumption) | exact bk_4 (by assumption) | exact bk_5 (by assumption) | exact bk_6 (by assumption) | exact bk_7 (by assumption) | exact bk_8 (by assumption) | exact sh_ring _ (by first | assumption | omega) | exact sh_imgs _ (by first | assumption | omega)) (by first | with_reducible rfl | (simp only [nlit, nI_add, pk_mul]; with_reducible rfl) | rfl) (by first | assumption | omega) (by first | assumption | decide) ?_
                        have hL := hL.put (j := 3) (v := s.2.1 3 + 1) (by omega)
                        have hG := hG.put (j := 3) (v := s.2.1 3 + 1) (by omega)
                        have jk := jk.up (j := 3) (v := nI (s.2.1 3 + 1))
                        refine v_vret dX12_personLine_174 rfl rfl rfl rfl ?_
                        refine hY _ (by rw [lPerson, bnd_r q1, bnd_r q2, bnd_r q3, bnd_r q4, bnd_r q5, qc]) _ ?_ jk
                        show LvM _ _ _ _ (psF u3.2.1 (s.2.1 3) v2 v3 0 0 0) u3.2.2
                        rw [es3, psF, setF_id (k := 38 + s.2.1 3) (v := 0) (by (repeat rw [setF_n (by omega)]); exact hz38), setF_id (k := 44 + s.2.1 3) (v := 0) (by (repeat rw [setF_n (by omega)]); exact hz44), setF_id (k := 50 + s.2.1 3) (v := 0) (by (repeat rw [setF_n (by omega)]); exact hz50)]
                        exact hL
                      · exact absurd rfl hc121
                    · have w : isW tp sz (wd 11) u3.1 = true := w
                      have hL := j501
                      have jk := jk.trans j502.k
                      refine v_if_eq (tgt := 164) dX12_personLine_121 (by decide) (fun hc121 => ?_) (fun hc121 => ?_)
                      · exact absurd hc121 (by decide)
                      · (first | rw [bI_0, Bool.not_eq_false] at hc121 | rw [bI_0] at hc121 | rw [show (0 : Int32) = nI 0 from rfl, nI_eq (by omega) (by omega)] at hc121 | skip)
                        refine l_does (U := nx tp sz u3) (G := _) (l := s.2.2) hR (by show NmE _ u3.2.1; rw [es3]; exact hG) (fun f q qq J x j1 jf => ?_) (fun set t qq et hs J j1 jf => ?_) _ _ hL jk
                        · refine v_aload_0 dX12_personLine_154 ?_
                          refine u_getR dX12_personLine_155 gf_X12_23 (by first | assumption | rfl | exact led_1 (by assumption) | exact led_2 (by assumption) | exact bk_m (by assumption) (by first | assumption | omega) | exact bk_p (by assumption) (by first | assumption | omega) | exact bk_o (by assumption) (by first | assumption | omega) | exact bk_s (by assumption) (by first | assumption | omega) | exact bk_1 (by assumption) | exact bk_2 (by assumption) | exact bk_3 (by assumption) | exact bk_4 (by assumption) | exact bk_5 (by assumption) | exact bk_6 (by assumption) | exact bk_7 (by assumption) | exact bk_8 (by assumption) | exact sh_ring _ (by first | assumption | omega) | exact sh_imgs _ (by first | assumption | omega)) (ro_X12_16 (by assumption)) ?_
                          refine v_bipush (v := nI 50) dX12_personLine_158 (by decide) ?_
                          refine v_iload_1 dX12_personLine_160 ?_
                          refine v_iadd dX12_personLine_161 ?_
                          refine v_iload_2 dX12_personLine_162 ?_
                          refine u_iast dX12_personLine_163 (by first | assumption | rfl | exact led_1 (by assumption) | exact led_2 (by assumption) | exact bk_m (by assumption) (by first | assumption | omega) | exact bk_p (by assumption) (by first | assumption | omega) | exact bk_o (by assumption) (by first | assumption | omega) | exact bk_s (by assumption) (by first | assumption | omega) | exact bk_1 (by assumption) | exact bk_2 (by assumption) | exact bk_3 (by assumption) | exact bk_4 (by assumption) | exact bk_5 (by assumption) | exact bk_6 (by assumption) | exact bk_7 (by assumption) | exact bk_8 (by assumption) | exact sh_ring _ (by first | assumption | omega) | exact sh_imgs _ (by first | assumption | omega)) (by first | with_reducible rfl | (simp only [nlit, nI_add, pk_mul]; with_reducible rfl) | rfl) (by first | assumption | omega) (by first | assumption | decide) ?_
                          refine v_aload_0 dX12_personLine_164 ?_
                          refine u_getR dX12_personLine_165 gf_X12_23 (by first | assumption | rfl | exact led_1 (by assumption) | exact led_2 (by assumption) | exact bk_m (by assumption) (by first | assumption | omega) | exact bk_p (by assumption) (by first | assumption | omega) | exact bk_o (by assumption) (by first | assumption | omega) | exact bk_s (by assumption) (by first | assumption | omega) | exact bk_1 (by assumption) | exact bk_2 (by assumption) | exact bk_3 (by assumption) | exact bk_4 (by assumption) | exact bk_5 (by assumption) | exact bk_6 (by assumption) | exact bk_7 (by assumption) | exact bk_8 (by assumption) | exact sh_ring _ (by first | assumption | omega) | exact sh_imgs _ (by first | assumption | omega)) (ro_X12_16 (by assumption)) ?_
                          refine v_iconst (v := nI 3) dX12_personLine_168 (by decide) ?_
                          refine v_dup2 dX12_personLine_169 rfl rfl ?_
                          refine u_iald dX12_personLine_170 (by first | assumption | rfl | exact led_1 (by assumption) | exact led_2 (by assumption) | exact bk_m (by assumption) (by first | assumption | omega) | exact bk_p (by assumption) (by first | assumption | omega) | exact bk_o (by assumption) (by first | assumption | omega) | exact bk_s (by assumption) (by first | assumption | omega) | exact bk_1 (by assumption) | exact bk_2 (by assumption) | exact bk_3 (by assumption) | exact bk_4 (by assumption) | exact bk_5 (by assumption) | exact bk_6 (by assumption) | exact bk_7 (by assumption) | exact bk_8 (by assumption) | exact sh_ring _ (by first | assumption | omega) | exact sh_imgs _ (by first | assumption | omega)) (by first | with_reducible rfl | (simp only [nlit, nI_add, pk_mul]; with_reducible rfl) | rfl) (by first | assumption | omega) (by first | assumption | decide) ?_
                          refine v_iconst (v := nI 1) dX12_personLine_171 (by decide) ?_
                          refine v_iadd dX12_personLine_172 ?_
                          refine u_iast dX12_personLine_173 (by first | assumption | rfl | exact led_1 (by assumption) | exact led_2 (by assumption) | exact bk_m (by assumption) (by first | assumption | omega) | exact bk_p (by assumption) (by first | assumption | omega) | exact bk_o (by assumption) (by first | assumption | omega) | exact bk_s (by assumption) (by first | assumption | omega) | exact bk_1 (by assumption) | exact bk_2 (by assumption) | exact bk_3 (by assumption) | exact bk_4 (by assumption) | exact bk_5 (by assumption) | exact bk_6 (by assumption) | exact bk_7 (by assumption) | exact bk_8 (by assumption) | exact sh_ring _ (by first | assumption | omega) | exact sh_imgs _ (by first | assumption | omega)) (by first | with_reducible rfl | (simp only [nlit, nI_add, pk_mul]; with_reducible rfl) | rfl) (by first | assumption | omega) (by first | assumption | decide) ?_
                          refine v_vret dX12_personLine_174 rfl rfl rfl rfl ?_
                          refine hF f q (by rw [lPerson, bnd_r q1, bnd_r q2, bnd_r q3, bnd_r q4, bnd_l (show qDoes tp sz u3 = .inl (f, q) by rw [qDoes, if_pos w]; exact qq)]) _ ?_ ?_
                          · (repeat (first | exact j1 | apply FlM.put))
                          · (repeat (first | exact jf | apply FrK.up))
                        · have q5 : qDoes tp sz u3 = .inr (set, t) := by rw [qDoes, if_pos w]; exact qq
                          have es5 : t.2 = (kept tp sz (11 + s.2.1 3) s).2 := et.trans es3
                          have hL := j1
                          have jk := jf
                          refine v_aload_0 dX12_personLine_154 ?_
                          refine u_getR dX12_personLine_155 gf_X12_23 (by first | assumption | rfl | exact led_1 (by assumption) | exact led_2 (by assumption) | exact bk_m (by assumption) (by first | assumption | omega) | exact bk_p (by assumption) (by first | assumption | omega) | exact bk_o (by assumption) (by first | assumption | omega) | exact bk_s (by assumption) (by first | assumption | omega) | exact bk_1 (by assumption) | exact bk_2 (by assumption) | exact bk_3 (by assumption) | exact bk_4 (by assumption) | exact bk_5 (by assumption) | exact bk_6 (by assumption) | exact bk_7 (by assumption) | exact bk_8 (by assumption) | exact sh_ring _ (by first | assumption | omega) | exact sh_imgs _ (by first | assumption | omega)) (ro_X12_16 (by assumption)) ?_
                          refine v_bipush (v := nI 50) dX12_personLine_158 (by decide) ?_
                          refine v_iload_1 dX12_personLine_160 ?_
                          refine v_iadd dX12_personLine_161 ?_
                          rw [nI_add]
                          refine v_iload_2 dX12_personLine_162 ?_
                          refine u_iast dX12_personLine_163 (by first | assumption | rfl | exact led_1 (by assumption) | exact led_2 (by assumption) | exact bk_m (by assumption) (by first | assumption | omega) | exact bk_p (by assumption) (by first | assumption | omega) | exact bk_o (by assumption) (by first | assumption | omega) | exact bk_s (by assumption) (by first | assumption | omega) | exact bk_1 (by assumption) | exact bk_2 (by assumption) | exact bk_3 (by assumption) | exact bk_4 (by assumption) | exact bk_5 (by assumption) | exact bk_6 (by assumption) | exact bk_7 (by assumption) | exact bk_8 (by assumption) | exact sh_ring _ (by first | assumption | omega) | exact sh_imgs _ (by first | assumption | omega)) (by first | with_reducible rfl | (simp only [nlit, nI_add, pk_mul]; with_reducible rfl) | rfl) (by first | assumption | omega) (by first | assumption | decide) ?_
                          have hL := hL.put (j := 50 + s.2.1 3) (v := set) (by omega)
                          have hG := hG.put (j := 50 + s.2.1 3) (v := set) (by omega)
                          have jk := jk.up (j := 50 + s.2.1 3) (v := nI (set))
                          have hc_3 := (setF_n (k := 50 + s.2.1 3) (v := set) (show 3 ≠ 50 + s.2.1 3 by omega)).trans hc_3
                          refine v_aload_0 dX12_personLine_164 ?_
                          refine u_getR dX12_personLine_165 gf_X12_23 (by first | assumption | rfl | exact led_1 (by assumption) | exact led_2 (by assumption) | exact bk_m (by assumption) (by first | assumption | omega) | exact bk_p (by assumption) (by first | assumption | omega) | exact bk_o (by assumption) (by first | assumption | omega) | exact bk_s (by assumption) (by first | assumption | omega) | exact bk_1 (by assumption) | exact bk_2 (by assumption) | exact bk_3 (by assumption) | exact bk_4 (by assumption) | exact bk_5 (by assumption) | exact bk_6 (by assumption) | exact bk_7 (by assumption) | exact bk_8 (by assumption) | exact sh_ring _ (by first | assumption | omega) | exact sh_imgs _ (by first | assumption | omega)) (ro_X12_16 (by assumption)) ?_
                          refine v_iconst (v := nI 3) dX12_personLine_168 (by decide) ?_
                          refine v_dup2 dX12_personLine_169 rfl rfl ?_
                          refine u_iald dX12_personLine_170 (by first | assumption | rfl | exact led_1 (by assumption) | exact led_2 (by assumption) | exact bk_m (by assumption) (by first | assumption | omega) | exact bk_p (by assumption) (by first | assumption | omega) | exact bk_o (by assumption) (by first | assumption | omega) | exact bk_s (by assumption) (by first | assumption | omega) | exact bk_1 (by assumption) | exact bk_2 (by assumption) | exact bk_3 (by assumption) | exact bk_4 (by assumption) | exact bk_5 (by assumption) | exact bk_6 (by assumption) | exact bk_7 (by assumption) | exact bk_8 (by assumption) | exact sh_ring _ (by first | assumption | omega) | exact sh_imgs _ (by first | assumption | omega)) (by first | with_reducible rfl | (simp only [nlit, nI_add, pk_mul]; with_reducible rfl) | rfl) (by first | assumption | omega) (by first | assumption | decide) ?_
                          rw [(hL.2.2.2.2.1 3 (by decide)).1, hc_3]
                          refine v_iconst (v := nI 1) dX12_personLine_171 (by decide) ?_
                          refine v_iadd dX12_personLine_172 ?_
                          rw [nI_add]
                          refine u_iast dX12_personLine_173 (by first | assumption | rfl | exact led_1 (by assumption) | exact led_2 (by assumption) | exact bk_m (by assumption) (by first | assumption | omega) | exact bk_p (by assumption) (by first | assumption | omega) | exact bk_o (by assumption) (by first | assumption | omega) | exact bk_s (by assumption) (by first | assumption | omega) | exact bk_1 (by assumption) | exact bk_2 (by assumption) | exact bk_3 (by assumption) | exact bk_4 (by assumption) | exact bk_5 (by assumption) | exact bk_6 (by assumption) | exact bk_7 (by assumption) | exact bk_8 (by assumption) | exact sh_ring _ (by first | assumption | omega) | exact sh_imgs _ (by first | assumption | omega)) (by first | with_reducible rfl | (simp only [nlit, nI_add, pk_mul]; with_reducible rfl) | rfl) (by first | assumption | omega) (by first | assumption | decide) ?_
                          have hL := hL.put (j := 3) (v := s.2.1 3 + 1) (by omega)
                          have hG := hG.put (j := 3) (v := s.2.1 3 + 1) (by omega)
                          have jk := jk.up (j := 3) (v := nI (s.2.1 3 + 1))
                          refine v_vret dX12_personLine_174 rfl rfl rfl rfl ?_
                          refine hY _ (by rw [lPerson, bnd_r q1, bnd_r q2, bnd_r q3, bnd_r q4, bnd_r q5, qc]) _ ?_ jk
                          show LvM _ _ _ _ (psF t.2.1 (s.2.1 3) v2 v3 0 0 set) t.2.2
                          rw [es5, psF, setF_id (k := 38 + s.2.1 3) (v := 0) (by (repeat rw [setF_n (by omega)]); exact hz38), setF_id (k := 44 + s.2.1 3) (v := 0) (by (repeat rw [setF_n (by omega)]); exact hz44)]
                          exact hL
                  · exact absurd rfl hc97
                · have w : isW tp sz (wd 10) u3.1 = true := w
                  have hL := j401
                  have jk := jk.trans j402.k
                  refine v_if_eq (tgt := 115) dX12_personLine_97 (by decide) (fun hc97 => ?_) (fun hc97 => ?_)
                  · exact absurd hc97 (by decide)
                  · (first | rw [bI_0, Bool.not_eq_false] at hc97 | rw [bI_0] at hc97 | rw [show (0 : Int32) = nI 0 from rfl, nI_eq (by omega) (by omega)] at hc97 | skip)
                    refine v_aload_0 dX12_personLine_100 ?_
                    refine u_getR dX12_personLine_101 gf_X12_23 (by first | assumption | rfl | exact led_1 (by assumption) | exact led_2 (by assumption) | exact bk_m (by assumption) (by first | assumption | omega) | exact bk_p (by assumption) (by first | assumption | omega) | exact bk_o (by assumption) (by first | assumption | omega) | exact bk_s (by assumption) (by first | assumption | omega) | exact bk_1 (by assumption) | exact bk_2 (by assumption) | exact bk_3 (by assumption) | exact bk_4 (by assumption) | exact bk_5 (by assumption) | exact bk_6 (by assumption) | exact bk_7 (by assumption) | exact bk_8 (by assumption) | exact sh_ring _ (by first | assumption | omega) | exact sh_imgs _ (by first | assumption | omega)) (ro_X12_16 (by assumption)) ?_
                    refine v_bipush (v := nI 44) dX12_personLine_104 (by decide) ?_
                    refine v_iload_1 dX12_personLine_106 ?_
                    refine v_iadd dX12_personLine_107 ?_
                    rw [nI_add]
                    refine v_aload_0 dX12_personLine_108 ?_
                    refine v_iconst (v := nI 1) dX12_personLine_109 (by decide) ?_
                    refine v_iconst (v := nI 4) dX12_personLine_110 (by decide) ?_
                    refine u_callV_2 dX12_personLine_111 ml_X12_170 mv_X12_number (by first | assumption | rfl | exact led_1 (by assumption) | exact led_2 (by assumption) | exact bk_m (by assumption) (by first | assumption | omega) | exact bk_p (by assumption) (by first | assumption | omega) | exact bk_o (by assumption) (by first | assumption | omega) | exact bk_s (by assumption) (by first | assumption | omega) | exact bk_1 (by assumption) | exact bk_2 (by assumption) | exact bk_3 (by assumption) | exact bk_4 (by assumption) | exact bk_5 (by assumption) | exact bk_6 (by assumption) | exact bk_7 (by assumption) | exact bk_8 (by assumption) | exact sh_ring _ (by first | assumption | omega) | exact sh_imgs _ (by first | assumption | omega)) (by decide) rfl (by decide) (Nat.le_of_ble_eq_true rfl) (c_X12_number (lo := 1) (hi := 4) (s := nx tp sz u3) (by omega) (by omega) hR hL (fun f p q J j1 j2 => ?_) (fun v4 u4 q4 e4 g4 h4 w4 J4 j41 j42 => ?_))
                    · have q : qHabit tp sz (qChild tp sz u3).2 = .inl (f, p) := by rw [qc, qHabit, if_pos w, qWhole, bnd_r (show qWord tp sz (wd 10) u3 = .inr (nx tp sz u3) by unfold qWord; rw [if_pos w])]; exact q
                      have jf := jk.trans j2.k
                      refine u_iast dX12_personLine_114 (by first | assumption | rfl | exact led_1 (by assumption) | exact led_2 (by assumption) | exact bk_m (by assumption) (by first | assumption | omega) | exact bk_p (by assumption) (by first | assumption | omega) | exact bk_o (by assumption) (by first | assumption | omega) | exact bk_s (by assumption) (by first | assumption | omega) | exact bk_1 (by assumption) | exact bk_2 (by assumption) | exact bk_3 (by assumption) | exact bk_4 (by assumption) | exact bk_5 (by assumption) | exact bk_6 (by assumption) | exact bk_7 (by assumption) | exact bk_8 (by assumption) | exact sh_ring _ (by first | assumption | omega) | exact sh_imgs _ (by first | assumption | omega)) (by first | with_reducible rfl | (simp only [nlit, nI_add, pk_mul]; with_reducible rfl) | rfl) (by first | assumption | omega) (by first | assumption | decide) ?_
                      refine v_aload_0 dX12_personLine_115 ?_
                      refine v_ldcS (i := 40) dX12_personLine_116 (by decide) rfl rfl ?_
                      refine u_callV_1 dX12_personLine_118 ml_X12_116 mv_X12_takes (by first | assumption | rfl | exact led_1 (by assumption) | exact led_2 (by assumption) | exact bk_m (by assumption) (by first | assumption | omega) | exact bk_p (by assumption) (by first | assumption | omega) | exact bk_o (by assumption) (by first | assumption | omega) | exact bk_s (by assumption) (by first | assumption | omega) | exact bk_1 (by assumption) | exact bk_2 (by assumption) | exact bk_3 (by assumption) | exact bk_4 (by assumption) | exact bk_5 (by assumption) | exact bk_6 (by assumption) | exact bk_7 (by assumption) | exact bk_8 (by assumption) | exact sh_ring _ (by first | assumption | omega) | exact sh_imgs _ (by first | assumption | omega)) (by decide) rfl (by decide) (Nat.le_of_ble_eq_true rfl) (z_X12_takes (by (try simp only [ui_ne (show (157 : Nat) ≠ 161 by decide)]); exact j1.1) ?_)
                      refine v_if_eq (tgt := 164) dX12_personLine_121 (by decide) (fun hc121 => ?_) (fun hc121 => ?_)
                      · (first | rw [bI_0, Bool.not_eq_false] at hc121 | rw [bI_0] at hc121 | rw [show (0 : Int32) = nI 0 from rfl, nI_eq (by omega) (by omega)] at hc121 | skip)
                        refine v_aload_0 dX12_personLine_164 ?_
                        refine u_getR dX12_personLine_165 gf_X12_23 (by first | assumption | rfl | exact led_1 (by assumption) | exact led_2 (by assumption) | exact bk_m (by assumption) (by first | assumption | omega) | exact bk_p (by assumption) (by first | assumption | omega) | exact bk_o (by assumption) (by first | assumption | omega) | exact bk_s (by assumption) (by first | assumption | omega) | exact bk_1 (by assumption) | exact bk_2 (by assumption) | exact bk_3 (by assumption) | exact bk_4 (by assumption) | exact bk_5 (by assumption) | exact bk_6 (by assumption) | exact bk_7 (by assumption) | exact bk_8 (by assumption) | exact sh_ring _ (by first | assumption | omega) | exact sh_imgs _ (by first | assumption | omega)) (ro_X12_16 (by assumption)) ?_
                        refine v_iconst (v := nI 3) dX12_personLine_168 (by decide) ?_
                        refine v_dup2 dX12_personLine_169 rfl rfl ?_
                        refine u_iald dX12_personLine_170 (by first | assumption | rfl | exact led_1 (by assumption) | exact led_2 (by assumption) | exact bk_m (by assumption) (by first | assumption | omega) | exact bk_p (by assumption) (by first | assumption | omega) | exact bk_o (by assumption) (by first | assumption | omega) | exact bk_s (by assumption) (by first | assumption | omega) | exact bk_1 (by assumption) | exact bk_2 (by assumption) | exact bk_3 (by assumption) | exact bk_4 (by assumption) | exact bk_5 (by assumption) | exact bk_6 (by assumption) | exact bk_7 (by assumption) | exact bk_8 (by assumption) | exact sh_ring _ (by first | assumption | omega) | exact sh_imgs _ (by first | assumption | omega)) (by first | with_reducible rfl | (simp only [nlit, nI_add, pk_mul]; with_reducible rfl) | rfl) (by first | assumption | omega) (by first | assumption | decide) ?_
                        refine v_iconst (v := nI 1) dX12_personLine_171 (by decide) ?_
                        refine v_iadd dX12_personLine_172 ?_
                        refine u_iast dX12_personLine_173 (by first | assumption | rfl | exact led_1 (by assumption) | exact led_2 (by assumption) | exact bk_m (by assumption) (by first | assumption | omega) | exact bk_p (by assumption) (by first | assumption | omega) | exact bk_o (by assumption) (by first | assumption | omega) | exact bk_s (by assumption) (by first | assumption | omega) | exact bk_1 (by assumption) | exact bk_2 (by assumption) | exact bk_3 (by assumption) | exact bk_4 (by assumption) | exact bk_5 (by assumption) | exact bk_6 (by assumption) | exact bk_7 (by assumption) | exact bk_8 (by assumption) | exact sh_ring _ (by first | assumption | omega) | exact sh_imgs _ (by first | assumption | omega)) (by first | with_reducible rfl | (simp only [nlit, nI_add, pk_mul]; with_reducible rfl) | rfl) (by first | assumption | omega) (by first | assumption | decide) ?_
                        refine v_vret dX12_personLine_174 rfl rfl rfl rfl ?_
                        refine hF f p (by rw [lPerson, bnd_r q1, bnd_r q2, bnd_r q3, bnd_l q]) _ ?_ ?_
                        · (repeat (first | exact j1 | apply FlM.put))
                        · (repeat (first | exact jf | apply FrK.up))
                      · exact absurd rfl hc121
                    · have q4 : qHabit tp sz (qChild tp sz u3).2 = .inr (v4, u4) := by rw [qc, qHabit, if_pos w, qWhole, bnd_r (show qWord tp sz (wd 10) u3 = .inr (nx tp sz u3) by unfold qWord; rw [if_pos w])]; exact q4
                      have e4 : u4.2 = u3.2 := by rw [e4]; rfl
                      have es4 : u4.2 = (kept tp sz (11 + s.2.1 3) s).2 := e4.trans es3
                      have hL := j41
                      have jk := jk.trans j42.k
                      refine u_iast dX12_personLine_114 (by first | assumption | rfl | exact led_1 (by assumption) | exact led_2 (by assumption) | exact bk_m (by assumption) (by first | assumption | omega) | exact bk_p (by assumption) (by first | assumption | omega) | exact bk_o (by assumption) (by first | assumption | omega) | exact bk_s (by assumption) (by first | assumption | omega) | exact bk_1 (by assumption) | exact bk_2 (by assumption) | exact bk_3 (by assumption) | exact bk_4 (by assumption) | exact bk_5 (by assumption) | exact bk_6 (by assumption) | exact bk_7 (by assumption) | exact bk_8 (by assumption) | exact sh_ring _ (by first | assumption | omega) | exact sh_imgs _ (by first | assumption | omega)) (by first | with_reducible rfl | (simp only [nlit, nI_add, pk_mul]; with_reducible rfl) | rfl) (by first | assumption | omega) (by first | assumption | decide) ?_
                      have hL := hL.put (j := 44 + s.2.1 3) (v := v4) (by omega)
                      have hG := hG.put (j := 44 + s.2.1 3) (v := v4) (by omega)
                      have jk := jk.up (j := 44 + s.2.1 3) (v := nI (v4))
                      have hc_3 := (setF_n (k := 44 + s.2.1 3) (v := v4) (show 3 ≠ 44 + s.2.1 3 by omega)).trans hc_3
                      refine v_aload_0 dX12_personLine_115 ?_
                      refine v_ldcS (i := 40) dX12_personLine_116 (by decide) rfl rfl ?_
                      refine u_callV_1 dX12_personLine_118 ml_X12_116 mv_X12_takes (by first | assumption | rfl | exact led_1 (by assumption) | exact led_2 (by assumption) | exact bk_m (by assumption) (by first | assumption | omega) | exact bk_p (by assumption) (by first | assumption | omega) | exact bk_o (by assumption) (by first | assumption | omega) | exact bk_s (by assumption) (by first | assumption | omega) | exact bk_1 (by assumption) | exact bk_2 (by assumption) | exact bk_3 (by assumption) | exact bk_4 (by assumption) | exact bk_5 (by assumption) | exact bk_6 (by assumption) | exact bk_7 (by assumption) | exact bk_8 (by assumption) | exact sh_ring _ (by first | assumption | omega) | exact sh_imgs _ (by first | assumption | omega)) (by decide) rfl (by decide) (Nat.le_of_ble_eq_true rfl) (c_X12_takes (i := 40) (by decide) hR hL (fun w => ?_) (fun w J50 j501 j502 => ?_))
                      · have q5 : qDoes tp sz u4 = .inr (0, u4) := by rw [qDoes, if_neg (by rw [show isW tp sz (wd 11) u4.1 = false from w]; decide)]
                        refine v_if_eq (tgt := 164) dX12_personLine_121 (by decide) (fun hc121 => ?_) (fun hc121 => ?_)
                        · (first | rw [bI_0, Bool.not_eq_false] at hc121 | rw [bI_0] at hc121 | rw [show (0 : Int32) = nI 0 from rfl, nI_eq (by omega) (by omega)] at hc121 | skip)
                          refine v_aload_0 dX12_personLine_164 ?_
                          refine u_getR dX12_personLine_165 gf_X12_23 (by first | assumption | rfl | exact led_1 (by assumption) | exact led_2 (by assumption) | exact bk_m (by assumption) (by first | assumption | omega) | exact bk_p (by assumption) (by first | assumption | omega) | exact bk_o (by assumption) (by first | assumption | omega) | exact bk_s (by assumption) (by first | assumption | omega) | exact bk_1 (by assumption) | exact bk_2 (by assumption) | exact bk_3 (by assumption) | exact bk_4 (by assumption) | exact bk_5 (by assumption) | exact bk_6 (by assumption) | exact bk_7 (by assumption) | exact bk_8 (by assumption) | exact sh_ring _ (by first | assumption | omega) | exact sh_imgs _ (by first | assumption | omega)) (ro_X12_16 (by assumption)) ?_
                          refine v_iconst (v := nI 3) dX12_personLine_168 (by decide) ?_
                          refine v_dup2 dX12_personLine_169 rfl rfl ?_
                          refine u_iald dX12_personLine_170 (by first | assumption | rfl | exact led_1 (by assumption) | exact led_2 (by assumption) | exact bk_m (by assumption) (by first | assumption | omega) | exact bk_p (by assumption) (by first | assumption | omega) | exact bk_o (by assumption) (by first | assumption | omega) | exact bk_s (by assumption) (by first | assumption | omega) | exact bk_1 (by assumption) | exact bk_2 (by assumption) | exact bk_3 (by assumption) | exact bk_4 (by assumption) | exact bk_5 (by assumption) | exact bk_6 (by assumption) | exact bk_7 (by assumption) | exact bk_8 (by assumption) | exact sh_ring _ (by first | assumption | omega) | exact sh_imgs _ (by first | assumption | omega)) (by first | with_reducible rfl | (simp only [nlit, nI_add, pk_mul]; with_reducible rfl) | rfl) (by first | assumption | omega) (by first | assumption | decide) ?_
                          rw [(hL.2.2.2.2.1 3 (by decide)).1, hc_3]
                          refine v_iconst (v := nI 1) dX12_personLine_171 (by decide) ?_
                          refine v_iadd dX12_personLine_172 ?_
                          rw [nI_add]
                          refine u_iast dX12_personLine_173 (by first | assumption | rfl | exact led_1 (by assumption) | exact led_2 (by assumption) | exact bk_m (by assumption) (by first | assumption | omega) | exact bk_p (by assumption) (by first | assumption | omega) | exact bk_o (by assumption) (by first | assumption | omega) | exact bk_s (by assumption) (by first | assumption | omega) | exact bk_1 (by assumption) | exact bk_2 (by assumption) | exact bk_3 (by assumption) | exact bk_4 (by assumption) | exact bk_5 (by assumption) | exact bk_6 (by assumption) | exact bk_7 (by assumption) | exact bk_8 (by assumption) | exact sh_ring _ (by first | assumption | omega) | exact sh_imgs _ (by first | assumption | omega)) (by first | with_reducible rfl | (simp only [nlit, nI_add, pk_mul]; with_reducible rfl) | rfl) (by first | assumption | omega) (by first | assumption | decide) ?_
                          have hL := hL.put (j := 3) (v := s.2.1 3 + 1) (by omega)
                          have hG := hG.put (j := 3) (v := s.2.1 3 + 1) (by omega)
                          have jk := jk.up (j := 3) (v := nI (s.2.1 3 + 1))
                          refine v_vret dX12_personLine_174 rfl rfl rfl rfl ?_
                          refine hY _ (by rw [lPerson, bnd_r q1, bnd_r q2, bnd_r q3, bnd_r q4, bnd_r q5, qc]) _ ?_ jk
                          show LvM _ _ _ _ (psF u4.2.1 (s.2.1 3) v2 v3 0 v4 0) u4.2.2
                          rw [es4, psF, setF_id (k := 38 + s.2.1 3) (v := 0) (by (repeat rw [setF_n (by omega)]); exact hz38), setF_id (k := 50 + s.2.1 3) (v := 0) (by (repeat rw [setF_n (by omega)]); exact hz50)]
                          exact hL
                        · exact absurd rfl hc121
                      · have w : isW tp sz (wd 11) u4.1 = true := w
                        have hL := j501
                        have jk := jk.trans j502.k
                        refine v_if_eq (tgt := 164) dX12_personLine_121 (by decide) (fun hc121 => ?_) (fun hc121 => ?_)
                        · exact absurd hc121 (by decide)
                        · (first | rw [bI_0, Bool.not_eq_false] at hc121 | rw [bI_0] at hc121 | rw [show (0 : Int32) = nI 0 from rfl, nI_eq (by omega) (by omega)] at hc121 | skip)
                          refine l_does (U := nx tp sz u4) (G := _) (l := s.2.2) hR (by show NmE _ u4.2.1; rw [es4]; exact hG) (fun f q qq J x j1 jf => ?_) (fun set t qq et hs J j1 jf => ?_) _ _ hL jk
                          · refine v_aload_0 dX12_personLine_154 ?_
                            refine u_getR dX12_personLine_155 gf_X12_23 (by first | assumption | rfl | exact led_1 (by assumption) | exact led_2 (by assumption) | exact bk_m (by assumption) (by first | assumption | omega) | exact bk_p (by assumption) (by first | assumption | omega) | exact bk_o (by assumption) (by first | assumption | omega) | exact bk_s (by assumption) (by first | assumption | omega) | exact bk_1 (by assumption) | exact bk_2 (by assumption) | exact bk_3 (by assumption) | exact bk_4 (by assumption) | exact bk_5 (by assumption) | exact bk_6 (by assumption) | exact bk_7 (by assumption) | exact bk_8 (by assumption) | exact sh_ring _ (by first | assumption | omega) | exact sh_imgs _ (by first | assumption | omega)) (ro_X12_16 (by assumption)) ?_
                            refine v_bipush (v := nI 50) dX12_personLine_158 (by decide) ?_
                            refine v_iload_1 dX12_personLine_160 ?_
                            refine v_iadd dX12_personLine_161 ?_
                            refine v_iload_2 dX12_personLine_162 ?_
                            refine u_iast dX12_personLine_163 (by first | assumption | rfl | exact led_1 (by assumption) | exact led_2 (by assumption) | exact bk_m (by assumption) (by first | assumption | omega) | exact bk_p (by assumption) (by first | assumption | omega) | exact bk_o (by assumption) (by first | assumption | omega) | exact bk_s (by assumption) (by first | assumption | omega) | exact bk_1 (by assumption) | exact bk_2 (by assumption) | exact bk_3 (by assumption) | exact bk_4 (by assumption) | exact bk_5 (by assumption) | exact bk_6 (by assumption) | exact bk_7 (by assumption) | exact bk_8 (by assumption) | exact sh_ring _ (by first | assumption | omega) | exact sh_imgs _ (by first | assumption | omega)) (by first | with_reducible rfl | (simp only [nlit, nI_add, pk_mul]; with_reducible rfl) | rfl) (by first | assumption | omega) (by first | assumption | decide) ?_
                            refine v_aload_0 dX12_personLine_164 ?_
                            refine u_getR dX12_personLine_165 gf_X12_23 (by first | assumption | rfl | exact led_1 (by assumption) | exact led_2 (by assumption) | exact bk_m (by assumption) (by first | assumption | omega) | exact bk_p (by assumption) (by first | assumption | omega) | exact bk_o (by assumption) (by first | assumption | omega) | exact bk_s (by assumption) (by first | assumption | omega) | exact bk_1 (by assumption) | exact bk_2 (by assumption) | exact bk_3 (by assumption) | exact bk_4 (by assumption) | exact bk_5 (by assumption) | exact bk_6 (by assumption) | exact bk_7 (by assumption) | exact bk_8 (by assumption) | exact sh_ring _ (by first | assumption | omega) | exact sh_imgs _ (by first | assumption | omega)) (ro_X12_16 (by assumption)) ?_
                            refine v_iconst (v := nI 3) dX12_personLine_168 (by decide) ?_
                            refine v_dup2 dX12_personLine_169 rfl rfl ?_
                            refine u_iald dX12_personLine_170 (by first | assumption | rfl | exact led_1 (by assumption) | exact led_2 (by assumption) | exact bk_m (by assumption) (by first | assumption | omega) | exact bk_p (by assumption) (by first | assumption | omega) | exact bk_o (by assumption) (by first | assumption | omega) | exact bk_s (by assumption) (by first | assumption | omega) | exact bk_1 (by assumption) | exact bk_2 (by assumption) | exact bk_3 (by assumption) | exact bk_4 (by assumption) | exact bk_5 (by assumption) | exact bk_6 (by assumption) | exact bk_7 (by assumption) | exact bk_8 (by assumption) | exact sh_ring _ (by first | assumption | omega) | exact sh_imgs _ (by first | assumption | omega)) (by first | with_reducible rfl | (simp only [nlit, nI_add, pk_mul]; with_reducible rfl) | rfl) (by first | assumption | omega) (by first | assumption | decide) ?_
                            refine v_iconst (v := nI 1) dX12_personLine_171 (by decide) ?_
                            refine v_iadd dX12_personLine_172 ?_
                            refine u_iast dX12_personLine_173 (by first | assumption | rfl | exact led_1 (by assumption) | exact led_2 (by assumption) | exact bk_m (by assumption) (by first | assumption | omega) | exact bk_p (by assumption) (by first | assumption | omega) | exact bk_o (by assumption) (by first | assumption | omega) | exact bk_s (by assumption) (by first | assumption | omega) | exact bk_1 (by assumption) | exact bk_2 (by assumption) | exact bk_3 (by assumption) | exact bk_4 (by assumption) | exact bk_5 (by assumption) | exact bk_6 (by assumption) | exact bk_7 (by assumption) | exact bk_8 (by assumption) | exact sh_ring _ (by first | assumption | omega) | exact sh_imgs _ (by first | assumption | omega)) (by first | with_reducible rfl | (simp only [nlit, nI_add, pk_mul]; with_reducible rfl) | rfl) (by first | assumption | omega) (by first | assumption | decide) ?_
                            refine v_vret dX12_personLine_174 rfl rfl rfl rfl ?_
                            refine hF f q (by rw [lPerson, bnd_r q1, bnd_r q2, bnd_r q3, bnd_r q4, bnd_l (show qDoes tp sz u4 = .inl (f, q) by rw [qDoes, if_pos w]; exact qq)]) _ ?_ ?_
                            · (repeat (first | exact j1 | apply FlM.put))
                            · (repeat (first | exact jf | apply FrK.up))
                          · have q5 : qDoes tp sz u4 = .inr (set, t) := by rw [qDoes, if_pos w]; exact qq
                            have es5 : t.2 = (kept tp sz (11 + s.2.1 3) s).2 := et.trans es4
                            have hL := j1
                            have jk := jf
                            refine v_aload_0 dX12_personLine_154 ?_
                            refine u_getR dX12_personLine_155 gf_X12_23 (by first | assumption | rfl | exact led_1 (by assumption) | exact led_2 (by assumption) | exact bk_m (by assumption) (by first | assumption | omega) | exact bk_p (by assumption) (by first | assumption | omega) | exact bk_o (by assumption) (by first | assumption | omega) | exact bk_s (by assumption) (by first | assumption | omega) | exact bk_1 (by assumption) | exact bk_2 (by assumption) | exact bk_3 (by assumption) | exact bk_4 (by assumption) | exact bk_5 (by assumption) | exact bk_6 (by assumption) | exact bk_7 (by assumption) | exact bk_8 (by assumption) | exact sh_ring _ (by first | assumption | omega) | exact sh_imgs _ (by first | assumption | omega)) (ro_X12_16 (by assumption)) ?_
                            refine v_bipush (v := nI 50) dX12_personLine_158 (by decide) ?_
                            refine v_iload_1 dX12_personLine_160 ?_
                            refine v_iadd dX12_personLine_161 ?_
                            rw [nI_add]
                            refine v_iload_2 dX12_personLine_162 ?_
                            refine u_iast dX12_personLine_163 (by first | assumption | rfl | exact led_1 (by assumption) | exact led_2 (by assumption) | exact bk_m (by assumption) (by first | assumption | omega) | exact bk_p (by assumption) (by first | assumption | omega) | exact bk_o (by assumption) (by first | assumption | omega) | exact bk_s (by assumption) (by first | assumption | omega) | exact bk_1 (by assumption) | exact bk_2 (by assumption) | exact bk_3 (by assumption) | exact bk_4 (by assumption) | exact bk_5 (by assumption) | exact bk_6 (by assumption) | exact bk_7 (by assumption) | exact bk_8 (by assumption) | exact sh_ring _ (by first | assumption | omega) | exact sh_imgs _ (by first | assumption | omega)) (by first | with_reducible rfl | (simp only [nlit, nI_add, pk_mul]; with_reducible rfl) | rfl) (by first | assumption | omega) (by first | assumption | decide) ?_
                            have hL := hL.put (j := 50 + s.2.1 3) (v := set) (by omega)
                            have hG := hG.put (j := 50 + s.2.1 3) (v := set) (by omega)
                            have jk := jk.up (j := 50 + s.2.1 3) (v := nI (set))
                            have hc_3 := (setF_n (k := 50 + s.2.1 3) (v := set) (show 3 ≠ 50 + s.2.1 3 by omega)).trans hc_3
                            refine v_aload_0 dX12_personLine_164 ?_
                            refine u_getR dX12_personLine_165 gf_X12_23 (by first | assumption | rfl | exact led_1 (by assumption) | exact led_2 (by assumption) | exact bk_m (by assumption) (by first | assumption | omega) | exact bk_p (by assumption) (by first | assumption | omega) | exact bk_o (by assumption) (by first | assumption | omega) | exact bk_s (by assumption) (by first | assumption | omega) | exact bk_1 (by assumption) | exact bk_2 (by assumption) | exact bk_3 (by assumption) | exact bk_4 (by assumption) | exact bk_5 (by assumption) | exact bk_6 (by assumption) | exact bk_7 (by assumption) | exact bk_8 (by assumption) | exact sh_ring _ (by first | assumption | omega) | exact sh_imgs _ (by first | assumption | omega)) (ro_X12_16 (by assumption)) ?_
                            refine v_iconst (v := nI 3) dX12_personLine_168 (by decide) ?_
                            refine v_dup2 dX12_personLine_169 rfl rfl ?_
                            refine u_iald dX12_personLine_170 (by first | assumption | rfl | exact led_1 (by assumption) | exact led_2 (by assumption) | exact bk_m (by assumption) (by first | assumption | omega) | exact bk_p (by assumption) (by first | assumption | omega) | exact bk_o (by assumption) (by first | assumption | omega) | exact bk_s (by assumption) (by first | assumption | omega) | exact bk_1 (by assumption) | exact bk_2 (by assumption) | exact bk_3 (by assumption) | exact bk_4 (by assumption) | exact bk_5 (by assumption) | exact bk_6 (by assumption) | exact bk_7 (by assumption) | exact bk_8 (by assumption) | exact sh_ring _ (by first | assumption | omega) | exact sh_imgs _ (by first | assumption | omega)) (by first | with_reducible rfl | (simp only [nlit, nI_add, pk_mul]; with_reducible rfl) | rfl) (by first | assumption | omega) (by first | assumption | decide) ?_
                            rw [(hL.2.2.2.2.1 3 (by decide)).1, hc_3]
                            refine v_iconst (v := nI 1) dX12_personLine_171 (by decide) ?_
                            refine v_iadd dX12_personLine_172 ?_
                            rw [nI_add]
                            refine u_iast dX12_personLine_173 (by first | assumption | rfl | exact led_1 (by assumption) | exact led_2 (by assumption) | exact bk_m (by assumption) (by first | assumption | omega) | exact bk_p (by assumption) (by first | assumption | omega) | exact bk_o (by assumption) (by first | assumption | omega) | exact bk_s (by assumption) (by first | assumption | omega) | exact bk_1 (by assumption) | exact bk_2 (by assumption) | exact bk_3 (by assumption) | exact bk_4 (by assumption) | exact bk_5 (by assumption) | exact bk_6 (by assumption) | exact bk_7 (by assumption) | exact bk_8 (by assumption) | exact sh_ring _ (by first | assumption | omega) | exact sh_imgs _ (by first | assumption | omega)) (by first | with_reducible rfl | (simp only [nlit, nI_add, pk_mul]; with_reducible rfl) | rfl) (by first | assumption | omega) (by first | assumption | decide) ?_
                            have hL := hL.put (j := 3) (v := s.2.1 3 + 1) (by omega)
                            have hG := hG.put (j := 3) (v := s.2.1 3 + 1) (by omega)
                            have jk := jk.up (j := 3) (v := nI (s.2.1 3 + 1))
                            refine v_vret dX12_personLine_174 rfl rfl rfl rfl ?_
                            refine hY _ (by rw [lPerson, bnd_r q1, bnd_r q2, bnd_r q3, bnd_r q4, bnd_r q5, qc]) _ ?_ jk
                            show LvM _ _ _ _ (psF t.2.1 (s.2.1 3) v2 v3 0 v4 set) t.2.2
                            rw [es5, psF, setF_id (k := 38 + s.2.1 3) (v := 0) (by (repeat rw [setF_n (by omega)]); exact hz38)]
                            exact hL
              · exact absurd rfl hc78
            · have qc : qChild tp sz u3 = (1, nx tp sz u3) := by rw [qChild, if_pos (show isW tp sz (wd 9) u3.1 = true from w)]
              have hL := j401
              have jk := jk.trans j402.k
              refine v_if_eq (tgt := 91) dX12_personLine_78 (by decide) (fun hc78 => ?_) (fun hc78 => ?_)
              · exact absurd hc78 (by decide)
              · (first | rw [bI_0, Bool.not_eq_false] at hc78 | rw [bI_0] at hc78 | rw [show (0 : Int32) = nI 0 from rfl, nI_eq (by omega) (by omega)] at hc78 | skip)
                refine v_aload_0 dX12_personLine_81 ?_
                refine u_getR dX12_personLine_82 gf_X12_23 (by first | assumption | rfl | exact led_1 (by assumption) | exact led_2 (by assumption) | exact bk_m (by assumption) (by first | assumption | omega) | exact bk_p (by assumption) (by first | assumption | omega) | exact bk_o (by assumption) (by first | assumption | omega) | exact bk_s (by assumption) (by first | assumption | omega) | exact bk_1 (by assumption) | exact bk_2 (by assumption) | exact bk_3 (by assumption) | exact bk_4 (by assumption) | exact bk_5 (by assumption) | exact bk_6 (by assumption) | exact bk_7 (by assumption) | exact bk_8 (by assumption) | exact sh_ring _ (by first | assumption | omega) | exact sh_imgs _ (by first | assumption | omega)) (ro_X12_16 (by assumption)) ?_
                refine v_bipush (v := nI 38) dX12_personLine_85 (by decide) ?_
                refine v_iload_1 dX12_personLine_87 ?_
                refine v_iadd dX12_personLine_88 ?_
                rw [nI_add]
                refine v_iconst (v := nI 1) dX12_personLine_89 (by decide) ?_
                refine u_iast dX12_personLine_90 (by first | assumption | rfl | exact led_1 (by assumption) | exact led_2 (by assumption) | exact bk_m (by assumption) (by first | assumption | omega) | exact bk_p (by assumption) (by first | assumption | omega) | exact bk_o (by assumption) (by first | assumption | omega) | exact bk_s (by assumption) (by first | assumption | omega) | exact bk_1 (by assumption) | exact bk_2 (by assumption) | exact bk_3 (by assumption) | exact bk_4 (by assumption) | exact bk_5 (by assumption) | exact bk_6 (by assumption) | exact bk_7 (by assumption) | exact bk_8 (by assumption) | exact sh_ring _ (by first | assumption | omega) | exact sh_imgs _ (by first | assumption | omega)) (by first | with_reducible rfl | (simp only [nlit, nI_add, pk_mul]; with_reducible rfl) | rfl) (by first | assumption | omega) (by first | assumption | decide) ?_
                have hL := hL.put (j := 38 + s.2.1 3) (v := 1) (by omega)
                have hG := hG.put (j := 38 + s.2.1 3) (v := 1) (by omega)
                have jk := jk.up (j := 38 + s.2.1 3) (v := nI (1))
                have hc_3 := (setF_n (k := 38 + s.2.1 3) (v := 1) (show 3 ≠ 38 + s.2.1 3 by omega)).trans hc_3
                refine v_aload_0 dX12_personLine_91 ?_
                refine v_ldcS (i := 39) dX12_personLine_92 (by decide) rfl rfl ?_
                refine u_callV_1 dX12_personLine_94 ml_X12_116 mv_X12_takes (by first | assumption | rfl | exact led_1 (by assumption) | exact led_2 (by assumption) | exact bk_m (by assumption) (by first | assumption | omega) | exact bk_p (by assumption) (by first | assumption | omega) | exact bk_o (by assumption) (by first | assumption | omega) | exact bk_s (by assumption) (by first | assumption | omega) | exact bk_1 (by assumption) | exact bk_2 (by assumption) | exact bk_3 (by assumption) | exact bk_4 (by assumption) | exact bk_5 (by assumption) | exact bk_6 (by assumption) | exact bk_7 (by assumption) | exact bk_8 (by assumption) | exact sh_ring _ (by first | assumption | omega) | exact sh_imgs _ (by first | assumption | omega)) (by decide) rfl (by decide) (Nat.le_of_ble_eq_true rfl) (c_X12_takes (i := 39) (by decide) hR hL (fun w => ?_) (fun w J40 j401 j402 => ?_))
                · have q4 : qHabit tp sz (qChild tp sz u3).2 = .inr (0, (nx tp sz u3)) := by rw [qc, qHabit, if_neg (by rw [show isW tp sz (wd 10) (nx tp sz u3).1 = false from w]; decide)]
                  refine v_if_eq (tgt := 115) dX12_personLine_97 (by decide) (fun hc97 => ?_) (fun hc97 => ?_)
                  · (first | rw [bI_0, Bool.not_eq_false] at hc97 | rw [bI_0] at hc97 | rw [show (0 : Int32) = nI 0 from rfl, nI_eq (by omega) (by omega)] at hc97 | skip)
                    refine v_aload_0 dX12_personLine_115 ?_
                    refine v_ldcS (i := 40) dX12_personLine_116 (by decide) rfl rfl ?_
                    refine u_callV_1 dX12_personLine_118 ml_X12_116 mv_X12_takes (by first | assumption | rfl | exact led_1 (by assumption) | exact led_2 (by assumption) | exact bk_m (by assumption) (by first | assumption | omega) | exact bk_p (by assumption) (by first | assumption | omega) | exact bk_o (by assumption) (by first | assumption | omega) | exact bk_s (by assumption) (by first | assumption | omega) | exact bk_1 (by assumption) | exact bk_2 (by assumption) | exact bk_3 (by assumption) | exact bk_4 (by assumption) | exact bk_5 (by assumption) | exact bk_6 (by assumption) | exact bk_7 (by assumption) | exact bk_8 (by assumption) | exact sh_ring _ (by first | assumption | omega) | exact sh_imgs _ (by first | assumption | omega)) (by decide) rfl (by decide) (Nat.le_of_ble_eq_true rfl) (c_X12_takes (i := 40) (by decide) hR hL (fun w => ?_) (fun w J50 j501 j502 => ?_))
                    · have q5 : qDoes tp sz (nx tp sz u3) = .inr (0, (nx tp sz u3)) := by rw [qDoes, if_neg (by rw [show isW tp sz (wd 11) (nx tp sz u3).1 = false from w]; decide)]
                      refine v_if_eq (tgt := 164) dX12_personLine_121 (by decide) (fun hc121 => ?_) (fun hc121 => ?_)
                      · (first | rw [bI_0, Bool.not_eq_false] at hc121 | rw [bI_0] at hc121 | rw [show (0 : Int32) = nI 0 from rfl, nI_eq (by omega) (by omega)] at hc121 | skip)
                        refine v_aload_0 dX12_personLine_164 ?_
                        refine u_getR dX12_personLine_165 gf_X12_23 (by first | assumption | rfl | exact led_1 (by assumption) | exact led_2 (by assumption) | exact bk_m (by assumption) (by first | assumption | omega) | exact bk_p (by assumption) (by first | assumption | omega) | exact bk_o (by assumption) (by first | assumption | omega) | exact bk_s (by assumption) (by first | assumption | omega) | exact bk_1 (by assumption) | exact bk_2 (by assumption) | exact bk_3 (by assumption) | exact bk_4 (by assumption) | exact bk_5 (by assumption) | exact bk_6 (by assumption) | exact bk_7 (by assumption) | exact bk_8 (by assumption) | exact sh_ring _ (by first | assumption | omega) | exact sh_imgs _ (by first | assumption | omega)) (ro_X12_16 (by assumption)) ?_
                        refine v_iconst (v := nI 3) dX12_personLine_168 (by decide) ?_
                        refine v_dup2 dX12_personLine_169 rfl rfl ?_
                        refine u_iald dX12_personLine_170 (by first | assumption | rfl | exact led_1 (by assumption) | exact led_2 (by assumption) | exact bk_m (by assumption) (by first | assumption | omega) | exact bk_p (by assumption) (by first | assumption | omega) | exact bk_o (by assumption) (by first | assumption | omega) | exact bk_s (by assumption) (by first | assumption | omega) | exact bk_1 (by assumption) | exact bk_2 (by assumption) | exact bk_3 (by assumption) | exact bk_4 (by assumption) | exact bk_5 (by assumption) | exact bk_6 (by assumption) | exact bk_7 (by assumption) | exact bk_8 (by assumption) | exact sh_ring _ (by first | assumption | omega) | exact sh_imgs _ (by first | assumption | omega)) (by first | with_reducible rfl | (simp only [nlit, nI_add, pk_mul]; with_reducible rfl) | rfl) (by first | assumption | omega) (by first | assumption | decide) ?_
                        rw [(hL.2.2.2.2.1 3 (by decide)).1, hc_3]
                        refine v_iconst (v := nI 1) dX12_personLine_171 (by decide) ?_
                        refine v_iadd dX12_personLine_172 ?_
                        rw [nI_add]
                        refine u_iast dX12_personLine_173 (by first | assumption | rfl | exact led_1 (by assumption) | exact led_2 (by assumption) | exact bk_m (by assumption) (by first | assumption | omega) | exact bk_p (by assumption) (by first | assumption | omega) | exact bk_o (by assumption) (by first | assumption | omega) | exact bk_s (by assumption) (by first | assumption | omega) | exact bk_1 (by assumption) | exact bk_2 (by assumption) | exact bk_3 (by assumption) | exact bk_4 (by assumption) | exact bk_5 (by assumption) | exact bk_6 (by assumption) | exact bk_7 (by assumption) | exact bk_8 (by assumption) | exact sh_ring _ (by first | assumption | omega) | exact sh_imgs _ (by first | assumption | omega)) (by first | with_reducible rfl | (simp only [nlit, nI_add, pk_mul]; with_reducible rfl) | rfl) (by first | assumption | omega) (by first | assumption | decide) ?_
                        have hL := hL.put (j := 3) (v := s.2.1 3 + 1) (by omega)
                        have hG := hG.put (j := 3) (v := s.2.1 3 + 1) (by omega)
                        have jk := jk.up (j := 3) (v := nI (s.2.1 3 + 1))
                        refine v_vret dX12_personLine_174 rfl rfl rfl rfl ?_
                        refine hY _ (by rw [lPerson, bnd_r q1, bnd_r q2, bnd_r q3, bnd_r q4, bnd_r q5, qc]) _ ?_ jk
                        show LvM _ _ _ _ (psF (nx tp sz u3).2.1 (s.2.1 3) v2 v3 1 0 0) (nx tp sz u3).2.2
                        rw [(show (nx tp sz u3).2 = (kept tp sz (11 + s.2.1 3) s).2 from es3), psF, setF_id (k := 44 + s.2.1 3) (v := 0) (by (repeat rw [setF_n (by omega)]); exact hz44), setF_id (k := 50 + s.2.1 3) (v := 0) (by (repeat rw [setF_n (by omega)]); exact hz50)]
                        exact hL
                      · exact absurd rfl hc121
                    · have w : isW tp sz (wd 11) (nx tp sz u3).1 = true := w
                      have hL := j501
                      have jk := jk.trans j502.k
                      refine v_if_eq (tgt := 164) dX12_personLine_121 (by decide) (fun hc121 => ?_) (fun hc121 => ?_)
                      · exact absurd hc121 (by decide)
                      · (first | rw [bI_0, Bool.not_eq_false] at hc121 | rw [bI_0] at hc121 | rw [show (0 : Int32) = nI 0 from rfl, nI_eq (by omega) (by omega)] at hc121 | skip)
                        refine l_does (U := nx tp sz (nx tp sz u3)) (G := _) (l := s.2.2) hR (by show NmE _ (nx tp sz u3).2.1; rw [(show (nx tp sz u3).2 = (kept tp sz (11 + s.2.1 3) s).2 from es3)]; exact hG) (fun f q qq J x j1 jf => ?_) (fun set t qq et hs J j1 jf => ?_) _ _ hL jk
                        · refine v_aload_0 dX12_personLine_154 ?_
                          refine u_getR dX12_personLine_155 gf_X12_23 (by first | assumption | rfl | exact led_1 (by assumption) | exact led_2 (by assumption) | exact bk_m (by assumption) (by first | assumption | omega) | exact bk_p (by assumption) (by first | assumption | omega) | exact bk_o (by assumption) (by first | assumption | omega) | exact bk_s (by assumption) (by first | assumption | omega) | exact bk_1 (by assumption) | exact bk_2 (by assumption) | exact bk_3 (by assumption) | exact bk_4 (by assumption) | exact bk_5 (by assumption) | exact bk_6 (by assumption) | exact bk_7 (by assumption) | exact bk_8 (by assumption) | exact sh_ring _ (by first | assumption | omega) | exact sh_imgs _ (by first | assumption | omega)) (ro_X12_16 (by assumption)) ?_
                          refine v_bipush (v := nI 50) dX12_personLine_158 (by decide) ?_
                          refine v_iload_1 dX12_personLine_160 ?_
                          refine v_iadd dX12_personLine_161 ?_
                          refine v_iload_2 dX12_personLine_162 ?_
                          refine u_iast dX12_personLine_163 (by first | assumption | rfl | exact led_1 (by assumption) | exact led_2 (by assumption) | exact bk_m (by assumption) (by first | assumption | omega) | exact bk_p (by assumption) (by first | assumption | omega) | exact bk_o (by assumption) (by first | assumption | omega) | exact bk_s (by assumption) (by first | assumption | omega) | exact bk_1 (by assumption) | exact bk_2 (by assumption) | exact bk_3 (by assumption) | exact bk_4 (by assumption) | exact bk_5 (by assumption) | exact bk_6 (by assumption) | exact bk_7 (by assumption) | exact bk_8 (by assumption) | exact sh_ring _ (by first | assumption | omega) | exact sh_imgs _ (by first | assumption | omega)) (by first | with_reducible rfl | (simp only [nlit, nI_add, pk_mul]; with_reducible rfl) | rfl) (by first | assumption | omega) (by first | assumption | decide) ?_
                          refine v_aload_0 dX12_personLine_164 ?_
                          refine u_getR dX12_personLine_165 gf_X12_23 (by first | assumption | rfl | exact led_1 (by assumption) | exact led_2 (by assumption) | exact bk_m (by assumption) (by first | assumption | omega) | exact bk_p (by assumption) (by first | assumption | omega) | exact bk_o (by assumption) (by first | assumption | omega) | exact bk_s (by assumption) (by first | assumption | omega) | exact bk_1 (by assumption) | exact bk_2 (by assumption) | exact bk_3 (by assumption) | exact bk_4 (by assumption) | exact bk_5 (by assumption) | exact bk_6 (by assumption) | exact bk_7 (by assumption) | exact bk_8 (by assumption) | exact sh_ring _ (by first | assumption | omega) | exact sh_imgs _ (by first | assumption | omega)) (ro_X12_16 (by assumption)) ?_
                          refine v_iconst (v := nI 3) dX12_personLine_168 (by decide) ?_
                          refine v_dup2 dX12_personLine_169 rfl rfl ?_
                          refine u_iald dX12_personLine_170 (by first | assumption | rfl | exact led_1 (by assumption) | exact led_2 (by assumption) | exact bk_m (by assumption) (by first | assumption | omega) | exact bk_p (by assumption) (by first | assumption | omega) | exact bk_o (by assumption) (by first | assumption | omega) | exact bk_s (by assumption) (by first | assumption | omega) | exact bk_1 (by assumption) | exact bk_2 (by assumption) | exact bk_3 (by assumption) | exact bk_4 (by assumption) | exact bk_5 (by assumption) | exact bk_6 (by assumption) | exact bk_7 (by assumption) | exact bk_8 (by assumption) | exact sh_ring _ (by first | assumption | omega) | exact sh_imgs _ (by first | assumption | omega)) (by first | with_reducible rfl | (simp only [nlit, nI_add, pk_mul]; with_reducible rfl) | rfl) (by first | assumption | omega) (by first | assumption | decide) ?_
                          refine v_iconst (v := nI 1) dX12_personLine_171 (by decide) ?_
                          refine v_iadd dX12_personLine_172 ?_
                          refine u_iast dX12_personLine_173 (by first | assumption | rfl | exact led_1 (by assumption) | exact led_2 (by assumption) | exact bk_m (by assumption) (by first | assumption | omega) | exact bk_p (by assumption) (by first | assumption | omega) | exact bk_o (by assumption) (by first | assumption | omega) | exact bk_s (by assumption) (by first | assumption | omega) | exact bk_1 (by assumption) | exact bk_2 (by assumption) | exact bk_3 (by assumption) | exact bk_4 (by assumption) | exact bk_5 (by assumption) | exact bk_6 (by assumption) | exact bk_7 (by assumption) | exact bk_8 (by assumption) | exact sh_ring _ (by first | assumption | omega) | exact sh_imgs _ (by first | assumption | omega)) (by first | with_reducible rfl | (simp only [nlit, nI_add, pk_mul]; with_reducible rfl) | rfl) (by first | assumption | omega) (by first | assumption | decide) ?_
                          refine v_vret dX12_personLine_174 rfl rfl rfl rfl ?_
                          refine hF f q (by rw [lPerson, bnd_r q1, bnd_r q2, bnd_r q3, bnd_r q4, bnd_l (show qDoes tp sz (nx tp sz u3) = .inl (f, q) by rw [qDoes, if_pos w]; exact qq)]) _ ?_ ?_
                          · (repeat (first | exact j1 | apply FlM.put))
                          · (repeat (first | exact jf | apply FrK.up))
                        · have q5 : qDoes tp sz (nx tp sz u3) = .inr (set, t) := by rw [qDoes, if_pos w]; exact qq
                          have es5 : t.2 = (kept tp sz (11 + s.2.1 3) s).2 := et.trans (show (nx tp sz u3).2 = (kept tp sz (11 + s.2.1 3) s).2 from es3)
                          have hL := j1
                          have jk := jf
                          refine v_aload_0 dX12_personLine_154 ?_
                          refine u_getR dX12_personLine_155 gf_X12_23 (by first | assumption | rfl | exact led_1 (by assumption) | exact led_2 (by assumption) | exact bk_m (by assumption) (by first | assumption | omega) | exact bk_p (by assumption) (by first | assumption | omega) | exact bk_o (by assumption) (by first | assumption | omega) | exact bk_s (by assumption) (by first | assumption | omega) | exact bk_1 (by assumption) | exact bk_2 (by assumption) | exact bk_3 (by assumption) | exact bk_4 (by assumption) | exact bk_5 (by assumption) | exact bk_6 (by assumption) | exact bk_7 (by assumption) | exact bk_8 (by assumption) | exact sh_ring _ (by first | assumption | omega) | exact sh_imgs _ (by first | assumption | omega)) (ro_X12_16 (by assumption)) ?_
                          refine v_bipush (v := nI 50) dX12_personLine_158 (by decide) ?_
                          refine v_iload_1 dX12_personLine_160 ?_
                          refine v_iadd dX12_personLine_161 ?_
                          rw [nI_add]
                          refine v_iload_2 dX12_personLine_162 ?_
                          refine u_iast dX12_personLine_163 (by first | assumption | rfl | exact led_1 (by assumption) | exact led_2 (by assumption) | exact bk_m (by assumption) (by first | assumption | omega) | exact bk_p (by assumption) (by first | assumption | omega) | exact bk_o (by assumption) (by first | assumption | omega) | exact bk_s (by assumption) (by first | assumption | omega) | exact bk_1 (by assumption) | exact bk_2 (by assumption) | exact bk_3 (by assumption) | exact bk_4 (by assumption) | exact bk_5 (by assumption) | exact bk_6 (by assumption) | exact bk_7 (by assumption) | exact bk_8 (by assumption) | exact sh_ring _ (by first | assumption | omega) | exact sh_imgs _ (by first | assumption | omega)) (by first | with_reducible rfl | (simp only [nlit, nI_add, pk_mul]; with_reducible rfl) | rfl) (by first | assumption | omega) (by first | assumption | decide) ?_
                          have hL := hL.put (j := 50 + s.2.1 3) (v := set) (by omega)
                          have hG := hG.put (j := 50 + s.2.1 3) (v := set) (by omega)
                          have jk := jk.up (j := 50 + s.2.1 3) (v := nI (set))
                          have hc_3 := (setF_n (k := 50 + s.2.1 3) (v := set) (show 3 ≠ 50 + s.2.1 3 by omega)).trans hc_3
                          refine v_aload_0 dX12_personLine_164 ?_
                          refine u_getR dX12_personLine_165 gf_X12_23 (by first | assumption | rfl | exact led_1 (by assumption) | exact led_2 (by assumption) | exact bk_m (by assumption) (by first | assumption | omega) | exact bk_p (by assumption) (by first | assumption | omega) | exact bk_o (by assumption) (by first | assumption | omega) | exact bk_s (by assumption) (by first | assumption | omega) | exact bk_1 (by assumption) | exact bk_2 (by assumption) | exact bk_3 (by assumption) | exact bk_4 (by assumption) | exact bk_5 (by assumption) | exact bk_6 (by assumption) | exact bk_7 (by assumption) | exact bk_8 (by assumption) | exact sh_ring _ (by first | assumption | omega) | exact sh_imgs _ (by first | assumption | omega)) (ro_X12_16 (by assumption)) ?_
                          refine v_iconst (v := nI 3) dX12_personLine_168 (by decide) ?_
                          refine v_dup2 dX12_personLine_169 rfl rfl ?_
                          refine u_iald dX12_personLine_170 (by first | assumption | rfl | exact led_1 (by assumption) | exact led_2 (by assumption) | exact bk_m (by assumption) (by first | assumption | omega) | exact bk_p (by assumption) (by first | assumption | omega) | exact bk_o (by assumption) (by first | assumption | omega) | exact bk_s (by assumption) (by first | assumption | omega) | exact bk_1 (by assumption) | exact bk_2 (by assumption) | exact bk_3 (by assumption) | exact bk_4 (by assumption) | exact bk_5 (by assumption) | exact bk_6 (by assumption) | exact bk_7 (by assumption) | exact bk_8 (by assumption) | exact sh_ring _ (by first | assumption | omega) | exact sh_imgs _ (by first | assumption | omega)) (by first | with_reducible rfl | (simp only [nlit, nI_add, pk_mul]; with_reducible rfl) | rfl) (by first | assumption | omega) (by first | assumption | decide) ?_
                          rw [(hL.2.2.2.2.1 3 (by decide)).1, hc_3]
                          refine v_iconst (v := nI 1) dX12_personLine_171 (by decide) ?_
                          refine v_iadd dX12_personLine_172 ?_
                          rw [nI_add]
                          refine u_iast dX12_personLine_173 (by first | assumption | rfl | exact led_1 (by assumption) | exact led_2 (by assumption) | exact bk_m (by assumption) (by first | assumption | omega) | exact bk_p (by assumption) (by first | assumption | omega) | exact bk_o (by assumption) (by first | assumption | omega) | exact bk_s (by assumption) (by first | assumption | omega) | exact bk_1 (by assumption) | exact bk_2 (by assumption) | exact bk_3 (by assumption) | exact bk_4 (by assumption) | exact bk_5 (by assumption) | exact bk_6 (by assumption) | exact bk_7 (by assumption) | exact bk_8 (by assumption) | exact sh_ring _ (by first | assumption | omega) | exact sh_imgs _ (by first | assumption | omega)) (by first | with_reducible rfl | (simp only [nlit, nI_add, pk_mul]; with_reducible rfl) | rfl) (by first | assumption | omega) (by first | assumption | decide) ?_
                          have hL := hL.put (j := 3) (v := s.2.1 3 + 1) (by omega)
                          have hG := hG.put (j := 3) (v := s.2.1 3 + 1) (by omega)
                          have jk := jk.up (j := 3) (v := nI (s.2.1 3 + 1))
                          refine v_vret dX12_personLine_174 rfl rfl rfl rfl ?_
                          refine hY _ (by rw [lPerson, bnd_r q1, bnd_r q2, bnd_r q3, bnd_r q4, bnd_r q5, qc]) _ ?_ jk
                          show LvM _ _ _ _ (psF t.2.1 (s.2.1 3) v2 v3 1 0 set) t.2.2
                          rw [es5, psF, setF_id (k := 44 + s.2.1 3) (v := 0) (by (repeat rw [setF_n (by omega)]); exact hz44)]
                          exact hL
                  · exact absurd rfl hc97
                · have w : isW tp sz (wd 10) (nx tp sz u3).1 = true := w
                  have hL := j401
                  have jk := jk.trans j402.k
                  refine v_if_eq (tgt := 115) dX12_personLine_97 (by decide) (fun hc97 => ?_) (fun hc97 => ?_)
                  · exact absurd hc97 (by decide)
                  · (first | rw [bI_0, Bool.not_eq_false] at hc97 | rw [bI_0] at hc97 | rw [show (0 : Int32) = nI 0 from rfl, nI_eq (by omega) (by omega)] at hc97 | skip)
                    refine v_aload_0 dX12_personLine_100 ?_
                    refine u_getR dX12_personLine_101 gf_X12_23 (by first | assumption | rfl | exact led_1 (by assumption) | exact led_2 (by assumption) | exact bk_m (by assumption) (by first | assumption | omega) | exact bk_p (by assumption) (by first | assumption | omega) | exact bk_o (by assumption) (by first | assumption | omega) | exact bk_s (by assumption) (by first | assumption | omega) | exact bk_1 (by assumption) | exact bk_2 (by assumption) | exact bk_3 (by assumption) | exact bk_4 (by assumption) | exact bk_5 (by assumption) | exact bk_6 (by assumption) | exact bk_7 (by assumption) | exact bk_8 (by assumption) | exact sh_ring _ (by first | assumption | omega) | exact sh_imgs _ (by first | assumption | omega)) (ro_X12_16 (by assumption)) ?_
                    refine v_bipush (v := nI 44) dX12_personLine_104 (by decide) ?_
                    refine v_iload_1 dX12_personLine_106 ?_
                    refine v_iadd dX12_personLine_107 ?_
                    rw [nI_add]
                    refine v_aload_0 dX12_personLine_108 ?_
                    refine v_iconst (v := nI 1) dX12_personLine_109 (by decide) ?_
                    refine v_iconst (v := nI 4) dX12_personLine_110 (by decide) ?_
                    refine u_callV_2 dX12_personLine_111 ml_X12_170 mv_X12_number (by first | assumption | rfl | exact led_1 (by assumption) | exact led_2 (by assumption) | exact bk_m (by assumption) (by first | assumption | omega) | exact bk_p (by assumption) (by first | assumption | omega) | exact bk_o (by assumption) (by first | assumption | omega) | exact bk_s (by assumption) (by first | assumption | omega) | exact bk_1 (by assumption) | exact bk_2 (by assumption) | exact bk_3 (by assumption) | exact bk_4 (by assumption) | exact bk_5 (by assumption) | exact bk_6 (by assumption) | exact bk_7 (by assumption) | exact bk_8 (by assumption) | exact sh_ring _ (by first | assumption | omega) | exact sh_imgs _ (by first | assumption | omega)) (by decide) rfl (by decide) (Nat.le_of_ble_eq_true rfl) (c_X12_number (lo := 1) (hi := 4) (s := nx tp sz (nx tp sz u3)) (by omega) (by omega) hR hL (fun f p q J j1 j2 => ?_) (fun v4 u4 q4 e4 g4 h4 w4 J4 j41 j42 => ?_))
                    · have q : qHabit tp sz (qChild tp sz u3).2 = .inl (f, p) := by rw [qc, qHabit, if_pos w, qWhole, bnd_r (show qWord tp sz (wd 10) (nx tp sz u3) = .inr (nx tp sz (nx tp sz u3)) by unfold qWord; rw [if_pos w])]; exact q
                      have jf := jk.trans j2.k
                      refine u_iast dX12_personLine_114 (by first | assumption | rfl | exact led_1 (by assumption) | exact led_2 (by assumption) | exact bk_m (by assumption) (by first | assumption | omega) | exact bk_p (by assumption) (by first | assumption | omega) | exact bk_o (by assumption) (by first | assumption | omega) | exact bk_s (by assumption) (by first | assumption | omega) | exact bk_1 (by assumption) | exact bk_2 (by assumption) | exact bk_3 (by assumption) | exact bk_4 (by assumption) | exact bk_5 (by assumption) | exact bk_6 (by assumption) | exact bk_7 (by assumption) | exact bk_8 (by assumption) | exact sh_ring _ (by first | assumption | omega) | exact sh_imgs _ (by first | assumption | omega)) (by first | with_reducible rfl | (simp only [nlit, nI_add, pk_mul]; with_reducible rfl) | rfl) (by first | assumption | omega) (by first | assumption | decide) ?_
                      refine v_aload_0 dX12_personLine_115 ?_
                      refine v_ldcS (i := 40) dX12_personLine_116 (by decide) rfl rfl ?_
                      refine u_callV_1 dX12_personLine_118 ml_X12_116 mv_X12_takes (by first | assumption | rfl | exact led_1 (by assumption) | exact led_2 (by assumption) | exact bk_m (by assumption) (by first | assumption | omega) | exact bk_p (by assumption) (by first | assumption | omega) | exact bk_o (by assumption) (by first | assumption | omega) | exact bk_s (by assumption) (by first | assumption | omega) | exact bk_1 (by assumption) | exact bk_2 (by assumption) | exact bk_3 (by assumption) | exact bk_4 (by assumption) | exact bk_5 (by assumption) | exact bk_6 (by assumption) | exact bk_7 (by assumption) | exact bk_8 (by assumption) | exact sh_ring _ (by first | assumption | omega) | exact sh_imgs _ (by first | assumption | omega)) (by decide) rfl (by decide) (Nat.le_of_ble_eq_true rfl) (z_X12_takes (by (try simp only [ui_ne (show (157 : Nat) ≠ 161 by decide)]); exact j1.1) ?_)
                      refine v_if_eq (tgt := 164) dX12_personLine_121 (by decide) (fun hc121 => ?_) (fun hc121 => ?_)
                      · (first | rw [bI_0, Bool.not_eq_false] at hc121 | rw [bI_0] at hc121 | rw [show (0 : Int32) = nI 0 from rfl, nI_eq (by omega) (by omega)] at hc121 | skip)
                        refine v_aload_0 dX12_personLine_164 ?_
                        refine u_getR dX12_personLine_165 gf_X12_23 (by first | assumption | rfl | exact led_1 (by assumption) | exact led_2 (by assumption) | exact bk_m (by assumption) (by first | assumption | omega) | exact bk_p (by assumption) (by first | assumption | omega) | exact bk_o (by assumption) (by first | assumption | omega) | exact bk_s (by assumption) (by first | assumption | omega) | exact bk_1 (by assumption) | exact bk_2 (by assumption) | exact bk_3 (by assumption) | exact bk_4 (by assumption) | exact bk_5 (by assumption) | exact bk_6 (by assumption) | exact bk_7 (by assumption) | exact bk_8 (by assumption) | exact sh_ring _ (by first | assumption | omega) | exact sh_imgs _ (by first | assumption | omega)) (ro_X12_16 (by assumption)) ?_
                        refine v_iconst (v := nI 3) dX12_personLine_168 (by decide) ?_
                        refine v_dup2 dX12_personLine_169 rfl rfl ?_
                        refine u_iald dX12_personLine_170 (by first | assumption | rfl | exact led_1 (by assumption) | exact led_2 (by assumption) | exact bk_m (by assumption) (by first | assumption | omega) | exact bk_p (by assumption) (by first | assumption | omega) | exact bk_o (by assumption) (by first | assumption | omega) | exact bk_s (by assumption) (by first | assumption | omega) | exact bk_1 (by assumption) | exact bk_2 (by assumption) | exact bk_3 (by assumption) | exact bk_4 (by assumption) | exact bk_5 (by assumption) | exact bk_6 (by assumption) | exact bk_7 (by assumption) | exact bk_8 (by assumption) | exact sh_ring _ (by first | assumption | omega) | exact sh_imgs _ (by first | assumption | omega)) (by first | with_reducible rfl | (simp only [nlit, nI_add, pk_mul]; with_reducible rfl) | rfl) (by first | assumption | omega) (by first | assumption | decide) ?_
                        refine v_iconst (v := nI 1) dX12_personLine_171 (by decide) ?_
                        refine v_iadd dX12_personLine_172 ?_
                        refine u_iast dX12_personLine_173 (by first | assumption | rfl | exact led_1 (by assumption) | exact led_2 (by assumption) | exact bk_m (by assumption) (by first | assumption | omega) | exact bk_p (by assumption) (by first | assumption | omega) | exact bk_o (by assumption) (by first | assumption | omega) | exact bk_s (by assumption) (by first | assumption | omega) | exact bk_1 (by assumption) | exact bk_2 (by assumption) | exact bk_3 (by assumption) | exact bk_4 (by assumption) | exact bk_5 (by assumption) | exact bk_6 (by assumption) | exact bk_7 (by assumption) | exact bk_8 (by assumption) | exact sh_ring _ (by first | assumption | omega) | exact sh_imgs _ (by first | assumption | omega)) (by first | with_reducible rfl | (simp only [nlit, nI_add, pk_mul]; with_reducible rfl) | rfl) (by first | assumption | omega) (by first | assumption | decide) ?_
                        refine v_vret dX12_personLine_174 rfl rfl rfl rfl ?_
                        refine hF f p (by rw [lPerson, bnd_r q1, bnd_r q2, bnd_r q3, bnd_l q]) _ ?_ ?_
                        · (repeat (first | exact j1 | apply FlM.put))
                        · (repeat (first | exact jf | apply FrK.up))
                      · exact absurd rfl hc121
                    · have q4 : qHabit tp sz (qChild tp sz u3).2 = .inr (v4, u4) := by rw [qc, qHabit, if_pos w, qWhole, bnd_r (show qWord tp sz (wd 10) (nx tp sz u3) = .inr (nx tp sz (nx tp sz u3)) by unfold qWord; rw [if_pos w])]; exact q4
                      have e4 : u4.2 = (nx tp sz u3).2 := by rw [e4]; rfl
                      have es4 : u4.2 = (kept tp sz (11 + s.2.1 3) s).2 := e4.trans (show (nx tp sz u3).2 = (kept tp sz (11 + s.2.1 3) s).2 from es3)
                      have hL := j41
                      have jk := jk.trans j42.k
                      refine u_iast dX12_personLine_114 (by first | assumption | rfl | exact led_1 (by assumption) | exact led_2 (by assumption) | exact bk_m (by assumption) (by first | assumption | omega) | exact bk_p (by assumption) (by first | assumption | omega) | exact bk_o (by assumption) (by first | assumption | omega) | exact bk_s (by assumption) (by first | assumption | omega) | exact bk_1 (by assumption) | exact bk_2 (by assumption) | exact bk_3 (by assumption) | exact bk_4 (by assumption) | exact bk_5 (by assumption) | exact bk_6 (by assumption) | exact bk_7 (by assumption) | exact bk_8 (by assumption) | exact sh_ring _ (by first | assumption | omega) | exact sh_imgs _ (by first | assumption | omega)) (by first | with_reducible rfl | (simp only [nlit, nI_add, pk_mul]; with_reducible rfl) | rfl) (by first | assumption | omega) (by first | assumption | decide) ?_
                      have hL := hL.put (j := 44 + s.2.1 3) (v := v4) (by omega)
                      have hG := hG.put (j := 44 + s.2.1 3) (v := v4) (by omega)
                      have jk := jk.up (j := 44 + s.2.1 3) (v := nI (v4))
                      have hc_3 := (setF_n (k := 44 + s.2.1 3) (v := v4) (show 3 ≠ 44 + s.2.1 3 by omega)).trans hc_3
                      refine v_aload_0 dX12_personLine_115 ?_
                      refine v_ldcS (i := 40) dX12_personLine_116 (by decide) rfl rfl ?_
                      refine u_callV_1 dX12_personLine_118 ml_X12_116 mv_X12_takes (by first | assumption | rfl | exact led_1 (by assumption) | exact led_2 (by assumption) | exact bk_m (by assumption) (by first | assumption | omega) | exact bk_p (by assumption) (by first | assumption | omega) | exact bk_o (by assumption) (by first | assumption | omega) | exact bk_s (by assumption) (by first | assumption | omega) | exact bk_1 (by assumption) | exact bk_2 (by assumption) | exact bk_3 (by assumption) | exact bk_4 (by assumption) | exact bk_5 (by assumption) | exact bk_6 (by assumption) | exact bk_7 (by assumption) | exact bk_8 (by assumption) | exact sh_ring _ (by first | assumption | omega) | exact sh_imgs _ (by first | assumption | omega)) (by decide) rfl (by decide) (Nat.le_of_ble_eq_true rfl) (c_X12_takes (i := 40) (by decide) hR hL (fun w => ?_) (fun w J50 j501 j502 => ?_))
                      · have q5 : qDoes tp sz u4 = .inr (0, u4) := by rw [qDoes, if_neg (by rw [show isW tp sz (wd 11) u4.1 = false from w]; decide)]
                        refine v_if_eq (tgt := 164) dX12_personLine_121 (by decide) (fun hc121 => ?_) (fun hc121 => ?_)
                        · (first | rw [bI_0, Bool.not_eq_false] at hc121 | rw [bI_0] at hc121 | rw [show (0 : Int32) = nI 0 from rfl, nI_eq (by omega) (by omega)] at hc121 | skip)
                          refine v_aload_0 dX12_personLine_164 ?_
                          refine u_getR dX12_personLine_165 gf_X12_23 (by first | assumption | rfl | exact led_1 (by assumption) | exact led_2 (by assumption) | exact bk_m (by assumption) (by first | assumption | omega) | exact bk_p (by assumption) (by first | assumption | omega) | exact bk_o (by assumption) (by first | assumption | omega) | exact bk_s (by assumption) (by first | assumption | omega) | exact bk_1 (by assumption) | exact bk_2 (by assumption) | exact bk_3 (by assumption) | exact bk_4 (by assumption) | exact bk_5 (by assumption) | exact bk_6 (by assumption) | exact bk_7 (by assumption) | exact bk_8 (by assumption) | exact sh_ring _ (by first | assumption | omega) | exact sh_imgs _ (by first | assumption | omega)) (ro_X12_16 (by assumption)) ?_
                          refine v_iconst (v := nI 3) dX12_personLine_168 (by decide) ?_
                          refine v_dup2 dX12_personLine_169 rfl rfl ?_
                          refine u_iald dX12_personLine_170 (by first | assumption | rfl | exact led_1 (by assumption) | exact led_2 (by assumption) | exact bk_m (by assumption) (by first | assumption | omega) | exact bk_p (by assumption) (by first | assumption | omega) | exact bk_o (by assumption) (by first | assumption | omega) | exact bk_s (by assumption) (by first | assumption | omega) | exact bk_1 (by assumption) | exact bk_2 (by assumption) | exact bk_3 (by assumption) | exact bk_4 (by assumption) | exact bk_5 (by assumption) | exact bk_6 (by assumption) | exact bk_7 (by assumption) | exact bk_8 (by assumption) | exact sh_ring _ (by first | assumption | omega) | exact sh_imgs _ (by first | assumption | omega)) (by first | with_reducible rfl | (simp only [nlit, nI_add, pk_mul]; with_reducible rfl) | rfl) (by first | assumption | omega) (by first | assumption | decide) ?_
                          rw [(hL.2.2.2.2.1 3 (by decide)).1, hc_3]
                          refine v_iconst (v := nI 1) dX12_personLine_171 (by decide) ?_
                          refine v_iadd dX12_personLine_172 ?_
                          rw [nI_add]
                          refine u_iast dX12_personLine_173 (by first | assumption | rfl | exact led_1 (by assumption) | exact led_2 (by assumption) | exact bk_m (by assumption) (by first | assumption | omega) | exact bk_p (by assumption) (by first | assumption | omega) | exact bk_o (by assumption) (by first | assumption | omega) | exact bk_s (by assumption) (by first | assumption | omega) | exact bk_1 (by assumption) | exact bk_2 (by assumption) | exact bk_3 (by assumption) | exact bk_4 (by assumption) | exact bk_5 (by assumption) | exact bk_6 (by assumption) | exact bk_7 (by assumption) | exact bk_8 (by assumption) | exact sh_ring _ (by first | assumption | omega) | exact sh_imgs _ (by first | assumption | omega)) (by first | with_reducible rfl | (simp only [nlit, nI_add, pk_mul]; with_reducible rfl) | rfl) (by first | assumption | omega) (by first | assumption | decide) ?_
                          have hL := hL.put (j := 3) (v := s.2.1 3 + 1) (by omega)
                          have hG := hG.put (j := 3) (v := s.2.1 3 + 1) (by omega)
                          have jk := jk.up (j := 3) (v := nI (s.2.1 3 + 1))
                          refine v_vret dX12_personLine_174 rfl rfl rfl rfl ?_
                          refine hY _ (by rw [lPerson, bnd_r q1, bnd_r q2, bnd_r q3, bnd_r q4, bnd_r q5, qc]) _ ?_ jk
                          show LvM _ _ _ _ (psF u4.2.1 (s.2.1 3) v2 v3 1 v4 0) u4.2.2
                          rw [es4, psF, setF_id (k := 50 + s.2.1 3) (v := 0) (by (repeat rw [setF_n (by omega)]); exact hz50)]
                          exact hL
                        · exact absurd rfl hc121
                      · have w : isW tp sz (wd 11) u4.1 = true := w
                        have hL := j501
                        have jk := jk.trans j502.k
                        refine v_if_eq (tgt := 164) dX12_personLine_121 (by decide) (fun hc121 => ?_) (fun hc121 => ?_)
                        · exact absurd hc121 (by decide)
                        · (first | rw [bI_0, Bool.not_eq_false] at hc121 | rw [bI_0] at hc121 | rw [show (0 : Int32) = nI 0 from rfl, nI_eq (by omega) (by omega)] at hc121 | skip)
                          refine l_does (U := nx tp sz u4) (G := _) (l := s.2.2) hR (by show NmE _ u4.2.1; rw [es4]; exact hG) (fun f q qq J x j1 jf => ?_) (fun set t qq et hs J j1 jf => ?_) _ _ hL jk
                          · refine v_aload_0 dX12_personLine_154 ?_
                            refine u_getR dX12_personLine_155 gf_X12_23 (by first | assumption | rfl | exact led_1 (by assumption) | exact led_2 (by assumption) | exact bk_m (by assumption) (by first | assumption | omega) | exact bk_p (by assumption) (by first | assumption | omega) | exact bk_o (by assumption) (by first | assumption | omega) | exact bk_s (by assumption) (by first | assumption | omega) | exact bk_1 (by assumption) | exact bk_2 (by assumption) | exact bk_3 (by assumption) | exact bk_4 (by assumption) | exact bk_5 (by assumption) | exact bk_6 (by assumption) | exact bk_7 (by assumption) | exact bk_8 (by assumption) | exact sh_ring _ (by first | assumption | omega) | exact sh_imgs _ (by first | assumption | omega)) (ro_X12_16 (by assumption)) ?_
                            refine v_bipush (v := nI 50) dX12_personLine_158 (by decide) ?_
                            refine v_iload_1 dX12_personLine_160 ?_
                            refine v_iadd dX12_personLine_161 ?_
                            refine v_iload_2 dX12_personLine_162 ?_
                            refine u_iast dX12_personLine_163 (by first | assumption | rfl | exact led_1 (by assumption) | exact led_2 (by assumption) | exact bk_m (by assumption) (by first | assumption | omega) | exact bk_p (by assumption) (by first | assumption | omega) | exact bk_o (by assumption) (by first | assumption | omega) | exact bk_s (by assumption) (by first | assumption | omega) | exact bk_1 (by assumption) | exact bk_2 (by assumption) | exact bk_3 (by assumption) | exact bk_4 (by assumption) | exact bk_5 (by assumption) | exact bk_6 (by assumption) | exact bk_7 (by assumption) | exact bk_8 (by assumption) | exact sh_ring _ (by first | assumption | omega) | exact sh_imgs _ (by first | assumption | omega)) (by first | with_reducible rfl | (simp only [nlit, nI_add, pk_mul]; with_reducible rfl) | rfl) (by first | assumption | omega) (by first | assumption | decide) ?_
                            refine v_aload_0 dX12_personLine_164 ?_
                            refine u_getR dX12_personLine_165 gf_X12_23 (by first | assumption | rfl | exact led_1 (by assumption) | exact led_2 (by assumption) | exact bk_m (by assumption) (by first | assumption | omega) | exact bk_p (by assumption) (by first | assumption | omega) | exact bk_o (by assumption) (by first | assumption | omega) | exact bk_s (by assumption) (by first | assumption | omega) | exact bk_1 (by assumption) | exact bk_2 (by assumption) | exact bk_3 (by assumption) | exact bk_4 (by assumption) | exact bk_5 (by assumption) | exact bk_6 (by assumption) | exact bk_7 (by assumption) | exact bk_8 (by assumption) | exact sh_ring _ (by first | assumption | omega) | exact sh_imgs _ (by first | assumption | omega)) (ro_X12_16 (by assumption)) ?_
                            refine v_iconst (v := nI 3) dX12_personLine_168 (by decide) ?_
                            refine v_dup2 dX12_personLine_169 rfl rfl ?_
                            refine u_iald dX12_personLine_170 (by first | assumption | rfl | exact led_1 (by assumption) | exact led_2 (by assumption) | exact bk_m (by assumption) (by first | assumption | omega) | exact bk_p (by assumption) (by first | assumption | omega) | exact bk_o (by assumption) (by first | assumption | omega) | exact bk_s (by assumption) (by first | assumption | omega) | exact bk_1 (by assumption) | exact bk_2 (by assumption) | exact bk_3 (by assumption) | exact bk_4 (by assumption) | exact bk_5 (by assumption) | exact bk_6 (by assumption) | exact bk_7 (by assumption) | exact bk_8 (by assumption) | exact sh_ring _ (by first | assumption | omega) | exact sh_imgs _ (by first | assumption | omega)) (by first | with_reducible rfl | (simp only [nlit, nI_add, pk_mul]; with_reducible rfl) | rfl) (by first | assumption | omega) (by first | assumption | decide) ?_
                            refine v_iconst (v := nI 1) dX12_personLine_171 (by decide) ?_
                            refine v_iadd dX12_personLine_172 ?_
                            refine u_iast dX12_personLine_173 (by first | assumption | rfl | exact led_1 (by assumption) | exact led_2 (by assumption) | exact bk_m (by assumption) (by first | assumption | omega) | exact bk_p (by assumption) (by first | assumption | omega) | exact bk_o (by assumption) (by first | assumption | omega) | exact bk_s (by assumption) (by first | assumption | omega) | exact bk_1 (by assumption) | exact bk_2 (by assumption) | exact bk_3 (by assumption) | exact bk_4 (by assumption) | exact bk_5 (by assumption) | exact bk_6 (by assumption) | exact bk_7 (by assumption) | exact bk_8 (by assumption) | exact sh_ring _ (by first | assumption | omega) | exact sh_imgs _ (by first | assumption | omega)) (by first | with_reducible rfl | (simp only [nlit, nI_add, pk_mul]; with_reducible rfl) | rfl) (by first | assumption | omega) (by first | assumption | decide) ?_
                            refine v_vret dX12_personLine_174 rfl rfl rfl rfl ?_
                            refine hF f q (by rw [lPerson, bnd_r q1, bnd_r q2, bnd_r q3, bnd_r q4, bnd_l (show qDoes tp sz u4 = .inl (f, q) by rw [qDoes, if_pos w]; exact qq)]) _ ?_ ?_
                            · (repeat (first | exact j1 | apply FlM.put))
                            · (repeat (first | exact jf | apply FrK.up))
                          · have q5 : qDoes tp sz u4 = .inr (set, t) := by rw [qDoes, if_pos w]; exact qq
                            have es5 : t.2 = (kept tp sz (11 + s.2.1 3) s).2 := et.trans es4
                            have hL := j1
                            have jk := jf
                            refine v_aload_0 dX12_personLine_154 ?_
                            refine u_getR dX12_personLine_155 gf_X12_23 (by first | assumption | rfl | exact led_1 (by assumption) | exact led_2 (by assumption) | exact bk_m (by assumption) (by first | assumption | omega) | exact bk_p (by assumption) (by first | assumption | omega) | exact bk_o (by assumption) (by first | assumption | omega) | exact bk_s (by assumption) (by first | assumption | omega) | exact bk_1 (by assumption) | exact bk_2 (by assumption) | exact bk_3 (by assumption) | exact bk_4 (by assumption) | exact bk_5 (by assumption) | exact bk_6 (by assumption) | exact bk_7 (by assumption) | exact bk_8 (by assumption) | exact sh_ring _ (by first | assumption | omega) | exact sh_imgs _ (by first | assumption | omega)) (ro_X12_16 (by assumption)) ?_
                            refine v_bipush (v := nI 50) dX12_personLine_158 (by decide) ?_
                            refine v_iload_1 dX12_personLine_160 ?_
                            refine v_iadd dX12_personLine_161 ?_
                            rw [nI_add]
                            refine v_iload_2 dX12_personLine_162 ?_
                            refine u_iast dX12_personLine_163 (by first | assumption | rfl | exact led_1 (by assumption) | exact led_2 (by assumption) | exact bk_m (by assumption) (by first | assumption | omega) | exact bk_p (by assumption) (by first | assumption | omega) | exact bk_o (by assumption) (by first | assumption | omega) | exact bk_s (by assumption) (by first | assumption | omega) | exact bk_1 (by assumption) | exact bk_2 (by assumption) | exact bk_3 (by assumption) | exact bk_4 (by assumption) | exact bk_5 (by assumption) | exact bk_6 (by assumption) | exact bk_7 (by assumption) | exact bk_8 (by assumption) | exact sh_ring _ (by first | assumption | omega) | exact sh_imgs _ (by first | assumption | omega)) (by first | with_reducible rfl | (simp only [nlit, nI_add, pk_mul]; with_reducible rfl) | rfl) (by first | assumption | omega) (by first | assumption | decide) ?_
                            have hL := hL.put (j := 50 + s.2.1 3) (v := set) (by omega)
                            have hG := hG.put (j := 50 + s.2.1 3) (v := set) (by omega)
                            have jk := jk.up (j := 50 + s.2.1 3) (v := nI (set))
                            have hc_3 := (setF_n (k := 50 + s.2.1 3) (v := set) (show 3 ≠ 50 + s.2.1 3 by omega)).trans hc_3
                            refine v_aload_0 dX12_personLine_164 ?_
                            refine u_getR dX12_personLine_165 gf_X12_23 (by first | assumption | rfl | exact led_1 (by assumption) | exact led_2 (by assumption) | exact bk_m (by assumption) (by first | assumption | omega) | exact bk_p (by assumption) (by first | assumption | omega) | exact bk_o (by assumption) (by first | assumption | omega) | exact bk_s (by assumption) (by first | assumption | omega) | exact bk_1 (by assumption) | exact bk_2 (by assumption) | exact bk_3 (by assumption) | exact bk_4 (by assumption) | exact bk_5 (by assumption) | exact bk_6 (by assumption) | exact bk_7 (by assumption) | exact bk_8 (by assumption) | exact sh_ring _ (by first | assumption | omega) | exact sh_imgs _ (by first | assumption | omega)) (ro_X12_16 (by assumption)) ?_
                            refine v_iconst (v := nI 3) dX12_personLine_168 (by decide) ?_
                            refine v_dup2 dX12_personLine_169 rfl rfl ?_
                            refine u_iald dX12_personLine_170 (by first | assumption | rfl | exact led_1 (by assumption) | exact led_2 (by assumption) | exact bk_m (by assumption) (by first | assumption | omega) | exact bk_p (by assumption) (by first | assumption | omega) | exact bk_o (by assumption) (by first | assumption | omega) | exact bk_s (by assumption) (by first | assumption | omega) | exact bk_1 (by assumption) | exact bk_2 (by assumption) | exact bk_3 (by assumption) | exact bk_4 (by assumption) | exact bk_5 (by assumption) | exact bk_6 (by assumption) | exact bk_7 (by assumption) | exact bk_8 (by assumption) | exact sh_ring _ (by first | assumption | omega) | exact sh_imgs _ (by first | assumption | omega)) (by first | with_reducible rfl | (simp only [nlit, nI_add, pk_mul]; with_reducible rfl) | rfl) (by first | assumption | omega) (by first | assumption | decide) ?_
                            rw [(hL.2.2.2.2.1 3 (by decide)).1, hc_3]
                            refine v_iconst (v := nI 1) dX12_personLine_171 (by decide) ?_
                            refine v_iadd dX12_personLine_172 ?_
                            rw [nI_add]
                            refine u_iast dX12_personLine_173 (by first | assumption | rfl | exact led_1 (by assumption) | exact led_2 (by assumption) | exact bk_m (by assumption) (by first | assumption | omega) | exact bk_p (by assumption) (by first | assumption | omega) | exact bk_o (by assumption) (by first | assumption | omega) | exact bk_s (by assumption) (by first | assumption | omega) | exact bk_1 (by assumption) | exact bk_2 (by assumption) | exact bk_3 (by assumption) | exact bk_4 (by assumption) | exact bk_5 (by assumption) | exact bk_6 (by assumption) | exact bk_7 (by assumption) | exact bk_8 (by assumption) | exact sh_ring _ (by first | assumption | omega) | exact sh_imgs _ (by first | assumption | omega)) (by first | with_reducible rfl | (simp only [nlit, nI_add, pk_mul]; with_reducible rfl) | rfl) (by first | assumption | omega) (by first | assumption | decide) ?_
                            have hL := hL.put (j := 3) (v := s.2.1 3 + 1) (by omega)
                            have hG := hG.put (j := 3) (v := s.2.1 3 + 1) (by omega)
                            have jk := jk.up (j := 3) (v := nI (s.2.1 3 + 1))
                            refine v_vret dX12_personLine_174 rfl rfl rfl rfl ?_
                            refine hY _ (by rw [lPerson, bnd_r q1, bnd_r q2, bnd_r q3, bnd_r q4, bnd_r q5, qc]) _ ?_ jk
                            show LvM _ _ _ _ (psF t.2.1 (s.2.1 3) v2 v3 1 v4 set) t.2.2
                            rw [es5, psF]
                            exact hL
      · exact absurd rfl hc23
  · exact absurd rfl hc4
end
