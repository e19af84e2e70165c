section
variable {b : Nat} {ad : Nat → Nat} {I : HI} {L : HL} {R : HR} {Q : QT} {a B n d : Nat} {F : bkF} {g : lends} {br : Nat → Nat} {pg : Nat → Bool} {c : Nat → Nat}
theorem c_X10_allWith {m p : Nat} (hR : RO R) (hB : SH B = .inl 0) (hb : R 150 0 = some B) (hF : BkI I B F) (hO : FOK F) (hW : WcI I (F 2) pg c) (hf : ∃ z : Nat, z < 2 ^ 31 ∧ I 150 1 = nI z) (hm : m < F 2) (hp : p < F 3) (hQ : Q (some (.int (nI (alw F pg c m p)))) SH I L R) : KK 7 mX10_allWith b ad [.ref (b + 150), .int (nI m), .int (nI p)] I L R Q := by
  obtain ⟨k0, k1, k2, k3, k4, k5, k6, -⟩ := id hO
  obtain ⟨z, hz1, hz2⟩ := hf
  have hc64 := (hW.2 m hm).2
  refine K.of (M := mX10_allWith) (lv := [some (.ref (b + 150)), some (.int (nI m)), some (.int (nI p)), none, none]) (by decide) (Nat.le_of_ble_eq_true rfl) rfl ?_
  refine v_aload_0 dX10_allWith_0 ?_
  refine u_getR dX10_allWith_1 gf_X10_21 (by first | assumption | rfl | exact led_1 (by assumption) | exact led_2 (by assumption) | exact bk_m (by assumption) (by first | assumption | omega) | exact bk_p (by assumption) (by first | assumption | omega) | exact bk_o (by assumption) (by first | assumption | omega) | exact bk_s (by assumption) (by first | assumption | omega) | exact bk_1 (by assumption) | exact bk_2 (by assumption) | exact bk_3 (by assumption) | exact bk_4 (by assumption) | exact bk_5 (by assumption) | exact bk_6 (by assumption) | exact bk_7 (by assumption) | exact bk_8 (by assumption) | exact sh_ring _ (by first | assumption | omega) | exact sh_imgs _ (by first | assumption | omega)) (ro_X10_6 (by assumption)) ?_
  refine v_iload_1 dX10_allWith_4 ?_
  refine u_iald dX10_allWith_5 (by first | assumption | rfl | exact led_1 (by assumption) | exact led_2 (by assumption) | exact bk_m (by assumption) (by first | assumption | omega) | exact bk_p (by assumption) (by first | assumption | omega) | exact bk_o (by assumption) (by first | assumption | omega) | exact bk_s (by assumption) (by first | assumption | omega) | exact bk_1 (by assumption) | exact bk_2 (by assumption) | exact bk_3 (by assumption) | exact bk_4 (by assumption) | exact bk_5 (by assumption) | exact bk_6 (by assumption) | exact bk_7 (by assumption) | exact bk_8 (by assumption) | exact sh_ring _ (by first | assumption | omega) | exact sh_imgs _ (by first | assumption | omega)) (by first | with_reducible rfl | (simp only [nlit, nI_add, pk_mul]; with_reducible rfl) | rfl) (by first | assumption | omega) (by first | assumption | decide) ?_
  rw [(hW.2 m hm).1]
  refine v_istore_3 rfl dX10_allWith_6 ?_
  refine v_aload_0 dX10_allWith_7 ?_
  refine u_getI dX10_allWith_8 gf_X10_39 (by first | assumption | rfl | exact led_1 (by assumption) | exact led_2 (by assumption) | exact bk_m (by assumption) (by first | assumption | omega) | exact bk_p (by assumption) (by first | assumption | omega) | exact bk_o (by assumption) (by first | assumption | omega) | exact bk_s (by assumption) (by first | assumption | omega) | exact bk_1 (by assumption) | exact bk_2 (by assumption) | exact bk_3 (by assumption) | exact bk_4 (by assumption) | exact bk_5 (by assumption) | exact bk_6 (by assumption) | exact bk_7 (by assumption) | exact bk_8 (by assumption) | exact sh_ring _ (by first | assumption | omega) | exact sh_imgs _ (by first | assumption | omega)) ?_
  rw [hz2]
  refine v_if_lt (tgt := 31) dX10_allWith_11 (by decide) (fun hc11 => ?_) (fun hc11 => ?_)
  · (first | rw [show (0 : Int32) = nI 0 from rfl, nI_ltI (by omega) (by omega)] at hc11 | rw [show (0 : Int32) = nI 0 from rfl, nI_leI (by omega) (by omega)] at hc11 | skip)
    refine v_iconst (v := nI 0) dX10_allWith_31 (by decide) ?_
    refine v_iret dX10_allWith_32 rfl rfl rfl rfl ?_
    first
      | (have e : pg m = true := hc20; simp only [alw, if_pos e] at hQ; exact hQ)
      | (have e : pg m = false := hc20; have e2 : (c m).testBit p = false := hc28; simp only [alw, e, e2] at hQ; exact hQ)
      | (exfalso; omega)
  · (first | rw [show (0 : Int32) = nI 0 from rfl, nI_ltI (by omega) (by omega)] at hc11 | rw [show (0 : Int32) = nI 0 from rfl, nI_leI (by omega) (by omega)] at hc11 | skip)
    refine v_aload_0 dX10_allWith_14 ?_
    refine u_getR dX10_allWith_15 gf_X10_24 (by first | assumption | rfl | exact led_1 (by assumption) | exact led_2 (by assumption) | exact bk_m (by assumption) (by first | assumption | omega) | exact bk_p (by assumption) (by first | assumption | omega) | exact bk_o (by assumption) (by first | assumption | omega) | exact bk_s (by assumption) (by first | assumption | omega) | exact bk_1 (by assumption) | exact bk_2 (by assumption) | exact bk_3 (by assumption) | exact bk_4 (by assumption) | exact bk_5 (by assumption) | exact bk_6 (by assumption) | exact bk_7 (by assumption) | exact bk_8 (by assumption) | exact sh_ring _ (by first | assumption | omega) | exact sh_imgs _ (by first | assumption | omega)) (ro_X10_7 (by assumption)) ?_
    refine v_iload_1 dX10_allWith_18 ?_
    first | refine u_bald dX10_allWith_19 (by first | assumption | rfl | exact led_1 (by assumption) | exact led_2 (by assumption) | exact bk_m (by assumption) (by first | assumption | omega) | exact bk_p (by assumption) (by first | assumption | omega) | exact bk_o (by assumption) (by first | assumption | omega) | exact bk_s (by assumption) (by first | assumption | omega) | exact bk_1 (by assumption) | exact bk_2 (by assumption) | exact bk_3 (by assumption) | exact bk_4 (by assumption) | exact bk_5 (by assumption) | exact bk_6 (by assumption) | exact bk_7 (by assumption) | exact bk_8 (by assumption) | exact sh_ring _ (by first | assumption | omega) | exact sh_imgs _ (by first | assumption | omega)) (by first | with_reducible rfl | (simp only [nlit, nI_add, pk_mul]; with_reducible rfl) | rfl) (by first | assumption | omega) (by first | assumption | decide) ?_ | refine u_zald dX10_allWith_19 (by first | assumption | rfl | exact led_1 (by assumption) | exact led_2 (by assumption) | exact bk_m (by assumption) (by first | assumption | omega) | exact bk_p (by assumption) (by first | assumption | omega) | exact bk_o (by assumption) (by first | assumption | omega) | exact bk_s (by assumption) (by first | assumption | omega) | exact bk_1 (by assumption) | exact bk_2 (by assumption) | exact bk_3 (by assumption) | exact bk_4 (by assumption) | exact bk_5 (by assumption) | exact bk_6 (by assumption) | exact bk_7 (by assumption) | exact bk_8 (by assumption) | exact sh_ring _ (by first | assumption | omega) | exact sh_imgs _ (by first | assumption | omega)) (by first | with_reducible rfl | (simp only [nlit, nI_add, pk_mul]; with_reducible rfl) | rfl) (by first | assumption | omega) (by first | assumption | decide) ?_
    rw [hW.1 m hm]
    refine v_if_ne (tgt := 31) dX10_allWith_20 (by decide) (fun hc20 => ?_) (fun hc20 => ?_)
    · (first | rw [bI_0, Bool.not_eq_false] at hc20 | rw [bI_0] at hc20 | rw [show (0 : Int32) = nI 0 from rfl, nI_eq (by omega) (by omega)] at hc20 | skip)
      refine v_iconst (v := nI 0) dX10_allWith_31 (by decide) ?_
      refine v_iret dX10_allWith_32 rfl rfl rfl rfl ?_
      first
        | (have e : pg m = true := hc20; simp only [alw, if_pos e] at hQ; exact hQ)
        | (have e : pg m = false := hc20; have e2 : (c m).testBit p = false := hc28; simp only [alw, e, e2] at hQ; exact hQ)
        | (exfalso; omega)
    · (first | rw [bI_0, Bool.not_eq_false] at hc20 | rw [bI_0] at hc20 | rw [show (0 : Int32) = nI 0 from rfl, nI_eq (by omega) (by omega)] at hc20 | skip)
      refine v_iload_3 dX10_allWith_23 ?_
      refine v_iload_2 dX10_allWith_24 ?_
      refine v_ishr dX10_allWith_25 ?_
      refine v_iconst (v := nI 1) dX10_allWith_26 (by decide) ?_
      refine v_iand dX10_allWith_27 ?_
      rw [bit_b (by omega) (by omega)]
      refine v_if_ne (tgt := 33) dX10_allWith_28 (by decide) (fun hc28 => ?_) (fun hc28 => ?_)
      · (first | rw [bI_0, Bool.not_eq_false] at hc28 | rw [bI_0] at hc28 | rw [show (0 : Int32) = nI 0 from rfl, nI_eq (by omega) (by omega)] at hc28 | skip)
        refine v_aload_0 dX10_allWith_33 ?_
        refine u_getR dX10_allWith_34 gf_X10_21 (by first | assumption | rfl | exact led_1 (by assumption) | exact led_2 (by assumption) | exact bk_m (by assumption) (by first | assumption | omega) | exact bk_p (by assumption) (by first | assumption | omega) | exact bk_o (by assumption) (by first | assumption | omega) | exact bk_s (by assumption) (by first | assumption | omega) | exact bk_1 (by assumption) | exact bk_2 (by assumption) | exact bk_3 (by assumption) | exact bk_4 (by assumption) | exact bk_5 (by assumption) | exact bk_6 (by assumption) | exact bk_7 (by assumption) | exact bk_8 (by assumption) | exact sh_ring _ (by first | assumption | omega) | exact sh_imgs _ (by first | assumption | omega)) (ro_X10_6 (by assumption)) ?_
        refine v_iload_1 dX10_allWith_37 ?_
        refine v_iconst (v := nI 1) dX10_allWith_38 (by decide) ?_
        refine v_iload_2 dX10_allWith_39 ?_
        refine v_ishl dX10_allWith_40 ?_
        rw [one_shl (by omega)]
        refine u_iast dX10_allWith_41 (by first | assumption | rfl | exact led_1 (by assumption) | exact led_2 (by assumption) | exact bk_m (by assumption) (by first | assumption | omega) | exact bk_p (by assumption) (by first | assumption | omega) | exact bk_o (by assumption) (by first | assumption | omega) | exact bk_s (by assumption) (by first | assumption | omega) | exact bk_1 (by assumption) | exact bk_2 (by assumption) | exact bk_3 (by assumption) | exact bk_4 (by assumption) | exact bk_5 (by assumption) | exact bk_6 (by assumption) | exact bk_7 (by assumption) | exact bk_8 (by assumption) | exact sh_ring _ (by first | assumption | omega) | exact sh_imgs _ (by first | assumption | omega)) (by first | with_reducible rfl | (simp only [nlit, nI_add, pk_mul]; with_reducible rfl) | rfl) (by first | assumption | omega) (by first | assumption | decide) ?_
        have hF2 := BkI.fr hB hF hO (J := ui I 154 m (nI (2 ^ p))) (fun x hx => ui_ne (by omega))
        refine v_aload_0 dX10_allWith_42 ?_
        refine v_iconst (v := nI 0) dX10_allWith_43 (by decide) ?_
        refine v_iconst (v := nI 0) dX10_allWith_44 (by decide) ?_
        refine u_callV_2 dX10_allWith_45 ml_X10_104 mv_X10_ways (by first | assumption | rfl | exact led_1 (by assumption) | exact led_2 (by assumption) | exact bk_m (by assumption) (by first | assumption | omega) | exact bk_p (by assumption) (by first | assumption | omega) | exact bk_o (by assumption) (by first | assumption | omega) | exact bk_s (by assumption) (by first | assumption | omega) | exact bk_1 (by assumption) | exact bk_2 (by assumption) | exact bk_3 (by assumption) | exact bk_4 (by assumption) | exact bk_5 (by assumption) | exact bk_6 (by assumption) | exact bk_7 (by assumption) | exact bk_8 (by assumption) | exact sh_ring _ (by first | assumption | omega) | exact sh_imgs _ (by first | assumption | omega)) (by decide) rfl (by omega) (Nat.le_of_ble_eq_true rfl) (c_X10_ways hR hB hb hF2 hO (hW.up (by omega)) (F 2) 0 0 _ (by omega) ?_)
        refine v_istore_4 rfl dX10_allWith_48 ?_
        refine v_aload_0 dX10_allWith_50 ?_
        refine u_getR dX10_allWith_51 gf_X10_21 (by first | assumption | rfl | exact led_1 (by assumption) | exact led_2 (by assumption) | exact bk_m (by assumption) (by first | assumption | omega) | exact bk_p (by assumption) (by first | assumption | omega) | exact bk_o (by assumption) (by first | assumption | omega) | exact bk_s (by assumption) (by first | assumption | omega) | exact bk_1 (by assumption) | exact bk_2 (by assumption) | exact bk_3 (by assumption) | exact bk_4 (by assumption) | exact bk_5 (by assumption) | exact bk_6 (by assumption) | exact bk_7 (by assumption) | exact bk_8 (by assumption) | exact sh_ring _ (by first | assumption | omega) | exact sh_imgs _ (by first | assumption | omega)) (ro_X10_6 (by assumption)) ?_
        refine v_iload_1 dX10_allWith_54 ?_
        refine v_iload_3 dX10_allWith_55 ?_
        refine u_iast dX10_allWith_56 (by first | assumption | rfl | exact led_1 (by assumption) | exact led_2 (by assumption) | exact bk_m (by assumption) (by first | assumption | omega) | exact bk_p (by assumption) (by first | assumption | omega) | exact bk_o (by assumption) (by first | assumption | omega) | exact bk_s (by assumption) (by first | assumption | omega) | exact bk_1 (by assumption) | exact bk_2 (by assumption) | exact bk_3 (by assumption) | exact bk_4 (by assumption) | exact bk_5 (by assumption) | exact bk_6 (by assumption) | exact bk_7 (by assumption) | exact bk_8 (by assumption) | exact sh_ring _ (by first | assumption | omega) | exact sh_imgs _ (by first | assumption | omega)) (by first | with_reducible rfl | (simp only [nlit, nI_add, pk_mul]; with_reducible rfl) | rfl) (by first | assumption | omega) (by first | assumption | decide) ?_
        refine v_iload_4 dX10_allWith_57 ?_
        refine v_iret dX10_allWith_59 rfl rfl rfl rfl ?_
        rw [← (hW.2 m hm).1, ui_back]
        have e : pg m = false := hc20
        have e2 : (c m).testBit p = true := hc28
        simp only [alw, e, e2] at hQ; exact hQ
      · (first | rw [bI_0, Bool.not_eq_false] at hc28 | rw [bI_0] at hc28 | rw [show (0 : Int32) = nI 0 from rfl, nI_eq (by omega) (by omega)] at hc28 | skip)
        refine v_iconst (v := nI 0) dX10_allWith_31 (by decide) ?_
        refine v_iret dX10_allWith_32 rfl rfl rfl rfl ?_
        first
          | (have e : pg m = true := hc20; simp only [alw, if_pos e] at hQ; exact hQ)
          | (have e : pg m = false := hc20; have e2 : (c m).testBit p = false := hc28; simp only [alw, e, e2] at hQ; exact hQ)
          | (exfalso; omega)
theorem alw_lt {m p : Nat} (hO : FOK F) : alw F pg c m p < 2 ^ 31 := by
  unfold alw
  have h2 := hO.2.2.1
  have h3 := hO.2.2.2.1
  split
  · decide
  · split
    · exact wys_lt h3 h2
    · decide
theorem c_X10_personsIn {m : Nat} (hR : RO R) (hB : SH B = .inl 0) (hb : R 150 0 = some B) (hF : BkI I B F) (hO : FOK F) (hW : WcI I (F 2) pg c) (hf : ∃ z : Nat, z < 2 ^ 31 ∧ I 150 1 = nI z) (hm : m < F 2) (hQ : Q (some (.int (nI (bup (fun p => decide (0 < alw F pg c m p)) 0 (F 3) 0)))) SH I L R) : KK 8 mX10_personsIn b ad [.ref (b + 150), .int (nI m)] I L R Q := by
  obtain ⟨k0, k1, k2, k3, k4, k5, k6, -⟩ := id hO
  refine K.of (M := mX10_personsIn) (lv := [some (.ref (b + 150)), some (.int (nI m)), none, none]) (by decide) (Nat.le_of_ble_eq_true rfl) rfl ?_
  have loop : ∀ (j p acc : Nat), p + j = F 3 → Q (some (.int (nI (bup (fun p => decide (0 < alw F pg c m p)) p j acc)))) SH I L R → VV yX10_personsIn cX10_personsIn 4 (some .int) 8 Q b ad 4 [some (.ref (b + 150)), some (.int (nI m)), some (.int (nI acc)), some (.int (nI p))] [] I L R := by
    intro j
    induction j with
    | zero =>
      intro p acc hij hQ
      have hal := alw_lt (m := m) (p := p) (pg := pg) (c := c) hO
      refine v_iload_3 dX10_personsIn_4 ?_
      refine v_aload_0 dX10_personsIn_5 ?_
      refine u_getR dX10_personsIn_6 gf_X10_31 (by first | assumption | rfl | exact led_1 (by assumption) | exact led_2 (by assumption) | exact bk_m (by assumption) (by first | assumption | omega) | exact bk_p (by assumption) (by first | assumption | omega) | exact bk_o (by assumption) (by first | assumption | omega) | exact bk_s (by assumption) (by first | assumption | omega) | exact bk_1 (by assumption) | exact bk_2 (by assumption) | exact bk_3 (by assumption) | exact bk_4 (by assumption) | exact bk_5 (by assumption) | exact bk_6 (by assumption) | exact bk_7 (by assumption) | exact bk_8 (by assumption) | exact sh_ring _ (by first | assumption | omega) | exact sh_imgs _ (by first | assumption | omega)) (by assumption) ?_
      refine u_getI dX10_personsIn_9 gf_X10_90 (by first | assumption | rfl | exact led_1 (by assumption) | exact led_2 (by assumption) | exact bk_m (by assumption) (by first | assumption | omega) | exact bk_p (by assumption) (by first | assumption | omega) | exact bk_o (by assumption) (by first | assumption | omega) | exact bk_s (by assumption) (by first | assumption | omega) | exact bk_1 (by assumption) | exact bk_2 (by assumption) | exact bk_3 (by assumption) | exact bk_4 (by assumption) | exact bk_5 (by assumption) | exact bk_6 (by assumption) | exact bk_7 (by assumption) | exact bk_8 (by assumption) | exact sh_ring _ (by first | assumption | omega) | exact sh_imgs _ (by first | assumption | omega)) ?_
      (try rw [bx3 hF])
      refine v_icmp_ge (tgt := 36) dX10_personsIn_12 (by decide) (fun hc12 => ?_) (fun hc12 => ?_)
      · (try rw [nI_leI (by omega) (by omega)] at hc12)
        refine v_iload_2 dX10_personsIn_36 ?_
        refine v_iret dX10_personsIn_37 rfl rfl rfl rfl ?_
        exact hQ
      · (try rw [nI_leI (by omega) (by omega)] at hc12)
        exfalso; omega
    | succ j ih =>
      intro p acc hij hQ
      have hal := alw_lt (m := m) (p := p) (pg := pg) (c := c) hO
      refine v_iload_3 dX10_personsIn_4 ?_
      refine v_aload_0 dX10_personsIn_5 ?_
      refine u_getR dX10_personsIn_6 gf_X10_31 (by first | assumption | rfl | exact led_1 (by assumption) | exact led_2 (by assumption) | exact bk_m (by assumption) (by first | assumption | omega) | exact bk_p (by assumption) (by first | assumption | omega) | exact bk_o (by assumption) (by first | assumption | omega) | exact bk_s (by assumption) (by first | assumption | omega) | exact bk_1 (by assumption) | exact bk_2 (by assumption) | exact bk_3 (by assumption) | exact bk_4 (by assumption) | exact bk_5 (by assumption) | exact bk_6 (by assumption) | exact bk_7 (by assumption) | exact bk_8 (by assumption) | exact sh_ring _ (by first | assumption | omega) | exact sh_imgs _ (by first | assumption | omega)) (by assumption) ?_
      refine u_getI dX10_personsIn_9 gf_X10_90 (by first | assumption | rfl | exact led_1 (by assumption) | exact led_2 (by assumption) | exact bk_m (by assumption) (by first | assumption | omega) | exact bk_p (by assumption) (by first | assumption | omega) | exact bk_o (by assumption) (by first | assumption | omega) | exact bk_s (by assumption) (by first | assumption | omega) | exact bk_1 (by assumption) | exact bk_2 (by assumption) | exact bk_3 (by assumption) | exact bk_4 (by assumption) | exact bk_5 (by assumption) | exact bk_6 (by assumption) | exact bk_7 (by assumption) | exact bk_8 (by assumption) | exact sh_ring _ (by first | assumption | omega) | exact sh_imgs _ (by first | assumption | omega)) ?_
      (try rw [bx3 hF])
      refine v_icmp_ge (tgt := 36) dX10_personsIn_12 (by decide) (fun hc12 => ?_) (fun hc12 => ?_)
      · (try rw [nI_leI (by omega) (by omega)] at hc12)
        exfalso; omega
      · (try rw [nI_leI (by omega) (by omega)] at hc12)
        refine v_aload_0 dX10_personsIn_15 ?_
        refine v_iload_1 dX10_personsIn_16 ?_
        refine v_iload_3 dX10_personsIn_17 ?_
        refine u_callV_2 dX10_personsIn_18 ml_X10_127 mv_X10_allWith (by first | assumption | rfl | exact led_1 (by assumption) | exact led_2 (by assumption) | exact bk_m (by assumption) (by first | assumption | omega) | exact bk_p (by assumption) (by first | assumption | omega) | exact bk_o (by assumption) (by first | assumption | omega) | exact bk_s (by assumption) (by first | assumption | omega) | exact bk_1 (by assumption) | exact bk_2 (by assumption) | exact bk_3 (by assumption) | exact bk_4 (by assumption) | exact bk_5 (by assumption) | exact bk_6 (by assumption) | exact bk_7 (by assumption) | exact bk_8 (by assumption) | exact sh_ring _ (by first | assumption | omega) | exact sh_imgs _ (by first | assumption | omega)) (by decide) rfl (by decide) (Nat.le_of_ble_eq_true rfl) (c_X10_allWith hR hB hb hF hO hW hf hm (by omega) ?_)
        refine v_if_le (tgt := 30) dX10_personsIn_21 (by decide) (fun hc21 => ?_) (fun hc21 => ?_)
        · (first | rw [show (0 : Int32) = nI 0 from rfl, nI_ltI (by omega) (by omega)] at hc21 | rw [show (0 : Int32) = nI 0 from rfl, nI_leI (by omega) (by omega)] at hc21 | skip)
          refine v_iinc_3 (v := 1) rfl dX10_personsIn_30 (by decide) ?_
          refine v_goto (tgt := 4) dX10_personsIn_33 (by decide) ?_
          rw [← nI_succ]
          refine ih (p + 1) _ (by omega) ?_
          simp only [bup] at hQ
          first
            | (have e : decide (0 < alw F pg c m p) = true := decide_eq_true (Nat.not_le.mp hc21); simp only [e] at hQ; exact hQ)
            | (have e : decide (0 < alw F pg c m p) = false := decide_eq_false (Nat.not_lt.mpr hc21); simp only [e] at hQ; simpa using hQ)
        · (first | rw [show (0 : Int32) = nI 0 from rfl, nI_ltI (by omega) (by omega)] at hc21 | rw [show (0 : Int32) = nI 0 from rfl, nI_leI (by omega) (by omega)] at hc21 | skip)
          refine v_iload_2 dX10_personsIn_24 ?_
          refine v_iconst (v := nI 1) dX10_personsIn_25 (by decide) ?_
          refine v_iload_3 dX10_personsIn_26 ?_
          refine v_ishl dX10_personsIn_27 ?_
          rw [one_shl (by omega)]
          refine v_ior dX10_personsIn_28 ?_
          rw [nx_or]
          refine v_istore_2 rfl dX10_personsIn_29 ?_
          refine v_iinc_3 (v := 1) rfl dX10_personsIn_30 (by decide) ?_
          refine v_goto (tgt := 4) dX10_personsIn_33 (by decide) ?_
          rw [← nI_succ]
          refine ih (p + 1) _ (by omega) ?_
          simp only [bup] at hQ
          first
            | (have e : decide (0 < alw F pg c m p) = true := decide_eq_true (Nat.not_le.mp hc21); simp only [e] at hQ; exact hQ)
            | (have e : decide (0 < alw F pg c m p) = false := decide_eq_false (Nat.not_lt.mpr hc21); simp only [e] at hQ; simpa using hQ)
  refine v_iconst (v := nI 0) dX10_personsIn_0 (by decide) ?_
  refine v_istore_2 rfl dX10_personsIn_1 ?_
  refine v_iconst (v := nI 0) dX10_personsIn_2 (by decide) ?_
  refine v_istore_3 rfl dX10_personsIn_3 ?_
  exact loop (F 3) 0 0 (by omega) hQ
theorem c_X10_note (hR : RO R) (hB : SH B = .inl 0) (hb : R 150 0 = some B) (hF : BkI I B F) (hO : FOK F) (ha : SH a = .inl 2) (ha2 : ∀ x, x = a ∨ x = a + 1 → x ≠ 150 ∧ x ≠ 151 ∧ x ≠ 152 ∧ x ≠ 153) (hL : LedI I a n g) (hps : pers F n g) (hd : d < 2 ^ 31) (hQ : ∀ J, NtI J F n g d → (∀ x, x ≠ 150 → x ≠ 151 → x ≠ 152 → x ≠ 153 → J x = I x) → (∀ j, j ≠ 2 → J 150 j = I 150 j) → Q none SH J L R) : KK 4 mX10_note b ad [.ref (b + 150), .ref (b + a), .int (nI d)] I L R Q := by
  obtain ⟨k0, k1, k2, k3, k4, k5, k6, -⟩ := id hO
  refine K.of (M := mX10_note) (lv := [some (.ref (b + 150)), some (.ref (b + a)), some (.int (nI d)), none]) (by decide) (Nat.le_of_ble_eq_true rfl) rfl ?_
  have hF0 := hF
  have hL0 := hL
  obtain ⟨n0, n1, n2, n3⟩ := ha2 a (Or.inl rfl)
  obtain ⟨m0, m1, m2, m3⟩ := ha2 (a + 1) (Or.inr rfl)
  have loop2 : ∀ (j k : Nat) (J : HI), k + j = F 5 → (∀ m, m < F 2 → J 151 m = eP (lentP n g d m) ∧ J 152 m = nI (wrb F n g d m)) → J 150 2 = nI (bup (fun s => decide (F (129 + 5 * s) = d)) 0 k 0) → (∀ s, s < k → F (129 + 5 * s) = d → J 153 s = nI (rsb F s)) → (∀ x, x ≠ 150 → x ≠ 151 → x ≠ 152 → x ≠ 153 → J x = I x) ∧ (∀ j, j ≠ 2 → J 150 j = I 150 j) → VV yX10_note cX10_note 4 none 4 Q b ad 69 [some (.ref (b + 150)), some (.ref (b + a)), some (.int (nI d)), some (.int (nI k))] [] J L R := by
    intro j
    induction j with
    | zero =>
      intro k J hij hr ho hs hfr
      have hF := BkI.fr hB hF0 hO (J := J) (fun x hx => hfr.1 x (by omega) (by omega) (by omega) (by omega))
      refine v_iload_3 dX10_note_69 ?_
      refine v_aload_0 dX10_note_70 ?_
      refine u_getR dX10_note_71 gf_X10_31 (by first | assumption | rfl | exact led_1 (by assumption) | exact led_2 (by assumption) | exact bk_m (by assumption) (by first | assumption | omega) | exact bk_p (by assumption) (by first | assumption | omega) | exact bk_o (by assumption) (by first | assumption | omega) | exact bk_s (by assumption) (by first | assumption | omega) | exact bk_1 (by assumption) | exact bk_2 (by assumption) | exact bk_3 (by assumption) | exact bk_4 (by assumption) | exact bk_5 (by assumption) | exact bk_6 (by assumption) | exact bk_7 (by assumption) | exact bk_8 (by assumption) | exact sh_ring _ (by first | assumption | omega) | exact sh_imgs _ (by first | assumption | omega)) (by assumption) ?_
      refine u_getI dX10_note_74 gf_X10_43 (by first | assumption | rfl | exact led_1 (by assumption) | exact led_2 (by assumption) | exact bk_m (by assumption) (by first | assumption | omega) | exact bk_p (by assumption) (by first | assumption | omega) | exact bk_o (by assumption) (by first | assumption | omega) | exact bk_s (by assumption) (by first | assumption | omega) | exact bk_1 (by assumption) | exact bk_2 (by assumption) | exact bk_3 (by assumption) | exact bk_4 (by assumption) | exact bk_5 (by assumption) | exact bk_6 (by assumption) | exact bk_7 (by assumption) | exact bk_8 (by assumption) | exact sh_ring _ (by first | assumption | omega) | exact sh_imgs _ (by first | assumption | omega)) ?_
      (try rw [bx5 hF])
      refine v_icmp_ge (tgt := 133) dX10_note_77 (by decide) (fun hc77 => ?_) (fun hc77 => ?_)
      · (try rw [nI_leI (by omega) (by omega)] at hc77)
        refine v_vret dX10_note_133 rfl rfl rfl rfl ?_
        have e : k = F 5 := by omega
        subst e
        exact hQ J ⟨hr, ho, hs⟩ hfr.1 hfr.2
      · (try rw [nI_leI (by omega) (by omega)] at hc77)
        exfalso; omega
    | succ j ih =>
      intro k J hij hr ho hs hfr
      have hF := BkI.fr hB hF0 hO (J := J) (fun x hx => hfr.1 x (by omega) (by omega) (by omega) (by omega))
      obtain ⟨r1, r2, r3, r4, r5, r6⟩ := fk_s hO (show k < F 5 by omega)
      refine v_iload_3 dX10_note_69 ?_
      refine v_aload_0 dX10_note_70 ?_
      refine u_getR dX10_note_71 gf_X10_31 (by first | assumption | rfl | exact led_1 (by assumption) | exact led_2 (by assumption) | exact bk_m (by assumption) (by first | assumption | omega) | exact bk_p (by assumption) (by first | assumption | omega) | exact bk_o (by assumption) (by first | assumption | omega) | exact bk_s (by assumption) (by first | assumption | omega) | exact bk_1 (by assumption) | exact bk_2 (by assumption) | exact bk_3 (by assumption) | exact bk_4 (by assumption) | exact bk_5 (by assumption) | exact bk_6 (by assumption) | exact bk_7 (by assumption) | exact bk_8 (by assumption) | exact sh_ring _ (by first | assumption | omega) | exact sh_imgs _ (by first | assumption | omega)) (by assumption) ?_
      refine u_getI dX10_note_74 gf_X10_43 (by first | assumption | rfl | exact led_1 (by assumption) | exact led_2 (by assumption) | exact bk_m (by assumption) (by first | assumption | omega) | exact bk_p (by assumption) (by first | assumption | omega) | exact bk_o (by assumption) (by first | assumption | omega) | exact bk_s (by assumption) (by first | assumption | omega) | exact bk_1 (by assumption) | exact bk_2 (by assumption) | exact bk_3 (by assumption) | exact bk_4 (by assumption) | exact bk_5 (by assumption) | exact bk_6 (by assumption) | exact bk_7 (by assumption) | exact bk_8 (by assumption) | exact sh_ring _ (by first | assumption | omega) | exact sh_imgs _ (by first | assumption | omega)) ?_
      (try rw [bx5 hF])
      refine v_icmp_ge (tgt := 133) dX10_note_77 (by decide) (fun hc77 => ?_) (fun hc77 => ?_)
      · (try rw [nI_leI (by omega) (by omega)] at hc77)
        refine v_vret dX10_note_133 rfl rfl rfl rfl ?_
        exfalso; omega
      · (try rw [nI_leI (by omega) (by omega)] at hc77)
        refine v_aload_0 dX10_note_80 ?_
        refine u_getR dX10_note_81 gf_X10_31 (by first | assumption | rfl | exact led_1 (by assumption) | exact led_2 (by assumption) | exact bk_m (by assumption) (by first | assumption | omega) | exact bk_p (by assumption) (by first | assumption | omega) | exact bk_o (by assumption) (by first | assumption | omega) | exact bk_s (by assumption) (by first | assumption | omega) | exact bk_1 (by assumption) | exact bk_2 (by assumption) | exact bk_3 (by assumption) | exact bk_4 (by assumption) | exact bk_5 (by assumption) | exact bk_6 (by assumption) | exact bk_7 (by assumption) | exact bk_8 (by assumption) | exact sh_ring _ (by first | assumption | omega) | exact sh_imgs _ (by first | assumption | omega)) (by assumption) ?_
        refine u_getR dX10_note_84 gf_X10_77 (by first | assumption | rfl | exact led_1 (by assumption) | exact led_2 (by assumption) | exact bk_m (by assumption) (by first | assumption | omega) | exact bk_p (by assumption) (by first | assumption | omega) | exact bk_o (by assumption) (by first | assumption | omega) | exact bk_s (by assumption) (by first | assumption | omega) | exact bk_1 (by assumption) | exact bk_2 (by assumption) | exact bk_3 (by assumption) | exact bk_4 (by assumption) | exact bk_5 (by assumption) | exact bk_6 (by assumption) | exact bk_7 (by assumption) | exact bk_8 (by assumption) | exact sh_ring _ (by first | assumption | omega) | exact sh_imgs _ (by first | assumption | omega)) (ro_X0_10 (by assumption) (by assumption)) ?_
        refine v_iload_3 dX10_note_87 ?_
        refine u_aald dX10_note_88 (by first | assumption | rfl | exact led_1 (by assumption) | exact led_2 (by assumption) | exact bk_m (by assumption) (by first | assumption | omega) | exact bk_p (by assumption) (by first | assumption | omega) | exact bk_o (by assumption) (by first | assumption | omega) | exact bk_s (by assumption) (by first | assumption | omega) | exact bk_1 (by assumption) | exact bk_2 (by assumption) | exact bk_3 (by assumption) | exact bk_4 (by assumption) | exact bk_5 (by assumption) | exact bk_6 (by assumption) | exact bk_7 (by assumption) | exact bk_8 (by assumption) | exact sh_ring _ (by first | assumption | omega) | exact sh_imgs _ (by first | assumption | omega)) (by decide) (by decide) rfl (by first | with_reducible rfl | (simp only [nlit, nI_add, pk_mul]; with_reducible rfl) | rfl) (by first | assumption | omega) (by decide) (by first | exact ro_m (by assumption) (by assumption) (by first | assumption | omega) | exact ro_p (by assumption) (by assumption) (by first | assumption | omega) | exact ro_o (by assumption) (by assumption) (by first | assumption | omega) | exact ro_s (by assumption) (by assumption) (by first | assumption | omega) | exact ro_ring (by assumption) (by first | assumption | omega) | exact ro_imgs (by assumption) (by first | assumption | omega)) ?_
        refine u_getI dX10_note_89 gf_X10_81 (by first | assumption | rfl | exact led_1 (by assumption) | exact led_2 (by assumption) | exact bk_m (by assumption) (by first | assumption | omega) | exact bk_p (by assumption) (by first | assumption | omega) | exact bk_o (by assumption) (by first | assumption | omega) | exact bk_s (by assumption) (by first | assumption | omega) | exact bk_1 (by assumption) | exact bk_2 (by assumption) | exact bk_3 (by assumption) | exact bk_4 (by assumption) | exact bk_5 (by assumption) | exact bk_6 (by assumption) | exact bk_7 (by assumption) | exact bk_8 (by assumption) | exact sh_ring _ (by first | assumption | omega) | exact sh_imgs _ (by first | assumption | omega)) ?_
        (first | (rw [bs1 hF]; rotate_left; (first | assumption | omega)) | skip)
        refine v_iload_2 dX10_note_92 ?_
        refine v_icmp_ne (tgt := 127) dX10_note_93 (by decide) (fun hc93 => ?_) (fun hc93 => ?_)
        · (try rw [nI_eq (by omega) (by omega)] at hc93)
          refine v_iinc_3 (v := 1) rfl dX10_note_127 (by decide) ?_
          refine v_goto (tgt := 69) dX10_note_130 (by decide) ?_
          rw [← nI_succ]
          refine ih (k + 1) J (by omega) hr ?_ (fun s h1 h2 => ?_) hfr
          · rw [bup_snoc, Nat.zero_add, if_neg (by simp only [hc93, decide_false]; decide), Nat.or_zero]; exact ho
          · by_cases e : s = k
            · subst e; exact absurd h2 hc93
            · exact hs s (by omega) h2
        · (try rw [nI_eq (by omega) (by omega)] at hc93)
          refine v_aload_0 dX10_note_96 ?_
          refine v_dup dX10_note_97 rfl ?_
          refine u_getI dX10_note_98 gf_X10_48 (by first | assumption | rfl | exact led_1 (by assumption) | exact led_2 (by assumption) | exact bk_m (by assumption) (by first | assumption | omega) | exact bk_p (by assumption) (by first | assumption | omega) | exact bk_o (by assumption) (by first | assumption | omega) | exact bk_s (by assumption) (by first | assumption | omega) | exact bk_1 (by assumption) | exact bk_2 (by assumption) | exact bk_3 (by assumption) | exact bk_4 (by assumption) | exact bk_5 (by assumption) | exact bk_6 (by assumption) | exact bk_7 (by assumption) | exact bk_8 (by assumption) | exact sh_ring _ (by first | assumption | omega) | exact sh_imgs _ (by first | assumption | omega)) ?_
          rw [ho]
          refine v_iconst (v := nI 1) dX10_note_101 (by decide) ?_
          refine v_iload_3 dX10_note_102 ?_
          refine v_ishl dX10_note_103 ?_
          rw [one_shl (by omega)]
          refine v_ior dX10_note_104 ?_
          rw [nx_or]
          refine u_putI dX10_note_105 gf_X10_48 (by first | assumption | rfl | exact led_1 (by assumption) | exact led_2 (by assumption) | exact bk_m (by assumption) (by first | assumption | omega) | exact bk_p (by assumption) (by first | assumption | omega) | exact bk_o (by assumption) (by first | assumption | omega) | exact bk_s (by assumption) (by first | assumption | omega) | exact bk_1 (by assumption) | exact bk_2 (by assumption) | exact bk_3 (by assumption) | exact bk_4 (by assumption) | exact bk_5 (by assumption) | exact bk_6 (by assumption) | exact bk_7 (by assumption) | exact bk_8 (by assumption) | exact sh_ring _ (by first | assumption | omega) | exact sh_imgs _ (by first | assumption | omega)) rfl rfl rfl ?_
          have hF2 := BkI.fr hB hF0 hO (J := ui J 150 2 (nI (bup (fun s => decide (F (129 + 5 * s) = d)) 0 k 0 ||| 2 ^ k))) (fun x hx => by rw [ui_ne (by omega)]; exact hfr.1 x (by omega) (by omega) (by omega) (by omega))
          refine v_aload_0 dX10_note_108 ?_
          refine u_getR dX10_note_109 gf_X10_18 (by first | assumption | rfl | exact led_1 (by assumption) | exact led_2 (by assumption) | exact bk_m (by assumption) (by first | assumption | omega) | exact bk_p (by assumption) (by first | assumption | omega) | exact bk_o (by assumption) (by first | assumption | omega) | exact bk_s (by assumption) (by first | assumption | omega) | exact bk_1 (by assumption) | exact bk_2 (by assumption) | exact bk_3 (by assumption) | exact bk_4 (by assumption) | exact bk_5 (by assumption) | exact bk_6 (by assumption) | exact bk_7 (by assumption) | exact bk_8 (by assumption) | exact sh_ring _ (by first | assumption | omega) | exact sh_imgs _ (by first | assumption | omega)) (ro_X10_5 (by assumption)) ?_
          refine v_iload_3 dX10_note_112 ?_
          refine v_aload_0 dX10_note_113 ?_
          refine v_aload_0 dX10_note_114 ?_
          refine u_getR dX10_note_115 gf_X10_31 (by first | assumption | rfl | exact led_1 (by assumption) | exact led_2 (by assumption) | exact bk_m (by assumption) (by first | assumption | omega) | exact bk_p (by assumption) (by first | assumption | omega) | exact bk_o (by assumption) (by first | assumption | omega) | exact bk_s (by assumption) (by first | assumption | omega) | exact bk_1 (by assumption) | exact bk_2 (by assumption) | exact bk_3 (by assumption) | exact bk_4 (by assumption) | exact bk_5 (by assumption) | exact bk_6 (by assumption) | exact bk_7 (by assumption) | exact bk_8 (by assumption) | exact sh_ring _ (by first | assumption | omega) | exact sh_imgs _ (by first | assumption | omega)) (by assumption) ?_
          refine u_getR dX10_note_118 gf_X10_77 (by first | assumption | rfl | exact led_1 (by assumption) | exact led_2 (by assumption) | exact bk_m (by assumption) (by first | assumption | omega) | exact bk_p (by assumption) (by first | assumption | omega) | exact bk_o (by assumption) (by first | assumption | omega) | exact bk_s (by assumption) (by first | assumption | omega) | exact bk_1 (by assumption) | exact bk_2 (by assumption) | exact bk_3 (by assumption) | exact bk_4 (by assumption) | exact bk_5 (by assumption) | exact bk_6 (by assumption) | exact bk_7 (by assumption) | exact bk_8 (by assumption) | exact sh_ring _ (by first | assumption | omega) | exact sh_imgs _ (by first | assumption | omega)) (ro_X0_10 (by assumption) (by assumption)) ?_
          refine v_iload_3 dX10_note_121 ?_
          refine u_aald dX10_note_122 (by first | assumption | rfl | exact led_1 (by assumption) | exact led_2 (by assumption) | exact bk_m (by assumption) (by first | assumption | omega) | exact bk_p (by assumption) (by first | assumption | omega) | exact bk_o (by assumption) (by first | assumption | omega) | exact bk_s (by assumption) (by first | assumption | omega) | exact bk_1 (by assumption) | exact bk_2 (by assumption) | exact bk_3 (by assumption) | exact bk_4 (by assumption) | exact bk_5 (by assumption) | exact bk_6 (by assumption) | exact bk_7 (by assumption) | exact bk_8 (by assumption) | exact sh_ring _ (by first | assumption | omega) | exact sh_imgs _ (by first | assumption | omega)) (by decide) (by decide) rfl (by first | with_reducible rfl | (simp only [nlit, nI_add, pk_mul]; with_reducible rfl) | rfl) (by first | assumption | omega) (by decide) (by first | exact ro_m (by assumption) (by assumption) (by first | assumption | omega) | exact ro_p (by assumption) (by assumption) (by first | assumption | omega) | exact ro_o (by assumption) (by assumption) (by first | assumption | omega) | exact ro_s (by assumption) (by assumption) (by first | assumption | omega) | exact ro_ring (by assumption) (by first | assumption | omega) | exact ro_imgs (by assumption) (by first | assumption | omega)) ?_
          refine u_callV_1 dX10_note_123 ml_X10_86 mv_X10_personsLike (by first | assumption | rfl | exact led_1 (by assumption) | exact led_2 (by assumption) | exact bk_m (by assumption) (by first | assumption | omega) | exact bk_p (by assumption) (by first | assumption | omega) | exact bk_o (by assumption) (by first | assumption | omega) | exact bk_s (by assumption) (by first | assumption | omega) | exact bk_1 (by assumption) | exact bk_2 (by assumption) | exact bk_3 (by assumption) | exact bk_4 (by assumption) | exact bk_5 (by assumption) | exact bk_6 (by assumption) | exact bk_7 (by assumption) | exact bk_8 (by assumption) | exact sh_ring _ (by first | assumption | omega) | exact sh_imgs _ (by first | assumption | omega)) (by decide) rfl (by decide) (Nat.le_of_ble_eq_true rfl) (c_X10_personsLike hR hB hb hF2 hO (by omega) ?_)
          refine u_iast dX10_note_126 (by first | assumption | rfl | exact led_1 (by assumption) | exact led_2 (by assumption) | exact bk_m (by assumption) (by first | assumption | omega) | exact bk_p (by assumption) (by first | assumption | omega) | exact bk_o (by assumption) (by first | assumption | omega) | exact bk_s (by assumption) (by first | assumption | omega) | exact bk_1 (by assumption) | exact bk_2 (by assumption) | exact bk_3 (by assumption) | exact bk_4 (by assumption) | exact bk_5 (by assumption) | exact bk_6 (by assumption) | exact bk_7 (by assumption) | exact bk_8 (by assumption) | exact sh_ring _ (by first | assumption | omega) | exact sh_imgs _ (by first | assumption | omega)) (by first | with_reducible rfl | (simp only [nlit, nI_add, pk_mul]; with_reducible rfl) | rfl) (by first | assumption | omega) (by first | assumption | decide) ?_
          refine v_iinc_3 (v := 1) rfl dX10_note_127 (by decide) ?_
          refine v_goto (tgt := 69) dX10_note_130 (by decide) ?_
          rw [← nI_succ]
          refine ih (k + 1) _ (by omega) (fun m hm => ⟨by rw [ui_ne (by decide), ui_ne (by decide)]; exact (hr m hm).1, by rw [ui_ne (by decide), ui_ne (by decide)]; exact (hr m hm).2⟩) ?_ (fun s h1 h2 => ?_) ⟨fun x x0 x1 x2 x3 => by rw [ui_ne x3, ui_ne x0]; exact hfr.1 x x0 x1 x2 x3, fun j hj => by rw [ui_ne (by decide), ui_o hj]; exact hfr.2 j hj⟩
          · rw [ui_ne (by decide), ui_s, bup_snoc, Nat.zero_add, if_pos (by simp only [hc93, decide_true])]
          · by_cases e : s = k
            · subst e; rw [ui_s]; rfl
            · rw [ui_o e, ui_ne (by decide)]; exact hs s (by omega) h2
  have mid : ∀ (J : HI) {z : Option Value}, (∀ m, m < F 2 → J 151 m = eP (lentP n g d m) ∧ J 152 m = nI (wrb F n g d m)) → (∀ x, x ≠ 150 → x ≠ 151 → x ≠ 152 → x ≠ 153 → J x = I x) ∧ (∀ j, j ≠ 2 → J 150 j = I 150 j) → VV yX10_note cX10_note 4 none 4 Q b ad 62 [some (.ref (b + 150)), some (.ref (b + a)), some (.int (nI d)), z] [] J L R := by
    intro J z hr hfr
    refine v_aload_0 dX10_note_62 ?_
    refine v_iconst (v := nI 0) dX10_note_63 (by decide) ?_
    refine u_putI dX10_note_64 gf_X10_48 (by first | assumption | rfl | exact led_1 (by assumption) | exact led_2 (by assumption) | exact bk_m (by assumption) (by first | assumption | omega) | exact bk_p (by assumption) (by first | assumption | omega) | exact bk_o (by assumption) (by first | assumption | omega) | exact bk_s (by assumption) (by first | assumption | omega) | exact bk_1 (by assumption) | exact bk_2 (by assumption) | exact bk_3 (by assumption) | exact bk_4 (by assumption) | exact bk_5 (by assumption) | exact bk_6 (by assumption) | exact bk_7 (by assumption) | exact bk_8 (by assumption) | exact sh_ring _ (by first | assumption | omega) | exact sh_imgs _ (by first | assumption | omega)) rfl rfl rfl ?_
    refine v_iconst (v := nI 0) dX10_note_67 (by decide) ?_
    refine v_istore_3 rfl dX10_note_68 ?_
    exact loop2 (F 5) 0 _ (by omega) (fun m hm => ⟨by rw [ui_ne (by decide)]; exact (hr m hm).1, by rw [ui_ne (by decide)]; exact (hr m hm).2⟩) (by rw [ui_s]; rfl) (fun s h1 h2 => by omega) ⟨fun x x0 x1 x2 x3 => by rw [ui_ne x0]; exact hfr.1 x x0 x1 x2 x3, fun j hj => by rw [ui_o hj]; exact hfr.2 j hj⟩
  have loop1 : ∀ (j k : Nat) (J : HI), k + j = F 2 → (∀ m, m < k → J 151 m = eP (lentP n g d m) ∧ J 152 m = nI (wrb F n g d m)) → (∀ x, x ≠ 150 → x ≠ 151 → x ≠ 152 → x ≠ 153 → J x = I x) ∧ (∀ j, j ≠ 2 → J 150 j = I 150 j) → VV yX10_note cX10_note 4 none 4 Q b ad 2 [some (.ref (b + 150)), some (.ref (b + a)), some (.int (nI d)), some (.int (nI k))] [] J L R := by
    intro j
    induction j with
    | zero =>
      intro k J hij hr hfr
      have hF := BkI.fr hB hF0 hO (J := J) (fun x hx => hfr.1 x (by omega) (by omega) (by omega) (by omega))
      refine v_iload_3 dX10_note_2 ?_
      refine v_aload_0 dX10_note_3 ?_
      refine u_getR dX10_note_4 gf_X10_31 (by first | assumption | rfl | exact led_1 (by assumption) | exact led_2 (by assumption) | exact bk_m (by assumption) (by first | assumption | omega) | exact bk_p (by assumption) (by first | assumption | omega) | exact bk_o (by assumption) (by first | assumption | omega) | exact bk_s (by assumption) (by first | assumption | omega) | exact bk_1 (by assumption) | exact bk_2 (by assumption) | exact bk_3 (by assumption) | exact bk_4 (by assumption) | exact bk_5 (by assumption) | exact bk_6 (by assumption) | exact bk_7 (by assumption) | exact bk_8 (by assumption) | exact sh_ring _ (by first | assumption | omega) | exact sh_imgs _ (by first | assumption | omega)) (by assumption) ?_
      refine u_getI dX10_note_7 gf_X10_65 (by first | assumption | rfl | exact led_1 (by assumption) | exact led_2 (by assumption) | exact bk_m (by assumption) (by first | assumption | omega) | exact bk_p (by assumption) (by first | assumption | omega) | exact bk_o (by assumption) (by first | assumption | omega) | exact bk_s (by assumption) (by first | assumption | omega) | exact bk_1 (by assumption) | exact bk_2 (by assumption) | exact bk_3 (by assumption) | exact bk_4 (by assumption) | exact bk_5 (by assumption) | exact bk_6 (by assumption) | exact bk_7 (by assumption) | exact bk_8 (by assumption) | exact sh_ring _ (by first | assumption | omega) | exact sh_imgs _ (by first | assumption | omega)) ?_
      (try rw [bx2 hF])
      refine v_icmp_ge (tgt := 62) dX10_note_10 (by decide) (fun hc10 => ?_) (fun hc10 => ?_)
      · (try rw [nI_leI (by omega) (by omega)] at hc10)
        have e : k = F 2 := by omega
        subst e
        exact mid J hr hfr
      · (try rw [nI_leI (by omega) (by omega)] at hc10)
        exfalso; omega
    | succ j ih =>
      intro k J hij hr hfr
      have hF := BkI.fr hB hF0 hO (J := J) (fun x hx => hfr.1 x (by omega) (by omega) (by omega) (by omega))
      have hL := hL0.same (hfr.1 a n0 n1 n2 n3) (hfr.1 (a + 1) m0 m1 m2 m3)
      refine v_iload_3 dX10_note_2 ?_
      refine v_aload_0 dX10_note_3 ?_
      refine u_getR dX10_note_4 gf_X10_31 (by first | assumption | rfl | exact led_1 (by assumption) | exact led_2 (by assumption) | exact bk_m (by assumption) (by first | assumption | omega) | exact bk_p (by assumption) (by first | assumption | omega) | exact bk_o (by assumption) (by first | assumption | omega) | exact bk_s (by assumption) (by first | assumption | omega) | exact bk_1 (by assumption) | exact bk_2 (by assumption) | exact bk_3 (by assumption) | exact bk_4 (by assumption) | exact bk_5 (by assumption) | exact bk_6 (by assumption) | exact bk_7 (by assumption) | exact bk_8 (by assumption) | exact sh_ring _ (by first | assumption | omega) | exact sh_imgs _ (by first | assumption | omega)) (by assumption) ?_
      refine u_getI dX10_note_7 gf_X10_65 (by first | assumption | rfl | exact led_1 (by assumption) | exact led_2 (by assumption) | exact bk_m (by assumption) (by first | assumption | omega) | exact bk_p (by assumption) (by first | assumption | omega) | exact bk_o (by assumption) (by first | assumption | omega) | exact bk_s (by assumption) (by first | assumption | omega) | exact bk_1 (by assumption) | exact bk_2 (by assumption) | exact bk_3 (by assumption) | exact bk_4 (by assumption) | exact bk_5 (by assumption) | exact bk_6 (by assumption) | exact bk_7 (by assumption) | exact bk_8 (by assumption) | exact sh_ring _ (by first | assumption | omega) | exact sh_imgs _ (by first | assumption | omega)) ?_
      (try rw [bx2 hF])
      refine v_icmp_ge (tgt := 62) dX10_note_10 (by decide) (fun hc10 => ?_) (fun hc10 => ?_)
      · (try rw [nI_leI (by omega) (by omega)] at hc10)
        exfalso; omega
      · (try rw [nI_leI (by omega) (by omega)] at hc10)
        refine v_aload_0 dX10_note_13 ?_
        refine u_getR dX10_note_14 gf_X10_9 (by first | assumption | rfl | exact led_1 (by assumption) | exact led_2 (by assumption) | exact bk_m (by assumption) (by first | assumption | omega) | exact bk_p (by assumption) (by first | assumption | omega) | exact bk_o (by assumption) (by first | assumption | omega) | exact bk_s (by assumption) (by first | assumption | omega) | exact bk_1 (by assumption) | exact bk_2 (by assumption) | exact bk_3 (by assumption) | exact bk_4 (by assumption) | exact bk_5 (by assumption) | exact bk_6 (by assumption) | exact bk_7 (by assumption) | exact bk_8 (by assumption) | exact sh_ring _ (by first | assumption | omega) | exact sh_imgs _ (by first | assumption | omega)) (ro_X10_3 (by assumption)) ?_
        refine v_iload_3 dX10_note_17 ?_
        refine v_aload_1 dX10_note_18 ?_
        refine v_iload_3 dX10_note_19 ?_
        refine v_iload_2 dX10_note_20 ?_
        refine u_callV_2 dX10_note_21 ml_X10_68 mv_X2_personIn (by first | assumption | rfl | exact led_1 (by assumption) | exact led_2 (by assumption) | exact bk_m (by assumption) (by first | assumption | omega) | exact bk_p (by assumption) (by first | assumption | omega) | exact bk_o (by assumption) (by first | assumption | omega) | exact bk_s (by assumption) (by first | assumption | omega) | exact bk_1 (by assumption) | exact bk_2 (by assumption) | exact bk_3 (by assumption) | exact bk_4 (by assumption) | exact bk_5 (by assumption) | exact bk_6 (by assumption) | exact bk_7 (by assumption) | exact bk_8 (by assumption) | exact sh_ring _ (by first | assumption | omega) | exact sh_imgs _ (by first | assumption | omega)) (by decide) rfl (by decide) (Nat.le_of_ble_eq_true rfl) (c_X2_personIn hR ha hL (by omega) hd ?_)
        refine u_iast dX10_note_24 (by first | assumption | rfl | exact led_1 (by assumption) | exact led_2 (by assumption) | exact bk_m (by assumption) (by first | assumption | omega) | exact bk_p (by assumption) (by first | assumption | omega) | exact bk_o (by assumption) (by first | assumption | omega) | exact bk_s (by assumption) (by first | assumption | omega) | exact bk_1 (by assumption) | exact bk_2 (by assumption) | exact bk_3 (by assumption) | exact bk_4 (by assumption) | exact bk_5 (by assumption) | exact bk_6 (by assumption) | exact bk_7 (by assumption) | exact bk_8 (by assumption) | exact sh_ring _ (by first | assumption | omega) | exact sh_imgs _ (by first | assumption | omega)) (by first | with_reducible rfl | (simp only [nlit, nI_add, pk_mul]; with_reducible rfl) | rfl) (by first | assumption | omega) (by first | assumption | decide) ?_
        rw [eM_eP, show Option.map (fun i => (g i).2.1) (fup (hitm g k d d) 0 n) = lentP n g d k from rfl]
        cases hlp : lentP n g d k with
        | none =>
          refine v_aload_0 dX10_note_25 ?_
          refine u_getR dX10_note_26 gf_X10_15 (by first | assumption | rfl | exact led_1 (by assumption) | exact led_2 (by assumption) | exact bk_m (by assumption) (by first | assumption | omega) | exact bk_p (by assumption) (by first | assumption | omega) | exact bk_o (by assumption) (by first | assumption | omega) | exact bk_s (by assumption) (by first | assumption | omega) | exact bk_1 (by assumption) | exact bk_2 (by assumption) | exact bk_3 (by assumption) | exact bk_4 (by assumption) | exact bk_5 (by assumption) | exact bk_6 (by assumption) | exact bk_7 (by assumption) | exact bk_8 (by assumption) | exact sh_ring _ (by first | assumption | omega) | exact sh_imgs _ (by first | assumption | omega)) (ro_X10_4 (by assumption)) ?_
          refine v_iload_3 dX10_note_29 ?_
          refine v_aload_0 dX10_note_30 ?_
          refine u_getR dX10_note_31 gf_X10_9 (by first | assumption | rfl | exact led_1 (by assumption) | exact led_2 (by assumption) | exact bk_m (by assumption) (by first | assumption | omega) | exact bk_p (by assumption) (by first | assumption | omega) | exact bk_o (by assumption) (by first | assumption | omega) | exact bk_s (by assumption) (by first | assumption | omega) | exact bk_1 (by assumption) | exact bk_2 (by assumption) | exact bk_3 (by assumption) | exact bk_4 (by assumption) | exact bk_5 (by assumption) | exact bk_6 (by assumption) | exact bk_7 (by assumption) | exact bk_8 (by assumption) | exact sh_ring _ (by first | assumption | omega) | exact sh_imgs _ (by first | assumption | omega)) (ro_X10_3 (by assumption)) ?_
          refine v_iload_3 dX10_note_34 ?_
          refine u_iald dX10_note_35 (by first | assumption | rfl | exact led_1 (by assumption) | exact led_2 (by assumption) | exact bk_m (by assumption) (by first | assumption | omega) | exact bk_p (by assumption) (by first | assumption | omega) | exact bk_o (by assumption) (by first | assumption | omega) | exact bk_s (by assumption) (by first | assumption | omega) | exact bk_1 (by assumption) | exact bk_2 (by assumption) | exact bk_3 (by assumption) | exact bk_4 (by assumption) | exact bk_5 (by assumption) | exact bk_6 (by assumption) | exact bk_7 (by assumption) | exact bk_8 (by assumption) | exact sh_ring _ (by first | assumption | omega) | exact sh_imgs _ (by first | assumption | omega)) (by first | with_reducible rfl | (simp only [nlit, nI_add, pk_mul]; with_reducible rfl) | rfl) (by first | assumption | omega) (by first | assumption | decide) ?_
          rw [ui_s]
          simp only [eP]
          have hF2 := BkI.fr hB hF0 hO (J := ui J 151 k (-2)) (fun x hx => by rw [ui_ne (by omega)]; exact hfr.1 x (by omega) (by omega) (by omega) (by omega))
          refine v_if_ge (tgt := 47) dX10_note_36 (by decide) (fun hc36 => ?_) (fun hc36 => ?_)
          · (first | rw [show (0 : Int32) = nI 0 from rfl, nI_ltI (by omega) (by omega)] at hc36 | rw [show (0 : Int32) = nI 0 from rfl, nI_leI (by omega) (by omega)] at hc36 | skip)
            exfalso; exact absurd hc36 (by decide)
          · (first | rw [show (0 : Int32) = nI 0 from rfl, nI_ltI (by omega) (by omega)] at hc36 | rw [show (0 : Int32) = nI 0 from rfl, nI_leI (by omega) (by omega)] at hc36 | skip)
            refine v_aload_0 dX10_note_39 ?_
            refine v_iload_3 dX10_note_40 ?_
            refine u_callV_1 dX10_note_41 ml_X10_74 mv_X10_personsFor (by first | assumption | rfl | exact led_1 (by assumption) | exact led_2 (by assumption) | exact bk_m (by assumption) (by first | assumption | omega) | exact bk_p (by assumption) (by first | assumption | omega) | exact bk_o (by assumption) (by first | assumption | omega) | exact bk_s (by assumption) (by first | assumption | omega) | exact bk_1 (by assumption) | exact bk_2 (by assumption) | exact bk_3 (by assumption) | exact bk_4 (by assumption) | exact bk_5 (by assumption) | exact bk_6 (by assumption) | exact bk_7 (by assumption) | exact bk_8 (by assumption) | exact sh_ring _ (by first | assumption | omega) | exact sh_imgs _ (by first | assumption | omega)) (by decide) rfl (by decide) (Nat.le_of_ble_eq_true rfl) (c_X10_personsFor hR hB hb hF2 hO (by omega) ?_)
            refine v_goto (tgt := 55) dX10_note_44 (by decide) ?_
            refine u_iast dX10_note_55 (by first | assumption | rfl | exact led_1 (by assumption) | exact led_2 (by assumption) | exact bk_m (by assumption) (by first | assumption | omega) | exact bk_p (by assumption) (by first | assumption | omega) | exact bk_o (by assumption) (by first | assumption | omega) | exact bk_s (by assumption) (by first | assumption | omega) | exact bk_1 (by assumption) | exact bk_2 (by assumption) | exact bk_3 (by assumption) | exact bk_4 (by assumption) | exact bk_5 (by assumption) | exact bk_6 (by assumption) | exact bk_7 (by assumption) | exact bk_8 (by assumption) | exact sh_ring _ (by first | assumption | omega) | exact sh_imgs _ (by first | assumption | omega)) (by first | with_reducible rfl | (simp only [nlit, nI_add, pk_mul]; with_reducible rfl) | rfl) (by first | assumption | omega) (by first | assumption | decide) ?_
            refine v_iinc_3 (v := 1) rfl dX10_note_56 (by decide) ?_
            refine v_goto (tgt := 2) dX10_note_59 (by decide) ?_
            rw [← nI_succ]
            refine ih (k + 1) _ (by omega) (fun m hm => ?_) ⟨fun x x0 x1 x2 x3 => by rw [ui_ne x2, ui_ne x1]; exact hfr.1 x x0 x1 x2 x3, fun j hj => by rw [ui_ne (by decide), ui_ne (by decide)]; exact hfr.2 j hj⟩
            by_cases e : m = k
            · subst e; rw [ui_ne (by decide), ui_s, ui_s, show wrb F n g d m = bup (fun p => fitF F m p) 0 (F 3) 0 from by simp only [wrb, hlp], hlp]; exact ⟨rfl, rfl⟩
            · rw [ui_ne (by decide), ui_o e, ui_o e, ui_ne (by decide)]; exact hr m (by omega)
        | some p =>
          have hp := lentP_lt hps hlp
          refine v_aload_0 dX10_note_25 ?_
          refine u_getR dX10_note_26 gf_X10_15 (by first | assumption | rfl | exact led_1 (by assumption) | exact led_2 (by assumption) | exact bk_m (by assumption) (by first | assumption | omega) | exact bk_p (by assumption) (by first | assumption | omega) | exact bk_o (by assumption) (by first | assumption | omega) | exact bk_s (by assumption) (by first | assumption | omega) | exact bk_1 (by assumption) | exact bk_2 (by assumption) | exact bk_3 (by assumption) | exact bk_4 (by assumption) | exact bk_5 (by assumption) | exact bk_6 (by assumption) | exact bk_7 (by assumption) | exact bk_8 (by assumption) | exact sh_ring _ (by first | assumption | omega) | exact sh_imgs _ (by first | assumption | omega)) (ro_X10_4 (by assumption)) ?_
          refine v_iload_3 dX10_note_29 ?_
          refine v_aload_0 dX10_note_30 ?_
          refine u_getR dX10_note_31 gf_X10_9 (by first | assumption | rfl | exact led_1 (by assumption) | exact led_2 (by assumption) | exact bk_m (by assumption) (by first | assumption | omega) | exact bk_p (by assumption) (by first | assumption | omega) | exact bk_o (by assumption) (by first | assumption | omega) | exact bk_s (by assumption) (by first | assumption | omega) | exact bk_1 (by assumption) | exact bk_2 (by assumption) | exact bk_3 (by assumption) | exact bk_4 (by assumption) | exact bk_5 (by assumption) | exact bk_6 (by assumption) | exact bk_7 (by assumption) | exact bk_8 (by assumption) | exact sh_ring _ (by first | assumption | omega) | exact sh_imgs _ (by first | assumption | omega)) (ro_X10_3 (by assumption)) ?_
          refine v_iload_3 dX10_note_34 ?_
          refine u_iald dX10_note_35 (by first | assumption | rfl | exact led_1 (by assumption) | exact led_2 (by assumption) | exact bk_m (by assumption) (by first | assumption | omega) | exact bk_p (by assumption) (by first | assumption | omega) | exact bk_o (by assumption) (by first | assumption | omega) | exact bk_s (by assumption) (by first | assumption | omega) | exact bk_1 (by assumption) | exact bk_2 (by assumption) | exact bk_3 (by assumption) | exact bk_4 (by assumption) | exact bk_5 (by assumption) | exact bk_6 (by assumption) | exact bk_7 (by assumption) | exact bk_8 (by assumption) | exact sh_ring _ (by first | assumption | omega) | exact sh_imgs _ (by first | assumption | omega)) (by first | with_reducible rfl | (simp only [nlit, nI_add, pk_mul]; with_reducible rfl) | rfl) (by first | assumption | omega) (by first | assumption | decide) ?_
          rw [ui_s]
          simp only [eP]
          refine v_if_ge (tgt := 47) dX10_note_36 (by decide) (fun hc36 => ?_) (fun hc36 => ?_)
          · (first | rw [show (0 : Int32) = nI 0 from rfl, nI_ltI (by omega) (by omega)] at hc36 | rw [show (0 : Int32) = nI 0 from rfl, nI_leI (by omega) (by omega)] at hc36 | skip)
            refine v_iconst (v := nI 1) dX10_note_47 (by decide) ?_
            refine v_aload_0 dX10_note_48 ?_
            refine u_getR dX10_note_49 gf_X10_9 (by first | assumption | rfl | exact led_1 (by assumption) | exact led_2 (by assumption) | exact bk_m (by assumption) (by first | assumption | omega) | exact bk_p (by assumption) (by first | assumption | omega) | exact bk_o (by assumption) (by first | assumption | omega) | exact bk_s (by assumption) (by first | assumption | omega) | exact bk_1 (by assumption) | exact bk_2 (by assumption) | exact bk_3 (by assumption) | exact bk_4 (by assumption) | exact bk_5 (by assumption) | exact bk_6 (by assumption) | exact bk_7 (by assumption) | exact bk_8 (by assumption) | exact sh_ring _ (by first | assumption | omega) | exact sh_imgs _ (by first | assumption | omega)) (ro_X10_3 (by assumption)) ?_
            refine v_iload_3 dX10_note_52 ?_
            refine u_iald dX10_note_53 (by first | assumption | rfl | exact led_1 (by assumption) | exact led_2 (by assumption) | exact bk_m (by assumption) (by first | assumption | omega) | exact bk_p (by assumption) (by first | assumption | omega) | exact bk_o (by assumption) (by first | assumption | omega) | exact bk_s (by assumption) (by first | assumption | omega) | exact bk_1 (by assumption) | exact bk_2 (by assumption) | exact bk_3 (by assumption) | exact bk_4 (by assumption) | exact bk_5 (by assumption) | exact bk_6 (by assumption) | exact bk_7 (by assumption) | exact bk_8 (by assumption) | exact sh_ring _ (by first | assumption | omega) | exact sh_imgs _ (by first | assumption | omega)) (by first | with_reducible rfl | (simp only [nlit, nI_add, pk_mul]; with_reducible rfl) | rfl) (by first | assumption | omega) (by first | assumption | decide) ?_
            rw [ui_s]
            refine v_ishl dX10_note_54 ?_
            rw [one_shl (by omega)]
            refine u_iast dX10_note_55 (by first | assumption | rfl | exact led_1 (by assumption) | exact led_2 (by assumption) | exact bk_m (by assumption) (by first | assumption | omega) | exact bk_p (by assumption) (by first | assumption | omega) | exact bk_o (by assumption) (by first | assumption | omega) | exact bk_s (by assumption) (by first | assumption | omega) | exact bk_1 (by assumption) | exact bk_2 (by assumption) | exact bk_3 (by assumption) | exact bk_4 (by assumption) | exact bk_5 (by assumption) | exact bk_6 (by assumption) | exact bk_7 (by assumption) | exact bk_8 (by assumption) | exact sh_ring _ (by first | assumption | omega) | exact sh_imgs _ (by first | assumption | omega)) (by first | with_reducible rfl | (simp only [nlit, nI_add, pk_mul]; with_reducible rfl) | rfl) (by first | assumption | omega) (by first | assumption | decide) ?_
            refine v_iinc_3 (v := 1) rfl dX10_note_56 (by decide) ?_
            refine v_goto (tgt := 2) dX10_note_59 (by decide) ?_
            rw [← nI_succ]
            refine ih (k + 1) _ (by omega) (fun m hm => ?_) ⟨fun x x0 x1 x2 x3 => by rw [ui_ne x2, ui_ne x1]; exact hfr.1 x x0 x1 x2 x3, fun j hj => by rw [ui_ne (by decide), ui_ne (by decide)]; exact hfr.2 j hj⟩
            by_cases e : m = k
            · subst e; rw [ui_ne (by decide), ui_s, ui_s, show wrb F n g d m = 2 ^ p from by simp only [wrb, hlp], hlp]; exact ⟨rfl, rfl⟩
            · rw [ui_ne (by decide), ui_o e, ui_o e, ui_ne (by decide)]; exact hr m (by omega)
          · (first | rw [show (0 : Int32) = nI 0 from rfl, nI_ltI (by omega) (by omega)] at hc36 | rw [show (0 : Int32) = nI 0 from rfl, nI_leI (by omega) (by omega)] at hc36 | skip)
            exfalso; omega
  refine v_iconst (v := nI 0) dX10_note_0 (by decide) ?_
  refine v_istore_3 rfl dX10_note_1 ?_
  exact loop1 (F 2) 0 I (by omega) (fun m hm => by omega) ⟨fun x _ _ _ _ => rfl, fun j _ => rfl⟩
end
