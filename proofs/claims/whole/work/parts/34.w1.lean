section
variable {b : Nat} {ad : Nat → Nat} {I : HI} {L : HL} {R : HR} {Q : QT} {a B n d : Nat} {F : bkF} {g : lends} {br : Nat → Nat} {pg : Nat → Bool} {c : Nat → Nat}
theorem c_X10_personsFor {m : Nat} (hR : RO R) (hB : SH B = .inl 0) (hb : R 150 0 = some B) (hF : BkI I B F) (hO : FOK F) (hm : m < F 2) (hQ : Q (some (.int (nI (bup (fun p => fitF F m p) 0 (F 3) 0)))) SH I L R) : KK 3 mX10_personsFor b ad [.ref (b + 150), .int (nI m)] I L R Q := by
  obtain ⟨k0, k1, k2, k3, k4, k5, k6, -⟩ := id hO
  refine K.of (M := mX10_personsFor) (lv := [some (.ref (b + 150)), some (.int (nI m)), none, none]) (by decide) (Nat.le_of_ble_eq_true rfl) rfl ?_
  have loop : ∀ (j p acc : Nat), p + j = F 3 → Q (some (.int (nI (bup (fun p => fitF F m p) p j acc)))) SH I L R → VV yX10_personsFor cX10_personsFor 4 (some .int) 3 Q b ad 4 [some (.ref (b + 150)), some (.int (nI m)), some (.int (nI acc)), some (.int (nI p))] [] I L R := by
    intro j
    induction j with
    | zero =>
      intro p acc hij hQ
      refine v_iload_3 dX10_personsFor_4 ?_
      refine v_aload_0 dX10_personsFor_5 ?_
      refine u_getR dX10_personsFor_6 gf_X10_31 (by first | assumption | rfl | exact led_1 (by assumption) | exact led_2 (by assumption) | exact bk_m (by assumption) (by first | assumption | omega) | exact bk_p (by assumption) (by first | assumption | omega) | exact bk_o (by assumption) (by first | assumption | omega) | exact bk_s (by assumption) (by first | assumption | omega) | exact bk_1 (by assumption) | exact bk_2 (by assumption) | exact bk_3 (by assumption) | exact bk_4 (by assumption) | exact bk_5 (by assumption) | exact bk_6 (by assumption) | exact bk_7 (by assumption) | exact bk_8 (by assumption) | exact sh_ring _ (by first | assumption | omega) | exact sh_imgs _ (by first | assumption | omega)) (by assumption) ?_
      refine u_getI dX10_personsFor_9 gf_X10_90 (by first | assumption | rfl | exact led_1 (by assumption) | exact led_2 (by assumption) | exact bk_m (by assumption) (by first | assumption | omega) | exact bk_p (by assumption) (by first | assumption | omega) | exact bk_o (by assumption) (by first | assumption | omega) | exact bk_s (by assumption) (by first | assumption | omega) | exact bk_1 (by assumption) | exact bk_2 (by assumption) | exact bk_3 (by assumption) | exact bk_4 (by assumption) | exact bk_5 (by assumption) | exact bk_6 (by assumption) | exact bk_7 (by assumption) | exact bk_8 (by assumption) | exact sh_ring _ (by first | assumption | omega) | exact sh_imgs _ (by first | assumption | omega)) ?_
      (try rw [bx3 hF])
      refine v_icmp_ge (tgt := 39) dX10_personsFor_12 (by decide) (fun hc12 => ?_) (fun hc12 => ?_)
      · (try rw [nI_leI (by omega) (by omega)] at hc12)
        refine v_iload_2 dX10_personsFor_39 ?_
        refine v_iret dX10_personsFor_40 rfl rfl rfl rfl ?_
        exact hQ
      · (try rw [nI_leI (by omega) (by omega)] at hc12)
        exfalso; omega
    | succ j ih =>
      intro p acc hij hQ
      refine v_iload_3 dX10_personsFor_4 ?_
      refine v_aload_0 dX10_personsFor_5 ?_
      refine u_getR dX10_personsFor_6 gf_X10_31 (by first | assumption | rfl | exact led_1 (by assumption) | exact led_2 (by assumption) | exact bk_m (by assumption) (by first | assumption | omega) | exact bk_p (by assumption) (by first | assumption | omega) | exact bk_o (by assumption) (by first | assumption | omega) | exact bk_s (by assumption) (by first | assumption | omega) | exact bk_1 (by assumption) | exact bk_2 (by assumption) | exact bk_3 (by assumption) | exact bk_4 (by assumption) | exact bk_5 (by assumption) | exact bk_6 (by assumption) | exact bk_7 (by assumption) | exact bk_8 (by assumption) | exact sh_ring _ (by first | assumption | omega) | exact sh_imgs _ (by first | assumption | omega)) (by assumption) ?_
      refine u_getI dX10_personsFor_9 gf_X10_90 (by first | assumption | rfl | exact led_1 (by assumption) | exact led_2 (by assumption) | exact bk_m (by assumption) (by first | assumption | omega) | exact bk_p (by assumption) (by first | assumption | omega) | exact bk_o (by assumption) (by first | assumption | omega) | exact bk_s (by assumption) (by first | assumption | omega) | exact bk_1 (by assumption) | exact bk_2 (by assumption) | exact bk_3 (by assumption) | exact bk_4 (by assumption) | exact bk_5 (by assumption) | exact bk_6 (by assumption) | exact bk_7 (by assumption) | exact bk_8 (by assumption) | exact sh_ring _ (by first | assumption | omega) | exact sh_imgs _ (by first | assumption | omega)) ?_
      (try rw [bx3 hF])
      refine v_icmp_ge (tgt := 39) dX10_personsFor_12 (by decide) (fun hc12 => ?_) (fun hc12 => ?_)
      · (try rw [nI_leI (by omega) (by omega)] at hc12)
        exfalso; omega
      · (try rw [nI_leI (by omega) (by omega)] at hc12)
        refine v_aload_0 dX10_personsFor_15 ?_
        refine u_getR dX10_personsFor_16 gf_X10_31 (by first | assumption | rfl | exact led_1 (by assumption) | exact led_2 (by assumption) | exact bk_m (by assumption) (by first | assumption | omega) | exact bk_p (by assumption) (by first | assumption | omega) | exact bk_o (by assumption) (by first | assumption | omega) | exact bk_s (by assumption) (by first | assumption | omega) | exact bk_1 (by assumption) | exact bk_2 (by assumption) | exact bk_3 (by assumption) | exact bk_4 (by assumption) | exact bk_5 (by assumption) | exact bk_6 (by assumption) | exact bk_7 (by assumption) | exact bk_8 (by assumption) | exact sh_ring _ (by first | assumption | omega) | exact sh_imgs _ (by first | assumption | omega)) (by assumption) ?_
        refine v_iload_1 dX10_personsFor_19 ?_
        refine v_iload_3 dX10_personsFor_20 ?_
        refine u_callV_2 dX10_personsFor_21 ml_X10_123 mv_X0_suits (by first | assumption | rfl | exact led_1 (by assumption) | exact led_2 (by assumption) | exact bk_m (by assumption) (by first | assumption | omega) | exact bk_p (by assumption) (by first | assumption | omega) | exact bk_o (by assumption) (by first | assumption | omega) | exact bk_s (by assumption) (by first | assumption | omega) | exact bk_1 (by assumption) | exact bk_2 (by assumption) | exact bk_3 (by assumption) | exact bk_4 (by assumption) | exact bk_5 (by assumption) | exact bk_6 (by assumption) | exact bk_7 (by assumption) | exact bk_8 (by assumption) | exact sh_ring _ (by first | assumption | omega) | exact sh_imgs _ (by first | assumption | omega)) (by decide) rfl (by decide) (Nat.le_of_ble_eq_true rfl) (c_X0_suits hR hB hF hO hm (by omega) ?_)
        refine v_if_eq (tgt := 33) dX10_personsFor_24 (by decide) (fun hc24 => ?_) (fun hc24 => ?_)
        · (first | rw [bI_0, Bool.not_eq_false] at hc24 | rw [bI_0] at hc24 | rw [show (0 : Int32) = nI 0 from rfl, nI_eq (by omega) (by omega)] at hc24 | skip)
          refine v_iinc_3 (v := 1) rfl dX10_personsFor_33 (by decide) ?_
          refine v_goto (tgt := 4) dX10_personsFor_36 (by decide) ?_
          rw [← nI_succ]
          refine ih (p + 1) _ (by omega) ?_
          simp only [bup] at hQ
          first
            | (have e : fitF F m p = true := hc24; simp only [e] at hQ; exact hQ)
            | (have e : fitF F m p = false := hc24; simp only [e] at hQ; simpa using hQ)
        · (first | rw [bI_0, Bool.not_eq_false] at hc24 | rw [bI_0] at hc24 | rw [show (0 : Int32) = nI 0 from rfl, nI_eq (by omega) (by omega)] at hc24 | skip)
          refine v_iload_2 dX10_personsFor_27 ?_
          refine v_iconst (v := nI 1) dX10_personsFor_28 (by decide) ?_
          refine v_iload_3 dX10_personsFor_29 ?_
          refine v_ishl dX10_personsFor_30 ?_
          rw [one_shl (by omega)]
          refine v_ior dX10_personsFor_31 ?_
          rw [nx_or]
          refine v_istore_2 rfl dX10_personsFor_32 ?_
          refine v_iinc_3 (v := 1) rfl dX10_personsFor_33 (by decide) ?_
          refine v_goto (tgt := 4) dX10_personsFor_36 (by decide) ?_
          rw [← nI_succ]
          refine ih (p + 1) _ (by omega) ?_
          simp only [bup] at hQ
          first
            | (have e : fitF F m p = true := hc24; simp only [e] at hQ; exact hQ)
            | (have e : fitF F m p = false := hc24; simp only [e] at hQ; simpa using hQ)
  refine v_iconst (v := nI 0) dX10_personsFor_0 (by decide) ?_
  refine v_istore_2 rfl dX10_personsFor_1 ?_
  refine v_iconst (v := nI 0) dX10_personsFor_2 (by decide) ?_
  refine v_istore_3 rfl dX10_personsFor_3 ?_
  exact loop (F 3) 0 0 (by omega) hQ
theorem c_X10_personsLike {s : Nat} (hR : RO R) (hB : SH B = .inl 0) (hb : R 150 0 = some B) (hF : BkI I B F) (hO : FOK F) (hs : s < F 5) (hQ : Q (some (.int (nI (bup (fun p => resF F s p) 0 (F 3) 0)))) SH I L R) : KK 2 mX10_personsLike b ad [.ref (b + 150), .ref (b + (B + 35 + s))] I L R Q := by
  obtain ⟨k0, k1, k2, k3, k4, k5, k6, -⟩ := id hO
  obtain ⟨q1, q2, q3, q4, q5, q6⟩ := fk_s hO hs
  refine K.of (M := mX10_personsLike) (lv := [some (.ref (b + 150)), some (.ref (b + (B + 35 + s))), none, none]) (by decide) (Nat.le_of_ble_eq_true rfl) rfl ?_
  have loop : ∀ (j p acc : Nat), p + j = F 3 → Q (some (.int (nI (bup (fun p => resF F s p) p j acc)))) SH I L R → VV yX10_personsLike cX10_personsLike 4 (some .int) 2 Q b ad 4 [some (.ref (b + 150)), some (.ref (b + (B + 35 + s))), some (.int (nI acc)), some (.int (nI p))] [] I L R := by
    intro j
    induction j with
    | zero =>
      intro p acc hij hQ
      refine v_iload_3 dX10_personsLike_4 ?_
      refine v_aload_0 dX10_personsLike_5 ?_
      refine u_getR dX10_personsLike_6 gf_X10_31 (by first | assumption | rfl | exact led_1 (by assumption) | exact led_2 (by assumption) | exact bk_m (by assumption) (by first | assumption | omega) | exact bk_p (by assumption) (by first | assumption | omega) | exact bk_o (by assumption) (by first | assumption | omega) | exact bk_s (by assumption) (by first | assumption | omega) | exact bk_1 (by assumption) | exact bk_2 (by assumption) | exact bk_3 (by assumption) | exact bk_4 (by assumption) | exact bk_5 (by assumption) | exact bk_6 (by assumption) | exact bk_7 (by assumption) | exact bk_8 (by assumption) | exact sh_ring _ (by first | assumption | omega) | exact sh_imgs _ (by first | assumption | omega)) (by assumption) ?_
      refine u_getI dX10_personsLike_9 gf_X10_90 (by first | assumption | rfl | exact led_1 (by assumption) | exact led_2 (by assumption) | exact bk_m (by assumption) (by first | assumption | omega) | exact bk_p (by assumption) (by first | assumption | omega) | exact bk_o (by assumption) (by first | assumption | omega) | exact bk_s (by assumption) (by first | assumption | omega) | exact bk_1 (by assumption) | exact bk_2 (by assumption) | exact bk_3 (by assumption) | exact bk_4 (by assumption) | exact bk_5 (by assumption) | exact bk_6 (by assumption) | exact bk_7 (by assumption) | exact bk_8 (by assumption) | exact sh_ring _ (by first | assumption | omega) | exact sh_imgs _ (by first | assumption | omega)) ?_
      (try rw [bx3 hF])
      refine v_icmp_ge (tgt := 43) dX10_personsLike_12 (by decide) (fun hc12 => ?_) (fun hc12 => ?_)
      · (try rw [nI_leI (by omega) (by omega)] at hc12)
        refine v_iload_2 dX10_personsLike_43 ?_
        refine v_iret dX10_personsLike_44 rfl rfl rfl rfl ?_
        exact hQ
      · (try rw [nI_leI (by omega) (by omega)] at hc12)
        exfalso; omega
    | succ j ih =>
      intro p acc hij hQ
      refine v_iload_3 dX10_personsLike_4 ?_
      refine v_aload_0 dX10_personsLike_5 ?_
      refine u_getR dX10_personsLike_6 gf_X10_31 (by first | assumption | rfl | exact led_1 (by assumption) | exact led_2 (by assumption) | exact bk_m (by assumption) (by first | assumption | omega) | exact bk_p (by assumption) (by first | assumption | omega) | exact bk_o (by assumption) (by first | assumption | omega) | exact bk_s (by assumption) (by first | assumption | omega) | exact bk_1 (by assumption) | exact bk_2 (by assumption) | exact bk_3 (by assumption) | exact bk_4 (by assumption) | exact bk_5 (by assumption) | exact bk_6 (by assumption) | exact bk_7 (by assumption) | exact bk_8 (by assumption) | exact sh_ring _ (by first | assumption | omega) | exact sh_imgs _ (by first | assumption | omega)) (by assumption) ?_
      refine u_getI dX10_personsLike_9 gf_X10_90 (by first | assumption | rfl | exact led_1 (by assumption) | exact led_2 (by assumption) | exact bk_m (by assumption) (by first | assumption | omega) | exact bk_p (by assumption) (by first | assumption | omega) | exact bk_o (by assumption) (by first | assumption | omega) | exact bk_s (by assumption) (by first | assumption | omega) | exact bk_1 (by assumption) | exact bk_2 (by assumption) | exact bk_3 (by assumption) | exact bk_4 (by assumption) | exact bk_5 (by assumption) | exact bk_6 (by assumption) | exact bk_7 (by assumption) | exact bk_8 (by assumption) | exact sh_ring _ (by first | assumption | omega) | exact sh_imgs _ (by first | assumption | omega)) ?_
      (try rw [bx3 hF])
      refine v_icmp_ge (tgt := 43) dX10_personsLike_12 (by decide) (fun hc12 => ?_) (fun hc12 => ?_)
      · (try rw [nI_leI (by omega) (by omega)] at hc12)
        exfalso; omega
      · (try rw [nI_leI (by omega) (by omega)] at hc12)
        refine v_aload_1 dX10_personsLike_15 ?_
        refine v_aload_0 dX10_personsLike_16 ?_
        refine u_getR dX10_personsLike_17 gf_X10_31 (by first | assumption | rfl | exact led_1 (by assumption) | exact led_2 (by assumption) | exact bk_m (by assumption) (by first | assumption | omega) | exact bk_p (by assumption) (by first | assumption | omega) | exact bk_o (by assumption) (by first | assumption | omega) | exact bk_s (by assumption) (by first | assumption | omega) | exact bk_1 (by assumption) | exact bk_2 (by assumption) | exact bk_3 (by assumption) | exact bk_4 (by assumption) | exact bk_5 (by assumption) | exact bk_6 (by assumption) | exact bk_7 (by assumption) | exact bk_8 (by assumption) | exact sh_ring _ (by first | assumption | omega) | exact sh_imgs _ (by first | assumption | omega)) (by assumption) ?_
        refine u_getR dX10_personsLike_20 gf_X10_93 (by first | assumption | rfl | exact led_1 (by assumption) | exact led_2 (by assumption) | exact bk_m (by assumption) (by first | assumption | omega) | exact bk_p (by assumption) (by first | assumption | omega) | exact bk_o (by assumption) (by first | assumption | omega) | exact bk_s (by assumption) (by first | assumption | omega) | exact bk_1 (by assumption) | exact bk_2 (by assumption) | exact bk_3 (by assumption) | exact bk_4 (by assumption) | exact bk_5 (by assumption) | exact bk_6 (by assumption) | exact bk_7 (by assumption) | exact bk_8 (by assumption) | exact sh_ring _ (by first | assumption | omega) | exact sh_imgs _ (by first | assumption | omega)) (ro_X0_8 (by assumption) (by assumption)) ?_
        refine v_iload_3 dX10_personsLike_23 ?_
        refine u_aald dX10_personsLike_24 (by first | assumption | rfl | exact led_1 (by assumption) | exact led_2 (by assumption) | exact bk_m (by assumption) (by first | assumption | omega) | exact bk_p (by assumption) (by first | assumption | omega) | exact bk_o (by assumption) (by first | assumption | omega) | exact bk_s (by assumption) (by first | assumption | omega) | exact bk_1 (by assumption) | exact bk_2 (by assumption) | exact bk_3 (by assumption) | exact bk_4 (by assumption) | exact bk_5 (by assumption) | exact bk_6 (by assumption) | exact bk_7 (by assumption) | exact bk_8 (by assumption) | exact sh_ring _ (by first | assumption | omega) | exact sh_imgs _ (by first | assumption | omega)) (by decide) (by decide) rfl (by first | with_reducible rfl | (simp only [nlit, nI_add, pk_mul]; with_reducible rfl) | rfl) (by first | assumption | omega) (by decide) (by first | exact ro_m (by assumption) (by assumption) (by first | assumption | omega) | exact ro_p (by assumption) (by assumption) (by first | assumption | omega) | exact ro_o (by assumption) (by assumption) (by first | assumption | omega) | exact ro_s (by assumption) (by assumption) (by first | assumption | omega) | exact ro_ring (by assumption) (by first | assumption | omega) | exact ro_imgs (by assumption) (by first | assumption | omega)) ?_
        refine u_callV_1 dX10_personsLike_25 ml_X10_97 mv_X8_resembles (by first | assumption | rfl | exact led_1 (by assumption) | exact led_2 (by assumption) | exact bk_m (by assumption) (by first | assumption | omega) | exact bk_p (by assumption) (by first | assumption | omega) | exact bk_o (by assumption) (by first | assumption | omega) | exact bk_s (by assumption) (by first | assumption | omega) | exact bk_1 (by assumption) | exact bk_2 (by assumption) | exact bk_3 (by assumption) | exact bk_4 (by assumption) | exact bk_5 (by assumption) | exact bk_6 (by assumption) | exact bk_7 (by assumption) | exact bk_8 (by assumption) | exact sh_ring _ (by first | assumption | omega) | exact sh_imgs _ (by first | assumption | omega)) (by decide) rfl (by decide) (Nat.le_of_ble_eq_true rfl) (c_X8_resembles (bk_s hB (by omega)) (bk_p hB (by omega)) (hF.sg hO hs) (hF.ps hO (by omega)) ?_)
        refine v_if_eq (tgt := 37) dX10_personsLike_28 (by decide) (fun hc28 => ?_) (fun hc28 => ?_)
        · (first | rw [bI_0, Bool.not_eq_false] at hc28 | rw [bI_0] at hc28 | rw [show (0 : Int32) = nI 0 from rfl, nI_eq (by omega) (by omega)] at hc28 | skip)
          refine v_iinc_3 (v := 1) rfl dX10_personsLike_37 (by decide) ?_
          refine v_goto (tgt := 4) dX10_personsLike_40 (by decide) ?_
          rw [← nI_succ]
          refine ih (p + 1) _ (by omega) ?_
          simp only [bup] at hQ
          first
            | (have e : resF F s p = true := hc28; simp only [e] at hQ; exact hQ)
            | (have e : resF F s p = false := hc28; simp only [e] at hQ; simpa using hQ)
        · (first | rw [bI_0, Bool.not_eq_false] at hc28 | rw [bI_0] at hc28 | rw [show (0 : Int32) = nI 0 from rfl, nI_eq (by omega) (by omega)] at hc28 | skip)
          refine v_iload_2 dX10_personsLike_31 ?_
          refine v_iconst (v := nI 1) dX10_personsLike_32 (by decide) ?_
          refine v_iload_3 dX10_personsLike_33 ?_
          refine v_ishl dX10_personsLike_34 ?_
          rw [one_shl (by omega)]
          refine v_ior dX10_personsLike_35 ?_
          rw [nx_or]
          refine v_istore_2 rfl dX10_personsLike_36 ?_
          refine v_iinc_3 (v := 1) rfl dX10_personsLike_37 (by decide) ?_
          refine v_goto (tgt := 4) dX10_personsLike_40 (by decide) ?_
          rw [← nI_succ]
          refine ih (p + 1) _ (by omega) ?_
          simp only [bup] at hQ
          first
            | (have e : resF F s p = true := hc28; simp only [e] at hQ; exact hQ)
            | (have e : resF F s p = false := hc28; simp only [e] at hQ; simpa using hQ)
  refine v_iconst (v := nI 0) dX10_personsLike_0 (by decide) ?_
  refine v_istore_2 rfl dX10_personsLike_1 ?_
  refine v_iconst (v := nI 0) dX10_personsLike_2 (by decide) ?_
  refine v_istore_3 rfl dX10_personsLike_3 ?_
  exact loop (F 3) 0 0 (by omega) hQ
theorem c_X10_ways (hR : RO R) (hB : SH B = .inl 0) (hb : R 150 0 = some B) (hF : BkI I B F) (hO : FOK F) (hW : WcI I (F 2) pg c) : ∀ (k m s : Nat) (Q : QT), m + k = F 2 → Q (some (.int (nI (wys (F 3) pg c k m s)))) SH I L R → KK k mX10_ways b ad [.ref (b + 150), .int (nI m), .int (nI s)] I L R Q := by
  obtain ⟨k0, k1, k2, k3, k4, k5, k6, -⟩ := id hO
  intro k
  induction k with
  | zero =>
    intro m s Q hmk hQ
    refine K.of (M := mX10_ways) (lv := [some (.ref (b + 150)), some (.int (nI m)), some (.int (nI s)), none, none, none]) (by decide) (Nat.le_of_ble_eq_true rfl) rfl ?_
    refine v_iload_1 dX10_ways_0 ?_
    refine v_aload_0 dX10_ways_1 ?_
    refine u_getR dX10_ways_2 gf_X10_31 (by first | assumption | rfl | exact led_1 (by assumption) | exact led_2 (by assumption) | exact bk_m (by assumption) (by first | assumption | omega) | exact bk_p (by assumption) (by first | assumption | omega) | exact bk_o (by assumption) (by first | assumption | omega) | exact bk_s (by assumption) (by first | assumption | omega) | exact bk_1 (by assumption) | exact bk_2 (by assumption) | exact bk_3 (by assumption) | exact bk_4 (by assumption) | exact bk_5 (by assumption) | exact bk_6 (by assumption) | exact bk_7 (by assumption) | exact bk_8 (by assumption) | exact sh_ring _ (by first | assumption | omega) | exact sh_imgs _ (by first | assumption | omega)) (by assumption) ?_
    refine u_getI dX10_ways_5 gf_X10_65 (by first | assumption | rfl | exact led_1 (by assumption) | exact led_2 (by assumption) | exact bk_m (by assumption) (by first | assumption | omega) | exact bk_p (by assumption) (by first | assumption | omega) | exact bk_o (by assumption) (by first | assumption | omega) | exact bk_s (by assumption) (by first | assumption | omega) | exact bk_1 (by assumption) | exact bk_2 (by assumption) | exact bk_3 (by assumption) | exact bk_4 (by assumption) | exact bk_5 (by assumption) | exact bk_6 (by assumption) | exact bk_7 (by assumption) | exact bk_8 (by assumption) | exact sh_ring _ (by first | assumption | omega) | exact sh_imgs _ (by first | assumption | omega)) ?_
    (try rw [bx2 hF])
    refine v_icmp_lt (tgt := 13) dX10_ways_8 (by decide) (fun hc8 => ?_) (fun hc8 => ?_)
    · (try rw [nI_ltI (by omega) (by omega)] at hc8)
      exfalso; omega
    · (try rw [nI_ltI (by omega) (by omega)] at hc8)
      refine v_iconst (v := nI 1) dX10_ways_11 (by decide) ?_
      refine v_iret dX10_ways_12 rfl rfl rfl rfl ?_
      exact hQ
  | succ k ih =>
    intro m s Q hmk hQ
    have hc64 := (hW.2 m (by omega)).2
    refine K.of (M := mX10_ways) (lv := [some (.ref (b + 150)), some (.int (nI m)), some (.int (nI s)), none, none, none]) (by decide) (Nat.le_of_ble_eq_true rfl) rfl ?_
    have loop : ∀ (j p acc : Nat), p + j = F 3 → Q (some (.int (nI (sun (fun p => if ((c m).testBit p && !s.testBit p) = true then wys (F 3) pg c k (m + 1) (s ||| 2 ^ p) else 0) p j acc)))) SH I L R → VV yX10_ways cX10_ways 6 (some .int) (k + 1) Q b ad 48 [some (.ref (b + 150)), some (.int (nI m)), some (.int (nI s)), some (.int (nI acc)), some (.int (nI (andn (c m) s))), some (.int (nI p))] [] I L R := by
      intro j
      induction j with
      | zero =>
        intro p acc hij hQ
        refine v_iload_5 dX10_ways_48 ?_
        refine v_aload_0 dX10_ways_50 ?_
        refine u_getR dX10_ways_51 gf_X10_31 (by first | assumption | rfl | exact led_1 (by assumption) | exact led_2 (by assumption) | exact bk_m (by assumption) (by first | assumption | omega) | exact bk_p (by assumption) (by first | assumption | omega) | exact bk_o (by assumption) (by first | assumption | omega) | exact bk_s (by assumption) (by first | assumption | omega) | exact bk_1 (by assumption) | exact bk_2 (by assumption) | exact bk_3 (by assumption) | exact bk_4 (by assumption) | exact bk_5 (by assumption) | exact bk_6 (by assumption) | exact bk_7 (by assumption) | exact bk_8 (by assumption) | exact sh_ring _ (by first | assumption | omega) | exact sh_imgs _ (by first | assumption | omega)) (by assumption) ?_
        refine u_getI dX10_ways_54 gf_X10_90 (by first | assumption | rfl | exact led_1 (by assumption) | exact led_2 (by assumption) | exact bk_m (by assumption) (by first | assumption | omega) | exact bk_p (by assumption) (by first | assumption | omega) | exact bk_o (by assumption) (by first | assumption | omega) | exact bk_s (by assumption) (by first | assumption | omega) | exact bk_1 (by assumption) | exact bk_2 (by assumption) | exact bk_3 (by assumption) | exact bk_4 (by assumption) | exact bk_5 (by assumption) | exact bk_6 (by assumption) | exact bk_7 (by assumption) | exact bk_8 (by assumption) | exact sh_ring _ (by first | assumption | omega) | exact sh_imgs _ (by first | assumption | omega)) ?_
        (try rw [bx3 hF])
        refine v_icmp_ge (tgt := 92) dX10_ways_57 (by decide) (fun hc57 => ?_) (fun hc57 => ?_)
        · (try rw [nI_leI (by omega) (by omega)] at hc57)
          refine v_iload_3 dX10_ways_92 ?_
          refine v_iret dX10_ways_93 rfl rfl rfl rfl ?_
          exact hQ
        · (try rw [nI_leI (by omega) (by omega)] at hc57)
          exfalso; omega
      | succ j il =>
        intro p acc hij hQ
        refine v_iload_5 dX10_ways_48 ?_
        refine v_aload_0 dX10_ways_50 ?_
        refine u_getR dX10_ways_51 gf_X10_31 (by first | assumption | rfl | exact led_1 (by assumption) | exact led_2 (by assumption) | exact bk_m (by assumption) (by first | assumption | omega) | exact bk_p (by assumption) (by first | assumption | omega) | exact bk_o (by assumption) (by first | assumption | omega) | exact bk_s (by assumption) (by first | assumption | omega) | exact bk_1 (by assumption) | exact bk_2 (by assumption) | exact bk_3 (by assumption) | exact bk_4 (by assumption) | exact bk_5 (by assumption) | exact bk_6 (by assumption) | exact bk_7 (by assumption) | exact bk_8 (by assumption) | exact sh_ring _ (by first | assumption | omega) | exact sh_imgs _ (by first | assumption | omega)) (by assumption) ?_
        refine u_getI dX10_ways_54 gf_X10_90 (by first | assumption | rfl | exact led_1 (by assumption) | exact led_2 (by assumption) | exact bk_m (by assumption) (by first | assumption | omega) | exact bk_p (by assumption) (by first | assumption | omega) | exact bk_o (by assumption) (by first | assumption | omega) | exact bk_s (by assumption) (by first | assumption | omega) | exact bk_1 (by assumption) | exact bk_2 (by assumption) | exact bk_3 (by assumption) | exact bk_4 (by assumption) | exact bk_5 (by assumption) | exact bk_6 (by assumption) | exact bk_7 (by assumption) | exact bk_8 (by assumption) | exact sh_ring _ (by first | assumption | omega) | exact sh_imgs _ (by first | assumption | omega)) ?_
        (try rw [bx3 hF])
        refine v_icmp_ge (tgt := 92) dX10_ways_57 (by decide) (fun hc57 => ?_) (fun hc57 => ?_)
        · (try rw [nI_leI (by omega) (by omega)] at hc57)
          exfalso; omega
        · (try rw [nI_leI (by omega) (by omega)] at hc57)
          refine v_iload_4 dX10_ways_60 ?_
          refine v_iload_5 dX10_ways_62 ?_
          refine v_ishr dX10_ways_64 ?_
          refine v_iconst (v := nI 1) dX10_ways_65 (by decide) ?_
          refine v_iand dX10_ways_66 ?_
          rw [bit_b (by have := andn_le (c m) s; omega) (by omega), andn_bit (by omega)]
          refine v_if_eq (tgt := 86) dX10_ways_67 (by decide) (fun hc67 => ?_) (fun hc67 => ?_)
          · (first | rw [bI_0, Bool.not_eq_false] at hc67 | rw [bI_0] at hc67 | rw [show (0 : Int32) = nI 0 from rfl, nI_eq (by omega) (by omega)] at hc67 | skip)
            refine v_iinc_5 (v := 1) rfl dX10_ways_86 (by decide) ?_
            refine v_goto (tgt := 48) dX10_ways_89 (by decide) ?_
            rw [← nI_succ]
            refine il (p + 1) _ (by omega) ?_
            have e : ((c m).testBit p && !s.testBit p) = false := hc67
            simp only [sun, e] at hQ; simpa using hQ
          · (first | rw [bI_0, Bool.not_eq_false] at hc67 | rw [bI_0] at hc67 | rw [show (0 : Int32) = nI 0 from rfl, nI_eq (by omega) (by omega)] at hc67 | skip)
            refine v_iload_3 dX10_ways_70 ?_
            refine v_aload_0 dX10_ways_71 ?_
            refine v_iload_1 dX10_ways_72 ?_
            refine v_iconst (v := nI 1) dX10_ways_73 (by decide) ?_
            refine v_iadd dX10_ways_74 ?_
            rw [nI_add]
            refine v_iload_2 dX10_ways_75 ?_
            refine v_iconst (v := nI 1) dX10_ways_76 (by decide) ?_
            refine v_iload_5 dX10_ways_77 ?_
            refine v_ishl dX10_ways_79 ?_
            rw [one_shl (by omega)]
            refine v_ior dX10_ways_80 ?_
            rw [nx_or]
            refine u_callV_2 dX10_ways_81 ml_X10_104 mv_X10_ways (by first | assumption | rfl | exact led_1 (by assumption) | exact led_2 (by assumption) | exact bk_m (by assumption) (by first | assumption | omega) | exact bk_p (by assumption) (by first | assumption | omega) | exact bk_o (by assumption) (by first | assumption | omega) | exact bk_s (by assumption) (by first | assumption | omega) | exact bk_1 (by assumption) | exact bk_2 (by assumption) | exact bk_3 (by assumption) | exact bk_4 (by assumption) | exact bk_5 (by assumption) | exact bk_6 (by assumption) | exact bk_7 (by assumption) | exact bk_8 (by assumption) | exact sh_ring _ (by first | assumption | omega) | exact sh_imgs _ (by first | assumption | omega)) (by decide) rfl (by omega) (Nat.le_of_ble_eq_true rfl) (ih (m + 1) (s ||| 2 ^ p) _ (by omega) ?_)
            refine v_iadd dX10_ways_84 ?_
            rw [nI_add]
            refine v_istore_3 rfl dX10_ways_85 ?_
            refine v_iinc_5 (v := 1) rfl dX10_ways_86 (by decide) ?_
            refine v_goto (tgt := 48) dX10_ways_89 (by decide) ?_
            rw [← nI_succ]
            refine il (p + 1) _ (by omega) ?_
            have e : ((c m).testBit p && !s.testBit p) = true := hc67
            simp only [sun, e] at hQ; exact hQ
    refine v_iload_1 dX10_ways_0 ?_
    refine v_aload_0 dX10_ways_1 ?_
    refine u_getR dX10_ways_2 gf_X10_31 (by first | assumption | rfl | exact led_1 (by assumption) | exact led_2 (by assumption) | exact bk_m (by assumption) (by first | assumption | omega) | exact bk_p (by assumption) (by first | assumption | omega) | exact bk_o (by assumption) (by first | assumption | omega) | exact bk_s (by assumption) (by first | assumption | omega) | exact bk_1 (by assumption) | exact bk_2 (by assumption) | exact bk_3 (by assumption) | exact bk_4 (by assumption) | exact bk_5 (by assumption) | exact bk_6 (by assumption) | exact bk_7 (by assumption) | exact bk_8 (by assumption) | exact sh_ring _ (by first | assumption | omega) | exact sh_imgs _ (by first | assumption | omega)) (by assumption) ?_
    refine u_getI dX10_ways_5 gf_X10_65 (by first | assumption | rfl | exact led_1 (by assumption) | exact led_2 (by assumption) | exact bk_m (by assumption) (by first | assumption | omega) | exact bk_p (by assumption) (by first | assumption | omega) | exact bk_o (by assumption) (by first | assumption | omega) | exact bk_s (by assumption) (by first | assumption | omega) | exact bk_1 (by assumption) | exact bk_2 (by assumption) | exact bk_3 (by assumption) | exact bk_4 (by assumption) | exact bk_5 (by assumption) | exact bk_6 (by assumption) | exact bk_7 (by assumption) | exact bk_8 (by assumption) | exact sh_ring _ (by first | assumption | omega) | exact sh_imgs _ (by first | assumption | omega)) ?_
    (try rw [bx2 hF])
    refine v_icmp_lt (tgt := 13) dX10_ways_8 (by decide) (fun hc8 => ?_) (fun hc8 => ?_)
    · (try rw [nI_ltI (by omega) (by omega)] at hc8)
      refine v_aload_0 dX10_ways_13 ?_
      refine u_getR dX10_ways_14 gf_X10_24 (by first | assumption | rfl | exact led_1 (by assumption) | exact led_2 (by assumption) | exact bk_m (by assumption) (by first | assumption | omega) | exact bk_p (by assumption) (by first | assumption | omega) | exact bk_o (by assumption) (by first | assumption | omega) | exact bk_s (by assumption) (by first | assumption | omega) | exact bk_1 (by assumption) | exact bk_2 (by assumption) | exact bk_3 (by assumption) | exact bk_4 (by assumption) | exact bk_5 (by assumption) | exact bk_6 (by assumption) | exact bk_7 (by assumption) | exact bk_8 (by assumption) | exact sh_ring _ (by first | assumption | omega) | exact sh_imgs _ (by first | assumption | omega)) (ro_X10_7 (by assumption)) ?_
      refine v_iload_1 dX10_ways_17 ?_
      first | refine u_bald dX10_ways_18 (by first | assumption | rfl | exact led_1 (by assumption) | exact led_2 (by assumption) | exact bk_m (by assumption) (by first | assumption | omega) | exact bk_p (by assumption) (by first | assumption | omega) | exact bk_o (by assumption) (by first | assumption | omega) | exact bk_s (by assumption) (by first | assumption | omega) | exact bk_1 (by assumption) | exact bk_2 (by assumption) | exact bk_3 (by assumption) | exact bk_4 (by assumption) | exact bk_5 (by assumption) | exact bk_6 (by assumption) | exact bk_7 (by assumption) | exact bk_8 (by assumption) | exact sh_ring _ (by first | assumption | omega) | exact sh_imgs _ (by first | assumption | omega)) (by first | with_reducible rfl | (simp only [nlit, nI_add, pk_mul]; with_reducible rfl) | rfl) (by first | assumption | omega) (by first | assumption | decide) ?_ | refine u_zald dX10_ways_18 (by first | assumption | rfl | exact led_1 (by assumption) | exact led_2 (by assumption) | exact bk_m (by assumption) (by first | assumption | omega) | exact bk_p (by assumption) (by first | assumption | omega) | exact bk_o (by assumption) (by first | assumption | omega) | exact bk_s (by assumption) (by first | assumption | omega) | exact bk_1 (by assumption) | exact bk_2 (by assumption) | exact bk_3 (by assumption) | exact bk_4 (by assumption) | exact bk_5 (by assumption) | exact bk_6 (by assumption) | exact bk_7 (by assumption) | exact bk_8 (by assumption) | exact sh_ring _ (by first | assumption | omega) | exact sh_imgs _ (by first | assumption | omega)) (by first | with_reducible rfl | (simp only [nlit, nI_add, pk_mul]; with_reducible rfl) | rfl) (by first | assumption | omega) (by first | assumption | decide) ?_
      rw [hW.1 m (by omega)]
      refine v_if_eq (tgt := 31) dX10_ways_19 (by decide) (fun hc19 => ?_) (fun hc19 => ?_)
      · (first | rw [bI_0, Bool.not_eq_false] at hc19 | rw [bI_0] at hc19 | rw [show (0 : Int32) = nI 0 from rfl, nI_eq (by omega) (by omega)] at hc19 | skip)
        refine v_iconst (v := nI 0) dX10_ways_31 (by decide) ?_
        refine v_istore_3 rfl dX10_ways_32 ?_
        refine v_aload_0 dX10_ways_33 ?_
        refine u_getR dX10_ways_34 gf_X10_21 (by first | assumption | rfl | exact led_1 (by assumption) | exact led_2 (by assumption) | exact bk_m (by assumption) (by first | assumption | omega) | exact bk_p (by assumption) (by first | assumption | omega) | exact bk_o (by assumption) (by first | assumption | omega) | exact bk_s (by assumption) (by first | assumption | omega) | exact bk_1 (by assumption) | exact bk_2 (by assumption) | exact bk_3 (by assumption) | exact bk_4 (by assumption) | exact bk_5 (by assumption) | exact bk_6 (by assumption) | exact bk_7 (by assumption) | exact bk_8 (by assumption) | exact sh_ring _ (by first | assumption | omega) | exact sh_imgs _ (by first | assumption | omega)) (ro_X10_6 (by assumption)) ?_
        refine v_iload_1 dX10_ways_37 ?_
        refine u_iald dX10_ways_38 (by first | assumption | rfl | exact led_1 (by assumption) | exact led_2 (by assumption) | exact bk_m (by assumption) (by first | assumption | omega) | exact bk_p (by assumption) (by first | assumption | omega) | exact bk_o (by assumption) (by first | assumption | omega) | exact bk_s (by assumption) (by first | assumption | omega) | exact bk_1 (by assumption) | exact bk_2 (by assumption) | exact bk_3 (by assumption) | exact bk_4 (by assumption) | exact bk_5 (by assumption) | exact bk_6 (by assumption) | exact bk_7 (by assumption) | exact bk_8 (by assumption) | exact sh_ring _ (by first | assumption | omega) | exact sh_imgs _ (by first | assumption | omega)) (by first | with_reducible rfl | (simp only [nlit, nI_add, pk_mul]; with_reducible rfl) | rfl) (by first | assumption | omega) (by first | assumption | decide) ?_
        rw [(hW.2 m (by omega)).1]
        refine v_iload_2 dX10_ways_39 ?_
        refine v_iconst (v := -1) dX10_ways_40 (by decide) ?_
        refine v_ixor dX10_ways_41 ?_
        refine v_iand dX10_ways_42 ?_
        rw [andn_I]
        refine v_istore_4 rfl dX10_ways_43 ?_
        refine v_iconst (v := nI 0) dX10_ways_45 (by decide) ?_
        refine v_istore_5 rfl dX10_ways_46 ?_
        rw [wys, if_neg (by rw [hc19]; decide)] at hQ
        exact loop (F 3) 0 0 (by omega) hQ
      · (first | rw [bI_0, Bool.not_eq_false] at hc19 | rw [bI_0] at hc19 | rw [show (0 : Int32) = nI 0 from rfl, nI_eq (by omega) (by omega)] at hc19 | skip)
        refine v_aload_0 dX10_ways_22 ?_
        refine v_iload_1 dX10_ways_23 ?_
        refine v_iconst (v := nI 1) dX10_ways_24 (by decide) ?_
        refine v_iadd dX10_ways_25 ?_
        rw [nI_add]
        refine v_iload_2 dX10_ways_26 ?_
        refine u_callV_2 dX10_ways_27 ml_X10_104 mv_X10_ways (by first | assumption | rfl | exact led_1 (by assumption) | exact led_2 (by assumption) | exact bk_m (by assumption) (by first | assumption | omega) | exact bk_p (by assumption) (by first | assumption | omega) | exact bk_o (by assumption) (by first | assumption | omega) | exact bk_s (by assumption) (by first | assumption | omega) | exact bk_1 (by assumption) | exact bk_2 (by assumption) | exact bk_3 (by assumption) | exact bk_4 (by assumption) | exact bk_5 (by assumption) | exact bk_6 (by assumption) | exact bk_7 (by assumption) | exact bk_8 (by assumption) | exact sh_ring _ (by first | assumption | omega) | exact sh_imgs _ (by first | assumption | omega)) (by decide) rfl (by omega) (Nat.le_of_ble_eq_true rfl) (ih (m + 1) s _ (by omega) ?_)
        refine v_iret dX10_ways_30 rfl rfl rfl rfl ?_
        rw [wys, if_pos hc19] at hQ; exact hQ
    · (try rw [nI_ltI (by omega) (by omega)] at hc8)
      exfalso; omega
theorem c_X10_all (hR : RO R) (hB : SH B = .inl 0) (hb : R 150 0 = some B) (hF : BkI I B F) (hO : FOK F) (hW : WcI I (F 2) pg c) (hf : ∃ z : Nat, z < 2 ^ 31 ∧ I 150 1 = nI z) (hQ : Q (some (.int (nI (wys (F 3) pg c (F 2) 0 0)))) SH I L R) : KK 7 mX10_all b ad [.ref (b + 150)] I L R Q := by
  obtain ⟨k0, k1, k2, k3, k4, k5, k6, -⟩ := id hO
  obtain ⟨z, hz1, hz2⟩ := hf
  refine K.of (M := mX10_all) (lv := [some (.ref (b + 150))]) (by decide) (Nat.le_of_ble_eq_true rfl) rfl ?_
  refine v_aload_0 dX10_all_0 ?_
  refine u_getI dX10_all_1 gf_X10_39 (by first | assumption | rfl | exact led_1 (by assumption) | exact led_2 (by assumption) | exact bk_m (by assumption) (by first | assumption | omega) | exact bk_p (by assumption) (by first | assumption | omega) | exact bk_o (by assumption) (by first | assumption | omega) | exact bk_s (by assumption) (by first | assumption | omega) | exact bk_1 (by assumption) | exact bk_2 (by assumption) | exact bk_3 (by assumption) | exact bk_4 (by assumption) | exact bk_5 (by assumption) | exact bk_6 (by assumption) | exact bk_7 (by assumption) | exact bk_8 (by assumption) | exact sh_ring _ (by first | assumption | omega) | exact sh_imgs _ (by first | assumption | omega)) ?_
  rw [hz2]
  refine v_if_ge (tgt := 11) dX10_all_4 (by decide) (fun hc4 => ?_) (fun hc4 => ?_)
  · (first | rw [show (0 : Int32) = nI 0 from rfl, nI_ltI (by omega) (by omega)] at hc4 | rw [show (0 : Int32) = nI 0 from rfl, nI_leI (by omega) (by omega)] at hc4 | skip)
    refine v_aload_0 dX10_all_11 ?_
    refine v_iconst (v := nI 0) dX10_all_12 (by decide) ?_
    refine v_iconst (v := nI 0) dX10_all_13 (by decide) ?_
    refine u_callV_2 dX10_all_14 ml_X10_104 mv_X10_ways (by first | assumption | rfl | exact led_1 (by assumption) | exact led_2 (by assumption) | exact bk_m (by assumption) (by first | assumption | omega) | exact bk_p (by assumption) (by first | assumption | omega) | exact bk_o (by assumption) (by first | assumption | omega) | exact bk_s (by assumption) (by first | assumption | omega) | exact bk_1 (by assumption) | exact bk_2 (by assumption) | exact bk_3 (by assumption) | exact bk_4 (by assumption) | exact bk_5 (by assumption) | exact bk_6 (by assumption) | exact bk_7 (by assumption) | exact bk_8 (by assumption) | exact sh_ring _ (by first | assumption | omega) | exact sh_imgs _ (by first | assumption | omega)) (by decide) rfl (by omega) (Nat.le_of_ble_eq_true rfl) (c_X10_ways hR hB hb hF hO hW (F 2) 0 0 _ (by omega) ?_)
    refine v_iret dX10_all_17 rfl rfl rfl rfl ?_
    exact hQ
  · (first | rw [show (0 : Int32) = nI 0 from rfl, nI_ltI (by omega) (by omega)] at hc4 | rw [show (0 : Int32) = nI 0 from rfl, nI_leI (by omega) (by omega)] at hc4 | skip)
    exfalso; omega
end
