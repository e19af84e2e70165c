theorem ps_facts {F : bkF} {m a h c t d : Nat} (hm : m < 6) : psF F m a h c t d 3 = m + 1 ∧ (∀ x, x ≠ 3 → x ≠ 26 + m → x ≠ 32 + m → x ≠ 38 + m → x ≠ 44 + m → x ≠ 50 + m → psF F m a h c t d x = F x) ∧ psF F m a h c t d (26 + m) = a ∧ psF F m a h c t d (32 + m) = h ∧ psF F m a h c t d (38 + m) = c ∧ psF F m a h c t d (44 + m) = t ∧ psF F m a h c t d (50 + m) = d := by
  unfold psF
  refine ⟨setF_s _ _ _, fun x a1 a2 a3 a4 a5 a6 => by rw [setF_n a1, setF_n a6, setF_n a5, setF_n a4, setF_n a3, setF_n a2], ?_, ?_, ?_, ?_, ?_⟩
  · rw [setF_n (by omega), setF_n (by omega), setF_n (by omega), setF_n (by omega), setF_n (by omega)]; exact setF_s _ _ _
  · rw [setF_n (by omega), setF_n (by omega), setF_n (by omega), setF_n (by omega)]; exact setF_s _ _ _
  · rw [setF_n (by omega), setF_n (by omega), setF_n (by omega)]; exact setF_s _ _ _
  · rw [setF_n (by omega), setF_n (by omega)]; exact setF_s _ _ _
  · rw [setF_n (by omega)]; exact setF_s _ _ _
section
variable {b : Nat} {ad : Nat → Nat} {I J : HI} {L M : HL} {R : HR} {Q : QT} {tp : Nat → Nat} {sz k e bf B : Nat} {s : PS} {F : bkF} {cnt : Nat} {sl : Nat → Nat}
theorem frx {X : Nat} (B : Nat) (hB : SH B = .inl 0) (hX : B ≤ X ∧ X ≤ B + 42) (h1 : ∀ x, x ≠ 88 → x ≠ 89 → x ≠ X → J x = I x) (h2 : ∀ j, 2 ≤ j → j ≠ 9 → J 88 j = I 88 j) (h3 : ∀ x, x ≠ 89 → M x = L x) : FrB B I J L M := by
  have hbb := shB hB
  exact ⟨fun x a1 a2 _ _ a5 => h1 x a1 a2 (fun q => a5 (q ▸ hX)), fun x a _ => h3 x a, fun i hi => ⟨by rw [h3 91 (by decide)], by rw [h1 92 (by decide) (by decide) (by omega)]⟩⟩
theorem c_X7_readPerson (h : RdC I L R B tp sz s bf) (hQ : LQ I L R B tp sz (if s.2.1 3 < 6 then lPerson tp sz s else .inl (5, bf)) Q) : KK 7 mX7_readPerson b ad [.ref (b + 88)] I L R Q := by
  obtain ⟨hM, hPI, cnt, sl, hN, hC⟩ := h
  have hR := hM.1
  have hb2 := hM.2.1
  have hB := hM.2.2.1
  have hT := hM.2.2.2.1
  have hF := hM.2.2.2.2.1
  have hby := hT.by
  have hO := hPI.2.1
  have hK := hPI.2.2.2.2.2.2.1
  have h7 := hPI.2.2.1
  have o0 := hO.1
  have o1 := hO.2.1
  have o2 := hO.2.2.1
  have o3 := hO.2.2.2.1
  have o4 := hO.2.2.2.2.1
  have o5 := hO.2.2.2.2.2.1
  have o6 := hO.2.2.2.2.2.2.1
  have hbb := shB hB
  have hfr : FrB B I I L L := FrB.refl
  refine K.of (M := mX7_readPerson) (lv := [some (.ref (b + 88)), none]) (by decide) (Nat.le_of_ble_eq_true rfl) rfl ?_
  refine v_aload_0 dX7_readPerson_0 ?_
  refine u_getR dX7_readPerson_1 gf_X7_73 (by first | assumption | rfl | exact led_1 (by assumption) | exact led_2 (by assumption) | exact bk_m (by assumption) (by first | assumption | omega) | exact bk_p (by assumption) (by first | assumption | omega) | exact bk_o (by assumption) (by first | assumption | omega) | exact bk_s (by assumption) (by first | assumption | omega) | exact bk_1 (by assumption) | exact bk_2 (by assumption) | exact bk_3 (by assumption) | exact bk_4 (by assumption) | exact bk_5 (by assumption) | exact bk_6 (by assumption) | exact bk_7 (by assumption) | exact bk_8 (by assumption) | exact sh_ring _ (by first | assumption | omega) | exact sh_imgs _ (by first | assumption | omega)) (by assumption) ?_
  refine u_getI dX7_readPerson_4 gf_X7_112 (by first | assumption | rfl | exact led_1 (by assumption) | exact led_2 (by assumption) | exact bk_m (by assumption) (by first | assumption | omega) | exact bk_p (by assumption) (by first | assumption | omega) | exact bk_o (by assumption) (by first | assumption | omega) | exact bk_s (by assumption) (by first | assumption | omega) | exact bk_1 (by assumption) | exact bk_2 (by assumption) | exact bk_3 (by assumption) | exact bk_4 (by assumption) | exact bk_5 (by assumption) | exact bk_6 (by assumption) | exact bk_7 (by assumption) | exact bk_8 (by assumption) | exact sh_ring _ (by first | assumption | omega) | exact sh_imgs _ (by first | assumption | omega)) ?_
  (try rw [bx3 hF])
  refine v_bipush (v := nI 6) dX7_readPerson_7 (by decide) ?_
  refine v_icmp_lt (tgt := 18) dX7_readPerson_9 (by decide) (fun hc9 => ?_) (fun hc9 => ?_)
  · (try rw [nI_ltI (by omega) (by omega)] at hc9)
    rw [if_pos hc9] at hQ
    refine v_aload_0 dX7_readPerson_18 ?_
    refine u_getR dX7_readPerson_19 gf_X7_73 (by first | assumption | rfl | exact led_1 (by assumption) | exact led_2 (by assumption) | exact bk_m (by assumption) (by first | assumption | omega) | exact bk_p (by assumption) (by first | assumption | omega) | exact bk_o (by assumption) (by first | assumption | omega) | exact bk_s (by assumption) (by first | assumption | omega) | exact bk_1 (by assumption) | exact bk_2 (by assumption) | exact bk_3 (by assumption) | exact bk_4 (by assumption) | exact bk_5 (by assumption) | exact bk_6 (by assumption) | exact bk_7 (by assumption) | exact bk_8 (by assumption) | exact sh_ring _ (by first | assumption | omega) | exact sh_imgs _ (by first | assumption | omega)) (by assumption) ?_
    refine u_getR dX7_readPerson_22 gf_X7_185 (by first | assumption | rfl | exact led_1 (by assumption) | exact led_2 (by assumption) | exact bk_m (by assumption) (by first | assumption | omega) | exact bk_p (by assumption) (by first | assumption | omega) | exact bk_o (by assumption) (by first | assumption | omega) | exact bk_s (by assumption) (by first | assumption | omega) | exact bk_1 (by assumption) | exact bk_2 (by assumption) | exact bk_3 (by assumption) | exact bk_4 (by assumption) | exact bk_5 (by assumption) | exact bk_6 (by assumption) | exact bk_7 (by assumption) | exact bk_8 (by assumption) | exact sh_ring _ (by first | assumption | omega) | exact sh_imgs _ (by first | assumption | omega)) (ro_X0_8 (by assumption) (by assumption)) ?_
    refine v_aload_0 dX7_readPerson_25 ?_
    refine u_getR dX7_readPerson_26 gf_X7_73 (by first | assumption | rfl | exact led_1 (by assumption) | exact led_2 (by assumption) | exact bk_m (by assumption) (by first | assumption | omega) | exact bk_p (by assumption) (by first | assumption | omega) | exact bk_o (by assumption) (by first | assumption | omega) | exact bk_s (by assumption) (by first | assumption | omega) | exact bk_1 (by assumption) | exact bk_2 (by assumption) | exact bk_3 (by assumption) | exact bk_4 (by assumption) | exact bk_5 (by assumption) | exact bk_6 (by assumption) | exact bk_7 (by assumption) | exact bk_8 (by assumption) | exact sh_ring _ (by first | assumption | omega) | exact sh_imgs _ (by first | assumption | omega)) (by assumption) ?_
    refine u_getI dX7_readPerson_29 gf_X7_112 (by first | assumption | rfl | exact led_1 (by assumption) | exact led_2 (by assumption) | exact bk_m (by assumption) (by first | assumption | omega) | exact bk_p (by assumption) (by first | assumption | omega) | exact bk_o (by assumption) (by first | assumption | omega) | exact bk_s (by assumption) (by first | assumption | omega) | exact bk_1 (by assumption) | exact bk_2 (by assumption) | exact bk_3 (by assumption) | exact bk_4 (by assumption) | exact bk_5 (by assumption) | exact bk_6 (by assumption) | exact bk_7 (by assumption) | exact bk_8 (by assumption) | exact sh_ring _ (by first | assumption | omega) | exact sh_imgs _ (by first | assumption | omega)) ?_
    (try rw [bx3 hF])
    refine u_aald dX7_readPerson_32 (by first | assumption | rfl | exact led_1 (by assumption) | exact led_2 (by assumption) | exact bk_m (by assumption) (by first | assumption | omega) | exact bk_p (by assumption) (by first | assumption | omega) | exact bk_o (by assumption) (by first | assumption | omega) | exact bk_s (by assumption) (by first | assumption | omega) | exact bk_1 (by assumption) | exact bk_2 (by assumption) | exact bk_3 (by assumption) | exact bk_4 (by assumption) | exact bk_5 (by assumption) | exact bk_6 (by assumption) | exact bk_7 (by assumption) | exact bk_8 (by assumption) | exact sh_ring _ (by first | assumption | omega) | exact sh_imgs _ (by first | assumption | omega)) (by decide) (by decide) rfl (by first | with_reducible rfl | (simp only [nlit, nI_add, pk_mul]; with_reducible rfl) | rfl) (by first | assumption | omega) (by decide) (by first | exact ro_m (by assumption) (by assumption) (by first | assumption | omega) | exact ro_p (by assumption) (by assumption) (by first | assumption | omega) | exact ro_o (by assumption) (by assumption) (by first | assumption | omega) | exact ro_s (by assumption) (by assumption) (by first | assumption | omega) | exact ro_ring (by assumption) (by first | assumption | omega) | exact ro_imgs (by assumption) (by first | assumption | omega)) ?_
    refine v_astore_1 rfl dX7_readPerson_33 ?_
    refine v_aload_0 dX7_readPerson_34 ?_
    refine v_iconst (v := nI 2) dX7_readPerson_35 (by decide) ?_
    refine v_aload_0 dX7_readPerson_36 ?_
    refine u_getR dX7_readPerson_37 gf_X7_73 (by first | assumption | rfl | exact led_1 (by assumption) | exact led_2 (by assumption) | exact bk_m (by assumption) (by first | assumption | omega) | exact bk_p (by assumption) (by first | assumption | omega) | exact bk_o (by assumption) (by first | assumption | omega) | exact bk_s (by assumption) (by first | assumption | omega) | exact bk_1 (by assumption) | exact bk_2 (by assumption) | exact bk_3 (by assumption) | exact bk_4 (by assumption) | exact bk_5 (by assumption) | exact bk_6 (by assumption) | exact bk_7 (by assumption) | exact bk_8 (by assumption) | exact sh_ring _ (by first | assumption | omega) | exact sh_imgs _ (by first | assumption | omega)) (by assumption) ?_
    refine u_getI dX7_readPerson_40 gf_X7_112 (by first | assumption | rfl | exact led_1 (by assumption) | exact led_2 (by assumption) | exact bk_m (by assumption) (by first | assumption | omega) | exact bk_p (by assumption) (by first | assumption | omega) | exact bk_o (by assumption) (by first | assumption | omega) | exact bk_s (by assumption) (by first | assumption | omega) | exact bk_1 (by assumption) | exact bk_2 (by assumption) | exact bk_3 (by assumption) | exact bk_4 (by assumption) | exact bk_5 (by assumption) | exact bk_6 (by assumption) | exact bk_7 (by assumption) | exact bk_8 (by assumption) | exact sh_ring _ (by first | assumption | omega) | exact sh_imgs _ (by first | assumption | omega)) ?_
    (try rw [bx3 hF])
    refine u_callV_2 dX7_readPerson_43 ml_X7_160 mv_X7_needNewName (by first | assumption | rfl | exact led_1 (by assumption) | exact led_2 (by assumption) | exact bk_m (by assumption) (by first | assumption | omega) | exact bk_p (by assumption) (by first | assumption | omega) | exact bk_o (by assumption) (by first | assumption | omega) | exact bk_s (by assumption) (by first | assumption | omega) | exact bk_1 (by assumption) | exact bk_2 (by assumption) | exact bk_3 (by assumption) | exact bk_4 (by assumption) | exact bk_5 (by assumption) | exact bk_6 (by assumption) | exact bk_7 (by assumption) | exact bk_8 (by assumption) | exact sh_ring _ (by first | assumption | omega) | exact sh_imgs _ (by first | assumption | omega)) (by decide) rfl (by decide) (Nat.le_of_ble_eq_true rfl) (c_X7_needNewName (t := 2) (m := s.2.1 3) (s := s) (by decide) (Or.inl (by simpa [rom] using hc9)) (by omega) hR hN hC hK hT (fun f p q J M p1 p2 p3 => ?_) (fun q1 J1 M1 r1 f1 hN1 => ?_))
    · refine v_if_eq (tgt := 61) dX7_readPerson_46 (by decide) (fun hc46 => ?_) (fun hc46 => ?_)
      · (first | rw [bI_0, Bool.not_eq_false] at hc46 | rw [bI_0] at hc46 | rw [show (0 : Int32) = nI 0 from rfl, nI_eq (by omega) (by omega)] at hc46 | skip)
        refine v_iconst (v := nI 0) dX7_readPerson_61 (by decide) ?_
        refine v_zret dX7_readPerson_62 (by first | rfl | exact bI_n _) rfl rfl rfl rfl ?_
        exact hQ.1 f p (by rw [lPerson, bnd_l q]) _ _ p1 p2 (hfr.fr9 p3)
      · exact absurd rfl hc46
    · have hM := hM.fr7 hO f1 r1
      have h17 := hN.2.2.2
      have hN : NmT J1 M1 (keepF tp sz s.2.1 s.1 (11 + s.2.1 3)) (cnt + 1) (fun i => if i = cnt then 11 + s.2.1 3 else sl i) := hN1 (by simpa [rom] using hc9) (by have := hC.2.2; omega) (by unfold tn; simp [bas]; omega)
      have hfr := hfr.fr7 f1
      have hT := hM.2.2.2.1
      have hF := hM.2.2.2.2.1
      have hc : J1 (B + 17 + s.2.1 3) = J1 (B + 17 + s.2.1 3) := rfl
      refine v_if_eq (tgt := 61) dX7_readPerson_46 (by decide) (fun hc46 => ?_) (fun hc46 => ?_)
      · exact absurd hc46 (by decide)
      · (first | rw [bI_0, Bool.not_eq_false] at hc46 | rw [bI_0] at hc46 | rw [show (0 : Int32) = nI 0 from rfl, nI_eq (by omega) (by omega)] at hc46 | skip)
        refine v_aload_0 dX7_readPerson_49 ?_
        refine v_ldcS (i := 12) dX7_readPerson_50 (by decide) rfl rfl ?_
        refine v_iconst (v := nI 1) dX7_readPerson_52 (by decide) ?_
        refine v_bipush (v := nI 9) dX7_readPerson_53 (by decide) ?_
        refine u_callV_3 dX7_readPerson_55 ml_X7_150 mv_X7_needWhole (by first | assumption | rfl | exact led_1 (by assumption) | exact led_2 (by assumption) | exact bk_m (by assumption) (by first | assumption | omega) | exact bk_p (by assumption) (by first | assumption | omega) | exact bk_o (by assumption) (by first | assumption | omega) | exact bk_s (by assumption) (by first | assumption | omega) | exact bk_1 (by assumption) | exact bk_2 (by assumption) | exact bk_3 (by assumption) | exact bk_4 (by assumption) | exact bk_5 (by assumption) | exact bk_6 (by assumption) | exact bk_7 (by assumption) | exact bk_8 (by assumption) | exact sh_ring _ (by first | assumption | omega) | exact sh_imgs _ (by first | assumption | omega)) (by decide) rfl (by decide) (Nat.le_of_ble_eq_true rfl) (c_X7_needWhole (i := 12) (lo := 1) (hi' := 9) (s := kept tp sz (11 + s.2.1 3) s) (by decide) (by omega) (by omega) hR hT (fun f p q J M p1 p2 p3 => ?_) (fun v2 u2 q2 e2 l2 h2 J2 M2 r2 n2 f2 => ?_))
        · refine v_if_ne (tgt := 63) dX7_readPerson_58 (by decide) (fun hc58 => ?_) (fun hc58 => ?_)
          · exact absurd rfl hc58
          · (first | rw [bI_0, Bool.not_eq_false] at hc58 | rw [bI_0] at hc58 | rw [show (0 : Int32) = nI 0 from rfl, nI_eq (by omega) (by omega)] at hc58 | skip)
            refine v_iconst (v := nI 0) dX7_readPerson_61 (by decide) ?_
            refine v_zret dX7_readPerson_62 (by first | rfl | exact bI_n _) rfl rfl rfl rfl ?_
            exact hQ.1 f p (by rw [lPerson, bnd_r q1, bnd_l q]) _ _ p1 p2 (hfr.fr9 p3)
        · have hM := hM.fr9 hO f2 r2
          have hN := hN.fr9 f2
          have hfr := hfr.fr9 f2
          have hT := hM.2.2.2.1
          have hF := hM.2.2.2.2.1
          have hc := (f2.1 (B + 17 + s.2.1 3) (by omega) (by omega)).trans hc
          refine v_if_ne (tgt := 63) dX7_readPerson_58 (by decide) (fun hc58 => ?_) (fun hc58 => ?_)
          · (first | rw [bI_0, Bool.not_eq_false] at hc58 | rw [bI_0] at hc58 | rw [show (0 : Int32) = nI 0 from rfl, nI_eq (by omega) (by omega)] at hc58 | skip)
            refine v_aload_1 dX7_readPerson_63 ?_
            refine v_aload_0 dX7_readPerson_64 ?_
            refine u_getI dX7_readPerson_65 gf_X7_154 (by first | assumption | rfl | exact led_1 (by assumption) | exact led_2 (by assumption) | exact bk_m (by assumption) (by first | assumption | omega) | exact bk_p (by assumption) (by first | assumption | omega) | exact bk_o (by assumption) (by first | assumption | omega) | exact bk_s (by assumption) (by first | assumption | omega) | exact bk_1 (by assumption) | exact bk_2 (by assumption) | exact bk_3 (by assumption) | exact bk_4 (by assumption) | exact bk_5 (by assumption) | exact bk_6 (by assumption) | exact bk_7 (by assumption) | exact bk_8 (by assumption) | exact sh_ring _ (by first | assumption | omega) | exact sh_imgs _ (by first | assumption | omega)) ?_
            rw [n2]
            refine u_putI dX7_readPerson_68 gf_X7_189 (by first | assumption | rfl | exact led_1 (by assumption) | exact led_2 (by assumption) | exact bk_m (by assumption) (by first | assumption | omega) | exact bk_p (by assumption) (by first | assumption | omega) | exact bk_o (by assumption) (by first | assumption | omega) | exact bk_s (by assumption) (by first | assumption | omega) | exact bk_1 (by assumption) | exact bk_2 (by assumption) | exact bk_3 (by assumption) | exact bk_4 (by assumption) | exact bk_5 (by assumption) | exact bk_6 (by assumption) | exact bk_7 (by assumption) | exact bk_8 (by assumption) | exact sh_ring _ (by first | assumption | omega) | exact sh_imgs _ (by first | assumption | omega)) rfl rfl rfl ?_
            have hM := hM.cell hO (x := B + 17 + s.2.1 3) (j := 0) (v := nI v2) (Or.inr (Or.inl ⟨by omega, by omega⟩))
            have hN := hN.up (x := B + 17 + s.2.1 3) (j := 0) (v := nI v2) (Or.inl (by omega))
            have hfr := hfr.up (x := B + 17 + s.2.1 3) (j := 0) (v := nI v2) (Or.inl ⟨by omega, by omega⟩) hB
            have hT := hM.2.2.2.1
            have hF := hM.2.2.2.2.1
            have hc := ui_row (j := 0) (v := nI v2) hc
            refine v_aload_0 dX7_readPerson_71 ?_
            refine v_ldcS (i := 19) dX7_readPerson_72 (by decide) rfl rfl ?_
            refine v_iconst (v := nI 0) dX7_readPerson_74 (by decide) ?_
            refine v_bipush (v := nI 99) dX7_readPerson_75 (by decide) ?_
            refine u_callV_3 dX7_readPerson_77 ml_X7_150 mv_X7_needWhole (by first | assumption | rfl | exact led_1 (by assumption) | exact led_2 (by assumption) | exact bk_m (by assumption) (by first | assumption | omega) | exact bk_p (by assumption) (by first | assumption | omega) | exact bk_o (by assumption) (by first | assumption | omega) | exact bk_s (by assumption) (by first | assumption | omega) | exact bk_1 (by assumption) | exact bk_2 (by assumption) | exact bk_3 (by assumption) | exact bk_4 (by assumption) | exact bk_5 (by assumption) | exact bk_6 (by assumption) | exact bk_7 (by assumption) | exact bk_8 (by assumption) | exact sh_ring _ (by first | assumption | omega) | exact sh_imgs _ (by first | assumption | omega)) (by decide) rfl (by decide) (Nat.le_of_ble_eq_true rfl) (c_X7_needWhole (i := 19) (lo := 0) (hi' := 99) (s := u2) (by decide) (by omega) (by omega) hR hT (fun f p q J M p1 p2 p3 => ?_) (fun v3 u3 q3 e3 l3 h3 J3 M3 r3 n3 f3 => ?_))
            · refine v_if_ne (tgt := 85) dX7_readPerson_80 (by decide) (fun hc80 => ?_) (fun hc80 => ?_)
              · exact absurd rfl hc80
              · (first | rw [bI_0, Bool.not_eq_false] at hc80 | rw [bI_0] at hc80 | rw [show (0 : Int32) = nI 0 from rfl, nI_eq (by omega) (by omega)] at hc80 | skip)
                refine v_iconst (v := nI 0) dX7_readPerson_83 (by decide) ?_
                refine v_zret dX7_readPerson_84 (by first | rfl | exact bI_n _) rfl rfl rfl rfl ?_
                exact hQ.1 f p (by rw [lPerson, bnd_r q1, bnd_r q2, bnd_l q]) _ _ p1 p2 (hfr.fr9 p3)
            · have hM := hM.fr9 hO f3 r3
              have hN := hN.fr9 f3
              have hfr := hfr.fr9 f3
              have hT := hM.2.2.2.1
              have hF := hM.2.2.2.2.1
              have hc := (f3.1 (B + 17 + s.2.1 3) (by omega) (by omega)).trans hc
              refine v_if_ne (tgt := 85) dX7_readPerson_80 (by decide) (fun hc80 => ?_) (fun hc80 => ?_)
              · (first | rw [bI_0, Bool.not_eq_false] at hc80 | rw [bI_0] at hc80 | rw [show (0 : Int32) = nI 0 from rfl, nI_eq (by omega) (by omega)] at hc80 | skip)
                refine v_aload_1 dX7_readPerson_85 ?_
                refine v_aload_0 dX7_readPerson_86 ?_
                refine u_getI dX7_readPerson_87 gf_X7_154 (by first | assumption | rfl | exact led_1 (by assumption) | exact led_2 (by assumption) | exact bk_m (by assumption) (by first | assumption | omega) | exact bk_p (by assumption) (by first | assumption | omega) | exact bk_o (by assumption) (by first | assumption | omega) | exact bk_s (by assumption) (by first | assumption | omega) | exact bk_1 (by assumption) | exact bk_2 (by assumption) | exact bk_3 (by assumption) | exact bk_4 (by assumption) | exact bk_5 (by assumption) | exact bk_6 (by assumption) | exact bk_7 (by assumption) | exact bk_8 (by assumption) | exact sh_ring _ (by first | assumption | omega) | exact sh_imgs _ (by first | assumption | omega)) ?_
                rw [n3]
                refine u_putI dX7_readPerson_90 gf_X7_194 (by first | assumption | rfl | exact led_1 (by assumption) | exact led_2 (by assumption) | exact bk_m (by assumption) (by first | assumption | omega) | exact bk_p (by assumption) (by first | assumption | omega) | exact bk_o (by assumption) (by first | assumption | omega) | exact bk_s (by assumption) (by first | assumption | omega) | exact bk_1 (by assumption) | exact bk_2 (by assumption) | exact bk_3 (by assumption) | exact bk_4 (by assumption) | exact bk_5 (by assumption) | exact bk_6 (by assumption) | exact bk_7 (by assumption) | exact bk_8 (by assumption) | exact sh_ring _ (by first | assumption | omega) | exact sh_imgs _ (by first | assumption | omega)) rfl rfl rfl ?_
                have hM := hM.cell hO (x := B + 17 + s.2.1 3) (j := 1) (v := nI v3) (Or.inr (Or.inl ⟨by omega, by omega⟩))
                have hN := hN.up (x := B + 17 + s.2.1 3) (j := 1) (v := nI v3) (Or.inl (by omega))
                have hfr := hfr.up (x := B + 17 + s.2.1 3) (j := 1) (v := nI v3) (Or.inl ⟨by omega, by omega⟩) hB
                have hT := hM.2.2.2.1
                have hF := hM.2.2.2.2.1
                have hc := ui_row (j := 1) (v := nI v3) hc
                have hT0 := hT.2.1
                have cut165 : ∀ (J : HI) (M : HL) (u6 : PS) (bf6 hb d : Nat), Md J M R B tp sz u6.1 bf6 s.2.1 s.2.2 → NmT J M (keepF tp sz s.2.1 s.1 (11 + s.2.1 3)) (cnt + 1) (fun i => if i = cnt then 11 + s.2.1 3 else sl i) → FrB B I J L M → J (B + 17 + s.2.1 3) = upd (upd (upd (upd (upd (J1 (B + 17 + s.2.1 3)) 0 (nI v2)) 1 (nI v3)) 2 (nI (qChild tp sz u3).1)) 3 (nI hb)) 4 (nI d) → u6.2 = (keepF tp sz s.2.1 s.1 (11 + s.2.1 3), s.2.2) → lPerson tp sz s = .inr (setS u6 (psF u6.2.1 (s.2.1 3) v2 v3 (qChild tp sz u3).1 hb d)) → VV yX7_readPerson cX7_readPerson 2 (some .boolean) 7 Q b ad 165 [some (.ref (b + 88)), some (.ref (b + (B + 17 + s.2.1 3)))] [] J M R := by
                  intro J M u6 bf6 hb d hM hN hfr hc eu hl
                  have hT := hM.2.2.2.1
                  have hF := hM.2.2.2.2.1
                  refine v_aload_0 dX7_readPerson_165 ?_
                  refine u_getR dX7_readPerson_166 gf_X7_73 (by first | assumption | rfl | exact led_1 (by assumption) | exact led_2 (by assumption) | exact bk_m (by assumption) (by first | assumption | omega) | exact bk_p (by assumption) (by first | assumption | omega) | exact bk_o (by assumption) (by first | assumption | omega) | exact bk_s (by assumption) (by first | assumption | omega) | exact bk_1 (by assumption) | exact bk_2 (by assumption) | exact bk_3 (by assumption) | exact bk_4 (by assumption) | exact bk_5 (by assumption) | exact bk_6 (by assumption) | exact bk_7 (by assumption) | exact bk_8 (by assumption) | exact sh_ring _ (by first | assumption | omega) | exact sh_imgs _ (by first | assumption | omega)) (by assumption) ?_
                  refine v_dup dX7_readPerson_169 rfl ?_
                  refine u_getI dX7_readPerson_170 gf_X7_112 (by first | assumption | rfl | exact led_1 (by assumption) | exact led_2 (by assumption) | exact bk_m (by assumption) (by first | assumption | omega) | exact bk_p (by assumption) (by first | assumption | omega) | exact bk_o (by assumption) (by first | assumption | omega) | exact bk_s (by assumption) (by first | assumption | omega) | exact bk_1 (by assumption) | exact bk_2 (by assumption) | exact bk_3 (by assumption) | exact bk_4 (by assumption) | exact bk_5 (by assumption) | exact bk_6 (by assumption) | exact bk_7 (by assumption) | exact bk_8 (by assumption) | exact sh_ring _ (by first | assumption | omega) | exact sh_imgs _ (by first | assumption | omega)) ?_
                  (try rw [bx3 hF])
                  refine v_iconst (v := nI 1) dX7_readPerson_173 (by decide) ?_
                  refine v_iadd dX7_readPerson_174 ?_
                  rw [nI_add]
                  refine u_putI dX7_readPerson_175 gf_X7_112 (by first | assumption | rfl | exact led_1 (by assumption) | exact led_2 (by assumption) | exact bk_m (by assumption) (by first | assumption | omega) | exact bk_p (by assumption) (by first | assumption | omega) | exact bk_o (by assumption) (by first | assumption | omega) | exact bk_s (by assumption) (by first | assumption | omega) | exact bk_1 (by assumption) | exact bk_2 (by assumption) | exact bk_3 (by assumption) | exact bk_4 (by assumption) | exact bk_5 (by assumption) | exact bk_6 (by assumption) | exact bk_7 (by assumption) | exact bk_8 (by assumption) | exact sh_ring _ (by first | assumption | omega) | exact sh_imgs _ (by first | assumption | omega)) rfl rfl rfl ?_
                  refine v_iconst (v := nI 1) dX7_readPerson_178 (by decide) ?_
                  refine v_zret dX7_readPerson_179 (by first | rfl | exact bI_n _) rfl rfl rfl rfl ?_
                  have hI := inv_person hby hPI hc9 hl
                  have eF : u6.2.1 = keepF tp sz s.2.1 s.1 (11 + s.2.1 3) := congrArg Prod.fst eu
                  have eL : u6.2.2 = s.2.2 := by have q := congrArg Prod.snd eu; exact q
                  rw [eF] at hl hI
                  obtain ⟨g3, ge, ga, gb, gc, gd, gg⟩ := ps_facts (F := keepF tp sz s.2.1 s.1 (11 + s.2.1 3)) (a := v2) (h := v3) (c := (qChild tp sz u3).1) (t := hb) (d := d) hc9
                  generalize psF (keepF tp sz s.2.1 s.1 (11 + s.2.1 3)) (s.2.1 3) v2 v3 (qChild tp sz u3).1 hb d = G at hl hI g3 ge ga gb gc gd gg
                  have ge2 : ∀ x, x < 192 → x ≠ 3 → x ≠ 26 + s.2.1 3 → x ≠ 32 + s.2.1 3 → x ≠ 38 + s.2.1 3 → x ≠ 44 + s.2.1 3 → x ≠ 50 + s.2.1 3 → G x = s.2.1 x := fun x a0 a1 a2 a3 a4 a5 a6 => by rw [ge x a1 a2 a3 a4 a5 a6, keepF_lo a0]
                  have g1 := ge2 1 (by omega) (by omega) (by omega) (by omega) (by omega) (by omega) (by omega)
                  have g2 := ge2 2 (by omega) (by omega) (by omega) (by omega) (by omega) (by omega) (by omega)
                  have g7 := ge2 7 (by omega) (by omega) (by omega) (by omega) (by omega) (by omega) (by omega)
                  refine hQ.2 _ hl _ _ _ ⟨⟨hR, hb2, hB, hT.fr (ui_ne (by omega)) (ui_ne (by omega)) rfl, ?_, ?_, ?_⟩, hI.1, cnt + 1, _, (hN.up (Or.inl (by omega))).cong (fun x hx => ge x (by omega) (by omega) (by omega) (by omega) (by omega) (by omega)), hC.new (n := 11 + s.2.1 3) (fun x hx => ?_) (by omega) (fun i hi => (h17 i hi).1) ?_⟩ (hfr.up (Or.inl ⟨by omega, by omega⟩) hB)
                  · refine bk_person hF hO hc9 g3 ge2 (ui_s _ _ _ _) (fun j hj => ui_o hj) (fun j hj => ?_) (fun x a1 _ _ _ => ui_ne a1)
                    rw [ui_ne (by omega), hc]
                    show _ = nI (G (26 + 6 * j + s.2.1 3))
                    match j, hj with
                    | 0, _ => rw [upd_o (by decide), upd_o (by decide), upd_o (by decide), upd_o (by decide), upd_s, show 26 + 6 * 0 + s.2.1 3 = 26 + s.2.1 3 by omega, ga]
                    | 1, _ => rw [upd_o (by decide), upd_o (by decide), upd_o (by decide), upd_s, show 26 + 6 * 1 + s.2.1 3 = 32 + s.2.1 3 by omega, gb]
                    | 2, _ => rw [upd_o (by decide), upd_o (by decide), upd_s, show 26 + 6 * 2 + s.2.1 3 = 38 + s.2.1 3 by omega, gc]
                    | 3, _ => rw [upd_o (by decide), upd_s, show 26 + 6 * 3 + s.2.1 3 = 44 + s.2.1 3 by omega, gd]
                    | 4, _ => rw [upd_s, show 26 + 6 * 4 + s.2.1 3 = 50 + s.2.1 3 by omega, gg]
                  · show LDI _ (B + 8) u6.2.2.1 u6.2.2.2.1 u6.2.2.2.2
                    rw [eL]
                    exact hM.2.2.2.2.2.1.same (ui_ne (by omega)) (ui_ne (by omega)) (ui_ne (by omega))
                  · show _ = nI (G 7) ∧ _
                    rw [ui_ne (by omega), g7]; exact hM.2.2.2.2.2.2
                  · show tn G x ↔ _
                    unfold tn; rw [g1, g2, g3]; omega
                  · show G 1 + G 2 + G 3 = _
                    omega
                have cut133 : ∀ (J : HI) (M : HL) (u5 : PS) (bf5 hb : Nat), Md J M R B tp sz u5.1 bf5 s.2.1 s.2.2 → NmT J M (keepF tp sz s.2.1 s.1 (11 + s.2.1 3)) (cnt + 1) (fun i => if i = cnt then 11 + s.2.1 3 else sl i) → FrB B I J L M → J (B + 17 + s.2.1 3) = upd (upd (upd (J1 (B + 17 + s.2.1 3)) 0 (nI v2)) 1 (nI v3)) 2 (nI (qChild tp sz u3).1) → u5.2 = (keepF tp sz s.2.1 s.1 (11 + s.2.1 3), s.2.2) → hb < 5 → J 88 9 = nI hb → qHabit tp sz (qChild tp sz u3).2 = .inr (hb, u5) → VV yX7_readPerson cX7_readPerson 2 (some .boolean) 7 Q b ad 133 [some (.ref (b + 88)), some (.ref (b + (B + 17 + s.2.1 3)))] [] J M R := by
                  intro J M u5 bf5 hb hM hN hfr hc eu hb5 n5 q5
                  have hT := hM.2.2.2.1
                  have hF := hM.2.2.2.2.1
                  refine v_aload_1 dX7_readPerson_133 ?_
                  refine v_aload_0 dX7_readPerson_134 ?_
                  refine u_getI dX7_readPerson_135 gf_X7_154 (by first | assumption | rfl | exact led_1 (by assumption) | exact led_2 (by assumption) | exact bk_m (by assumption) (by first | assumption | omega) | exact bk_p (by assumption) (by first | assumption | omega) | exact bk_o (by assumption) (by first | assumption | omega) | exact bk_s (by assumption) (by first | assumption | omega) | exact bk_1 (by assumption) | exact bk_2 (by assumption) | exact bk_3 (by assumption) | exact bk_4 (by assumption) | exact bk_5 (by assumption) | exact bk_6 (by assumption) | exact bk_7 (by assumption) | exact bk_8 (by assumption) | exact sh_ring _ (by first | assumption | omega) | exact sh_imgs _ (by first | assumption | omega)) ?_
                  rw [n5]
                  refine u_putI dX7_readPerson_138 gf_X7_202 (by first | assumption | rfl | exact led_1 (by assumption) | exact led_2 (by assumption) | exact bk_m (by assumption) (by first | assumption | omega) | exact bk_p (by assumption) (by first | assumption | omega) | exact bk_o (by assumption) (by first | assumption | omega) | exact bk_s (by assumption) (by first | assumption | omega) | exact bk_1 (by assumption) | exact bk_2 (by assumption) | exact bk_3 (by assumption) | exact bk_4 (by assumption) | exact bk_5 (by assumption) | exact bk_6 (by assumption) | exact bk_7 (by assumption) | exact bk_8 (by assumption) | exact sh_ring _ (by first | assumption | omega) | exact sh_imgs _ (by first | assumption | omega)) rfl rfl rfl ?_
                  have hM := hM.cell hO (x := B + 17 + s.2.1 3) (j := 3) (v := nI hb) (Or.inr (Or.inl ⟨by omega, by omega⟩))
                  have hN := hN.up (x := B + 17 + s.2.1 3) (j := 3) (v := nI hb) (Or.inl (by omega))
                  have hfr := hfr.up (x := B + 17 + s.2.1 3) (j := 3) (v := nI hb) (Or.inl ⟨by omega, by omega⟩) hB
                  have hT := hM.2.2.2.1
                  have hF := hM.2.2.2.2.1
                  have hc := ui_row (j := 3) (v := nI hb) hc
                  refine v_aload_1 dX7_readPerson_141 ?_
                  refine v_iconst (v := nI 0) dX7_readPerson_142 (by decide) ?_
                  refine u_putI dX7_readPerson_143 gf_X7_204 (by first | assumption | rfl | exact led_1 (by assumption) | exact led_2 (by assumption) | exact bk_m (by assumption) (by first | assumption | omega) | exact bk_p (by assumption) (by first | assumption | omega) | exact bk_o (by assumption) (by first | assumption | omega) | exact bk_s (by assumption) (by first | assumption | omega) | exact bk_1 (by assumption) | exact bk_2 (by assumption) | exact bk_3 (by assumption) | exact bk_4 (by assumption) | exact bk_5 (by assumption) | exact bk_6 (by assumption) | exact bk_7 (by assumption) | exact bk_8 (by assumption) | exact sh_ring _ (by first | assumption | omega) | exact sh_imgs _ (by first | assumption | omega)) rfl rfl rfl ?_
                  have hM := hM.cell hO (x := B + 17 + s.2.1 3) (j := 4) (v := nI 0) (Or.inr (Or.inl ⟨by omega, by omega⟩))
                  have hN := hN.up (x := B + 17 + s.2.1 3) (j := 4) (v := nI 0) (Or.inl (by omega))
                  have hfr := hfr.up (x := B + 17 + s.2.1 3) (j := 4) (v := nI 0) (Or.inl ⟨by omega, by omega⟩) hB
                  have hT := hM.2.2.2.1
                  have hF := hM.2.2.2.2.1
                  have hc := ui_row (j := 4) (v := nI 0) hc
                  have w4 : ui (ui J (B + 17 + s.2.1 3) 3 (nI hb)) (B + 17 + s.2.1 3) 4 (nI 0) (B + 17 + s.2.1 3) 4 = nI 0 := ui_s _ _ _ _
                  refine v_aload_0 dX7_readPerson_146 ?_
                  refine v_ldcS (i := 11) dX7_readPerson_147 (by decide) rfl rfl ?_
                  refine u_callV_1 dX7_readPerson_149 ml_X7_115 mv_X7_passWord (by first | assumption | rfl | exact led_1 (by assumption) | exact led_2 (by assumption) | exact bk_m (by assumption) (by first | assumption | omega) | exact bk_p (by assumption) (by first | assumption | omega) | exact bk_o (by assumption) (by first | assumption | omega) | exact bk_s (by assumption) (by first | assumption | omega) | exact bk_1 (by assumption) | exact bk_2 (by assumption) | exact bk_3 (by assumption) | exact bk_4 (by assumption) | exact bk_5 (by assumption) | exact bk_6 (by assumption) | exact bk_7 (by assumption) | exact bk_8 (by assumption) | exact sh_ring _ (by first | assumption | omega) | exact sh_imgs _ (by first | assumption | omega)) (by decide) rfl (by decide) (Nat.le_of_ble_eq_true rfl) (c_X7_passWord (i := 11) (by decide) hR hT (fun q6 => ?_) (fun q6 J6 M6 r6 f6 => ?_))
                  · refine v_if_eq (tgt := 165) dX7_readPerson_152 (by decide) (fun _ => ?_) (fun h => absurd rfl h)
                    exact cut165 _ _ u5 bf5 hb 0 hM hN hfr hc eu (by rw [lPerson, bnd_r q1, bnd_r q2, bnd_r q3, bnd_r q5, bnd_r (show qDoes tp sz u5 = .inr (0, u5) by unfold qDoes; rw [if_neg (by rw [q6]; decide)])])
                  · refine v_if_eq (tgt := 165) dX7_readPerson_152 (by decide) (fun h => absurd h (by decide)) (fun _ => ?_)
                    have eu5 : u5.2.1 = keepF tp sz s.2.1 s.1 (11 + s.2.1 3) := congrArg Prod.fst eu
                    have g1 : ∀ x, x ≠ 3 → setF (keepF tp sz s.2.1 s.1 (11 + s.2.1 3)) 3 (s.2.1 3 + 1) x = keepF tp sz s.2.1 s.1 (11 + s.2.1 3) x := fun x hx => setF_n hx
                    have g3 : setF (keepF tp sz s.2.1 s.1 (11 + s.2.1 3)) 3 (s.2.1 3 + 1) 3 = s.2.1 3 + 1 := setF_s _ _ _
                    obtain ⟨-, hnk, hnf⟩ := qNew_i q1
                    have hk2 := tk_2 hby hPI.1 (nmok_2 hnk)
                    have hwk := tL_wok hby hPI.1 (nmok_2 hnk)
                    have htn : ∀ x, x < 17 → (tn (setF (keepF tp sz s.2.1 s.1 (11 + s.2.1 3)) 3 (s.2.1 3 + 1)) x ↔ tn s.2.1 x ∨ x = 11 + s.2.1 3) := fun x hx => by
                      unfold tn; rw [g3, g1 1 (by decide), g1 2 (by decide), keepF_lo (by decide), keepF_lo (by decide)]; omega
                    have hK2 : NmK (setF (keepF tp sz s.2.1 s.1 (11 + s.2.1 3)) 3 (s.2.1 3 + 1)) := hK.keep (n := 11 + s.2.1 3) (by omega) hk2.2.2.2.1 hk2.2.2.2.2.1 hwk.1 hnf (fun x hx => g1 x (by omega)) htn (by unfold tn; omega)
                    have hC2 : TnC (setF (keepF tp sz s.2.1 s.1 (11 + s.2.1 3)) 3 (s.2.1 3 + 1)) (cnt + 1) (fun i => if i = cnt then 11 + s.2.1 3 else sl i) := hC.new htn (by omega) (fun i hi => (h17 i hi).1) (by rw [g3, g1 1 (by decide), g1 2 (by decide), keepF_lo (by decide), keepF_lo (by decide)]; omega)
                    refine v_aload_0 dX7_readPerson_155 ?_
                    refine v_aload_1 dX7_readPerson_156 ?_
                    refine u_callV_1 dX7_readPerson_157 ml_X7_207 mv_X7_readPersonsWorks (by first | assumption | rfl | exact led_1 (by assumption) | exact led_2 (by assumption) | exact bk_m (by assumption) (by first | assumption | omega) | exact bk_p (by assumption) (by first | assumption | omega) | exact bk_o (by assumption) (by first | assumption | omega) | exact bk_s (by assumption) (by first | assumption | omega) | exact bk_1 (by assumption) | exact bk_2 (by assumption) | exact bk_3 (by assumption) | exact bk_4 (by assumption) | exact bk_5 (by assumption) | exact bk_6 (by assumption) | exact bk_7 (by assumption) | exact bk_8 (by assumption) | exact sh_ring _ (by first | assumption | omega) | exact sh_imgs _ (by first | assumption | omega)) (by decide) rfl (by decide) (Nat.le_of_ble_eq_true rfl) (c_X7_readPersonsWorks (s := nx tp sz u5) (F := setF (keepF tp sz s.2.1 s.1 (11 + s.2.1 3)) 3 (s.2.1 3 + 1)) (X := B + 17 + s.2.1 3) hR (bk_p hB hc9) (by omega) r6 (fun x hx => by show _ = u5.2.1 x; rw [eu5]; exact setF_n (by omega)) ((hN.cong (F' := setF (keepF tp sz s.2.1 s.1 (11 + s.2.1 3)) 3 (s.2.1 3 + 1)) (fun x hx => setF_n (by omega))).fr9 f6) hC2 hK2 (by rw [f6.1 _ (by omega) (by omega)]; exact w4) (fun f p q J7 M7 p1 p2 p3 p4 p5 => ?_) (fun d u6 q J7 M7 bf7 r7 p3 p4 p5 p6 p7 => ?_))
                    · refine v_if_ne (tgt := 165) dX7_readPerson_160 (by decide) (fun h => absurd rfl h) (fun _ => ?_)
                      refine v_iconst (v := nI 0) dX7_readPerson_163 (by decide) ?_
                      refine v_zret dX7_readPerson_164 (by first | rfl | exact bI_n _) rfl rfl rfl rfl ?_
                      exact hQ.1 f p (by rw [lPerson, bnd_r q1, bnd_r q2, bnd_r q3, bnd_r q5, bnd_l (show qDoes tp sz u5 = .inl (f, p) by unfold qDoes; rw [if_pos q6]; exact q)]) _ _ p1 p2 (hfr.fr9 f6 |>.trans (frx B hB (by omega) p3 p4 p5))
                    · refine v_if_ne (tgt := 165) dX7_readPerson_160 (by decide) (fun _ => ?_) (fun h => absurd h (by decide))
                      have hfr := (hfr.fr9 f6).trans (frx B hB (by omega) p3 p4 p5)
                      have hN := hN.fr9 f6
                      have hM := hM.fr9 hO f6 r6
                      have ed := lDoes_i hby 6 0 (nx tp sz u5) (d, u6) r6.2.1 (by decide) q
                      have eu6 : u6.2 = u5.2 := ed.1.1
                      have hx7 : ∀ x, x ≠ 88 → x ≠ 89 → x ≠ B + 17 + s.2.1 3 → J7 x = J6 x := p3
                      have hM7 : Md J7 M7 R B tp sz u6.1 bf7 s.2.1 s.2.2 := ⟨hR, hb2, hB, r7, hM.2.2.2.2.1.frm (hx7 _ (by omega) (by omega) (by omega)) (fun m q => hx7 _ (by omega) (by omega) (by omega)) (fun m q => hx7 _ (by omega) (by omega) (by omega)) (fun m q => hx7 _ (by omega) (by omega) (by omega)) (fun m q => hx7 _ (by omega) (by omega) (by omega)) ⟨hx7 _ (by omega) (by omega) (by omega), hx7 _ (by omega) (by omega) (by omega), hx7 _ (by omega) (by omega) (by omega)⟩, hM.2.2.2.2.2.1.same (hx7 _ (by omega) (by omega) (by omega)) (hx7 _ (by omega) (by omega) (by omega)) (hx7 _ (by omega) (by omega) (by omega)), by rw [p4 8 (by decide) (by decide)]; exact hM.2.2.2.2.2.2.1, by rw [p7]; exact hM.2.2.2.2.2.2.2⟩
                      refine cut165 J7 M7 u6 bf7 hb d hM7 (hN.fr (p4 7 (by decide) (by decide)) (hx7 _ (by omega) (by omega) (by omega)) (hx7 _ (by omega) (by omega) (by omega)) (p5 91 (by decide))) hfr ?_ (eu6.trans eu) (by rw [lPerson, bnd_r q1, bnd_r q2, bnd_r q3, bnd_r q5, bnd_r (show qDoes tp sz u5 = .inr (d, u6) by unfold qDoes; rw [if_pos q6]; exact q)])
                      rw [p6, f6.1 _ (by omega) (by omega), hc]
                      funext z
                      by_cases hz : z = 4 <;> simp [upd, hz]
                have eu3 : u3.2 = (keepF tp sz s.2.1 s.1 (11 + s.2.1 3), s.2.2) := by rw [e3, e2]; rfl
                have cut100 : ∀ (J : HI) (M : HL) (bf4 : Nat), Md J M R B tp sz (qChild tp sz u3).2.1 bf4 s.2.1 s.2.2 → NmT J M (keepF tp sz s.2.1 s.1 (11 + s.2.1 3)) (cnt + 1) (fun i => if i = cnt then 11 + s.2.1 3 else sl i) → FrB B I J L M → J (B + 17 + s.2.1 3) = upd (upd (J1 (B + 17 + s.2.1 3)) 0 (nI v2)) 1 (nI v3) → VV yX7_readPerson cX7_readPerson 2 (some .boolean) 7 Q b ad 100 [some (.ref (b + 88)), some (.ref (b + (B + 17 + s.2.1 3)))] [.int (nI (qChild tp sz u3).1), .ref (b + (B + 17 + s.2.1 3))] J M R := by
                  intro J M bf4 hM hN hfr hc
                  have hT := hM.2.2.2.1
                  have hF := hM.2.2.2.2.1
                  have hq4 := (qChild_i (tp := tp) hby (show u3.1 ≤ sz from hT0)).2
                  have eu4 : (qChild tp sz u3).2.2 = (keepF tp sz s.2.1 s.1 (11 + s.2.1 3), s.2.2) := by unfold qChild; split <;> exact eu3
                  refine u_putI dX7_readPerson_100 gf_X7_196 (bk_p hB hc9) (by rw [nI_b hq4]; exact bI_n _) (by rw [nI_b hq4]; cases (decide ((qChild tp sz u3).1 = 1)) <;> rfl) rfl ?_
                  have hM := hM.cell hO (x := B + 17 + s.2.1 3) (j := 2) (v := nI (qChild tp sz u3).1) (Or.inr (Or.inl ⟨by omega, by omega⟩))
                  have hN := hN.up (x := B + 17 + s.2.1 3) (j := 2) (v := nI (qChild tp sz u3).1) (Or.inl (by omega))
                  have hfr := hfr.up (x := B + 17 + s.2.1 3) (j := 2) (v := nI (qChild tp sz u3).1) (Or.inl ⟨by omega, by omega⟩) hB
                  have hT := hM.2.2.2.1
                  have hF := hM.2.2.2.2.1
                  have hc := ui_row (j := 2) (v := nI (qChild tp sz u3).1) hc
                  refine v_aload_0 dX7_readPerson_103 ?_
                  refine v_iconst (v := nI 0) dX7_readPerson_104 (by decide) ?_
                  refine u_putI dX7_readPerson_105 gf_X7_154 (by first | assumption | rfl | exact led_1 (by assumption) | exact led_2 (by assumption) | exact bk_m (by assumption) (by first | assumption | omega) | exact bk_p (by assumption) (by first | assumption | omega) | exact bk_o (by assumption) (by first | assumption | omega) | exact bk_s (by assumption) (by first | assumption | omega) | exact bk_1 (by assumption) | exact bk_2 (by assumption) | exact bk_3 (by assumption) | exact bk_4 (by assumption) | exact bk_5 (by assumption) | exact bk_6 (by assumption) | exact bk_7 (by assumption) | exact bk_8 (by assumption) | exact sh_ring _ (by first | assumption | omega) | exact sh_imgs _ (by first | assumption | omega)) rfl rfl rfl ?_
                  have hM := hM.num hO (v := nI 0)
                  have hN := hN.up (x := 88) (j := 9) (v := nI 0) (Or.inr ⟨rfl, by decide⟩)
                  have hfr := hfr.up (x := 88) (j := 9) (v := nI 0) (Or.inr rfl) hB
                  have hT := hM.2.2.2.1
                  have hF := hM.2.2.2.2.1
                  have hc := (ui_ne (I := _) (a := 88) (k := 9) (v := nI 0) (show B + 17 + s.2.1 3 ≠ 88 by omega)).trans hc
                  refine v_aload_0 dX7_readPerson_108 ?_
                  refine u_getR dX7_readPerson_109 gf_X7_14 (by first | assumption | rfl | exact led_1 (by assumption) | exact led_2 (by assumption) | exact bk_m (by assumption) (by first | assumption | omega) | exact bk_p (by assumption) (by first | assumption | omega) | exact bk_o (by assumption) (by first | assumption | omega) | exact bk_s (by assumption) (by first | assumption | omega) | exact bk_1 (by assumption) | exact bk_2 (by assumption) | exact bk_3 (by assumption) | exact bk_4 (by assumption) | exact bk_5 (by assumption) | exact bk_6 (by assumption) | exact bk_7 (by assumption) | exact bk_8 (by assumption) | exact sh_ring _ (by first | assumption | omega) | exact sh_imgs _ (by first | assumption | omega)) (ro_X7_3 (by assumption)) ?_
                  refine v_ldcS (i := 10) dX7_readPerson_112 (by decide) rfl rfl ?_
                  refine u_callV_1 dX7_readPerson_114 ml_X7_199 mv_X9_isWord (by first | assumption | rfl | exact led_1 (by assumption) | exact led_2 (by assumption) | exact bk_m (by assumption) (by first | assumption | omega) | exact bk_p (by assumption) (by first | assumption | omega) | exact bk_o (by assumption) (by first | assumption | omega) | exact bk_s (by assumption) (by first | assumption | omega) | exact bk_1 (by assumption) | exact bk_2 (by assumption) | exact bk_3 (by assumption) | exact bk_4 (by assumption) | exact bk_5 (by assumption) | exact bk_6 (by assumption) | exact bk_7 (by assumption) | exact bk_8 (by assumption) | exact sh_ring _ (by first | assumption | omega) | exact sh_imgs _ (by first | assumption | omega)) (by decide) rfl (by decide) (Nat.le_of_ble_eq_true rfl) (c_X9_isWord (i := 10) (by decide) hR hT ?_)
                  refine v_if_eq (tgt := 133) dX7_readPerson_117 (by decide) (fun hc117 => ?_) (fun hc117 => ?_)
                  · (first | rw [bI_0, Bool.not_eq_false] at hc117 | rw [bI_0] at hc117 | rw [show (0 : Int32) = nI 0 from rfl, nI_eq (by omega) (by omega)] at hc117 | skip)
                    exact cut133 _ _ (qChild tp sz u3).2 bf4 0 hM hN hfr hc eu4 (by decide) (ui_s _ _ _ _) (by unfold qHabit; rw [if_neg (by rw [hc117]; decide)])
                  · (first | rw [bI_0, Bool.not_eq_false] at hc117 | rw [bI_0] at hc117 | rw [show (0 : Int32) = nI 0 from rfl, nI_eq (by omega) (by omega)] at hc117 | skip)
                    refine v_aload_0 dX7_readPerson_120 ?_
                    refine v_ldcS (i := 10) dX7_readPerson_121 (by decide) rfl rfl ?_
                    refine v_iconst (v := nI 1) dX7_readPerson_123 (by decide) ?_
                    refine v_iconst (v := nI 4) dX7_readPerson_124 (by decide) ?_
                    refine u_callV_3 dX7_readPerson_125 ml_X7_150 mv_X7_needWhole (by first | assumption | rfl | exact led_1 (by assumption) | exact led_2 (by assumption) | exact bk_m (by assumption) (by first | assumption | omega) | exact bk_p (by assumption) (by first | assumption | omega) | exact bk_o (by assumption) (by first | assumption | omega) | exact bk_s (by assumption) (by first | assumption | omega) | exact bk_1 (by assumption) | exact bk_2 (by assumption) | exact bk_3 (by assumption) | exact bk_4 (by assumption) | exact bk_5 (by assumption) | exact bk_6 (by assumption) | exact bk_7 (by assumption) | exact bk_8 (by assumption) | exact sh_ring _ (by first | assumption | omega) | exact sh_imgs _ (by first | assumption | omega)) (by decide) rfl (by decide) (Nat.le_of_ble_eq_true rfl) (c_X7_needWhole (i := 10) (lo := 1) (hi' := 4) (s := (qChild tp sz u3).2) (by decide) (by omega) (by omega) hR hT (fun f p q J9 M9 p1 p2 p3 => ?_) (fun v5 u5 q5 e5 l5 h5 J5 M5 r5 n5 f5 => ?_))
                    · refine v_if_ne (tgt := 133) dX7_readPerson_128 (by decide) (fun h => absurd rfl h) (fun _ => ?_)
                      refine v_iconst (v := nI 0) dX7_readPerson_131 (by decide) ?_
                      refine v_zret dX7_readPerson_132 (by first | rfl | exact bI_n _) rfl rfl rfl rfl ?_
                      exact hQ.1 f p (by rw [lPerson, bnd_r q1, bnd_r q2, bnd_r q3, bnd_l (show qHabit tp sz (qChild tp sz u3).2 = .inl (f, p) by unfold qHabit; rw [if_pos hc117]; exact q)]) _ _ p1 p2 (hfr.fr9 p3)
                    · refine v_if_ne (tgt := 133) dX7_readPerson_128 (by decide) (fun _ => ?_) (fun h => absurd h (by decide))
                      have hM := hM.fr9 hO f5 r5
                      have hN := hN.fr9 f5
                      have hfr := hfr.fr9 f5
                      have hT := hM.2.2.2.1
                      have hF := hM.2.2.2.2.1
                      have hc := (f5.1 (B + 17 + s.2.1 3) (by omega) (by omega)).trans hc
                      exact cut133 _ _ u5 _ v5 hM hN hfr hc (by rw [e5]; exact eu4) (by omega) n5 (show qHabit tp sz (qChild tp sz u3).2 = .inr (v5, u5) by unfold qHabit; rw [if_pos hc117]; exact q5)
                refine v_aload_1 dX7_readPerson_93 ?_
                refine v_aload_0 dX7_readPerson_94 ?_
                refine v_ldcS (i := 9) dX7_readPerson_95 (by decide) rfl rfl ?_
                refine u_callV_1 dX7_readPerson_97 ml_X7_115 mv_X7_passWord (by first | assumption | rfl | exact led_1 (by assumption) | exact led_2 (by assumption) | exact bk_m (by assumption) (by first | assumption | omega) | exact bk_p (by assumption) (by first | assumption | omega) | exact bk_o (by assumption) (by first | assumption | omega) | exact bk_s (by assumption) (by first | assumption | omega) | exact bk_1 (by assumption) | exact bk_2 (by assumption) | exact bk_3 (by assumption) | exact bk_4 (by assumption) | exact bk_5 (by assumption) | exact bk_6 (by assumption) | exact bk_7 (by assumption) | exact bk_8 (by assumption) | exact sh_ring _ (by first | assumption | omega) | exact sh_imgs _ (by first | assumption | omega)) (by decide) rfl (by decide) (Nat.le_of_ble_eq_true rfl) (c_X7_passWord (i := 9) (by decide) hR hT (fun q4 => ?_) (fun q4 J4 M4 r4 f4 => ?_))
                · have ec : qChild tp sz u3 = (0, u3) := by unfold qChild; rw [if_neg (by rw [q4]; decide)]
                  rw [ec] at cut100
                  exact cut100 _ _ _ hM hN hfr hc
                · have ec : qChild tp sz u3 = (1, nx tp sz u3) := by unfold qChild; rw [if_pos q4]
                  have hM := hM.fr9 hO f4 r4
                  have hN := hN.fr9 f4
                  have hfr := hfr.fr9 f4
                  have hT := hM.2.2.2.1
                  have hF := hM.2.2.2.2.1
                  have hc := (f4.1 (B + 17 + s.2.1 3) (by omega) (by omega)).trans hc
                  rw [ec] at cut100
                  exact cut100 _ _ _ hM hN hfr hc
              · exact absurd hc80 (by decide)
          · exact absurd hc58 (by decide)
  · (try rw [nI_ltI (by omega) (by omega)] at hc9)
    refine v_aload_0 dX7_readPerson_12 ?_
    refine v_iconst (v := nI 5) dX7_readPerson_13 (by decide) ?_
    refine u_callV_1 dX7_readPerson_14 ml_X7_146 mv_X7_failBefore (by first | assumption | rfl | exact led_1 (by assumption) | exact led_2 (by assumption) | exact bk_m (by assumption) (by first | assumption | omega) | exact bk_p (by assumption) (by first | assumption | omega) | exact bk_o (by assumption) (by first | assumption | omega) | exact bk_s (by assumption) (by first | assumption | omega) | exact bk_1 (by assumption) | exact bk_2 (by assumption) | exact bk_3 (by assumption) | exact bk_4 (by assumption) | exact bk_5 (by assumption) | exact bk_6 (by assumption) | exact bk_7 (by assumption) | exact bk_8 (by assumption) | exact sh_ring _ (by first | assumption | omega) | exact sh_imgs _ (by first | assumption | omega)) (by decide) rfl (by decide) (Nat.le_of_ble_eq_true rfl) (c_X7_failBefore hR hT (fun J p1 p2 p3 p4 => ?_))
    refine v_zret dX7_readPerson_17 (by first | rfl | exact bI_n _) rfl rfl rfl rfl ?_
    exact hQ.1 5 _ (if_neg hc9) _ _ p1 p2 (hfr.fr9 p3)
end
