section
variable {b : Nat} {ad : Nat → Nat} {I : HI} {L : HL} {R : HR} {Q : QT} {a B n d m s : Nat} {F : bkF} {g : lends} {br : Nat → Nat}
theorem c_X5_withPeg (hR : RO R) (hO : FOK F) (hP : PlI I F d) (hT : PbI I F d (m + 1)) (hm : m < F 2) (hs : s < 64) (hQ : Q (some (.int (zI (balz F m none d + bzc F d (F 2 - (m + 1)) s)))) SH I L R) : KK 0 mX5_withPeg b ad [.ref (b + 145), .int (nI m), .int (nI s)] I L R Q := by
  obtain ⟨k0, k1, k2, k3, k4, k5, k6, -⟩ := id hO
  refine K.of (M := mX5_withPeg) (lv := [some (.ref (b + 145)), some (.int (nI m)), some (.int (nI s))]) (by decide) (Nat.le_of_ble_eq_true rfl) rfl ?_
  refine v_aload_0 dX5_withPeg_0 ?_
  refine u_getR dX5_withPeg_1 gf_X5_9 (by first | assumption | rfl | exact led_1 (by assumption) | exact led_2 (by assumption) | exact bk_m (by assumption) (by first | assumption | omega) | exact bk_p (by assumption) (by first | assumption | omega) | exact bk_o (by assumption) (by first | assumption | omega) | exact bk_s (by assumption) (by first | assumption | omega) | exact bk_1 (by assumption) | exact bk_2 (by assumption) | exact bk_3 (by assumption) | exact bk_4 (by assumption) | exact bk_5 (by assumption) | exact bk_6 (by assumption) | exact bk_7 (by assumption) | exact bk_8 (by assumption) | exact sh_ring _ (by first | assumption | omega) | exact sh_imgs _ (by first | assumption | omega)) (ro_X5_1 (by assumption)) ?_
  refine v_iload_1 dX5_withPeg_4 ?_
  refine u_iald dX5_withPeg_5 (by first | assumption | rfl | exact led_1 (by assumption) | exact led_2 (by assumption) | exact bk_m (by assumption) (by first | assumption | omega) | exact bk_p (by assumption) (by first | assumption | omega) | exact bk_o (by assumption) (by first | assumption | omega) | exact bk_s (by assumption) (by first | assumption | omega) | exact bk_1 (by assumption) | exact bk_2 (by assumption) | exact bk_3 (by assumption) | exact bk_4 (by assumption) | exact bk_5 (by assumption) | exact bk_6 (by assumption) | exact bk_7 (by assumption) | exact bk_8 (by assumption) | exact sh_ring _ (by first | assumption | omega) | exact sh_imgs _ (by first | assumption | omega)) (by first | with_reducible rfl | (simp only [nlit, nI_add, pk_mul]; with_reducible rfl) | rfl) (by first | assumption | omega) (by first | assumption | decide) ?_
  refine v_aload_0 dX5_withPeg_6 ?_
  refine u_getR dX5_withPeg_7 gf_X5_21 (by first | assumption | rfl | exact led_1 (by assumption) | exact led_2 (by assumption) | exact bk_m (by assumption) (by first | assumption | omega) | exact bk_p (by assumption) (by first | assumption | omega) | exact bk_o (by assumption) (by first | assumption | omega) | exact bk_s (by assumption) (by first | assumption | omega) | exact bk_1 (by assumption) | exact bk_2 (by assumption) | exact bk_3 (by assumption) | exact bk_4 (by assumption) | exact bk_5 (by assumption) | exact bk_6 (by assumption) | exact bk_7 (by assumption) | exact bk_8 (by assumption) | exact sh_ring _ (by first | assumption | omega) | exact sh_imgs _ (by first | assumption | omega)) (ro_X5_4 (by assumption)) ?_
  refine v_iload_1 dX5_withPeg_10 ?_
  refine v_iconst (v := nI 1) dX5_withPeg_11 (by decide) ?_
  refine v_iadd dX5_withPeg_12 ?_
  refine v_bipush (v := nI 64) dX5_withPeg_13 (by decide) ?_
  refine v_imul dX5_withPeg_15 ?_
  refine v_iload_2 dX5_withPeg_16 ?_
  refine v_iadd dX5_withPeg_17 ?_
  refine u_iald dX5_withPeg_18 (by first | assumption | rfl | exact led_1 (by assumption) | exact led_2 (by assumption) | exact bk_m (by assumption) (by first | assumption | omega) | exact bk_p (by assumption) (by first | assumption | omega) | exact bk_o (by assumption) (by first | assumption | omega) | exact bk_s (by assumption) (by first | assumption | omega) | exact bk_1 (by assumption) | exact bk_2 (by assumption) | exact bk_3 (by assumption) | exact bk_4 (by assumption) | exact bk_5 (by assumption) | exact bk_6 (by assumption) | exact bk_7 (by assumption) | exact bk_8 (by assumption) | exact sh_ring _ (by first | assumption | omega) | exact sh_imgs _ (by first | assumption | omega)) (by first | with_reducible rfl | (simp only [nlit, nI_add, pk_mul]; with_reducible rfl) | rfl) (by first | assumption | omega) (by first | assumption | decide) ?_
  refine v_iadd dX5_withPeg_19 ?_
  refine v_iret dX5_withPeg_20 rfl rfl rfl rfl ?_
  rw [hP.1 m hm, hT (m + 1) (Nat.le_refl _) (by omega) s hs, zI_add]; exact hQ
theorem or_lt64 {s p : Nat} (hs : s < 64) (hp : p < 6) : s ||| 2 ^ p < 64 := Nat.or_lt_two_pow (n := 6) hs (Nat.pow_lt_pow_right (by decide) hp)
theorem c_X5_withPerson {p : Nat} (hR : RO R) (hO : FOK F) (hP : PlI I F d) (hT : PbI I F d (m + 1)) (hm : m < F 2) (hs : s < 64) (hp : p < F 3) (hfit : fitF F m p = true) (hQ : Q (some (.int (zI (balz F m (some p) d + bzc F d (F 2 - (m + 1)) (s ||| 2 ^ p))))) SH I L R) : KK 0 mX5_withPerson b ad [.ref (b + 145), .int (nI m), .int (nI s), .int (nI p)] I L R Q := by
  obtain ⟨k0, k1, k2, k3, k4, k5, k6, -⟩ := id hO
  have ho64 := or_lt64 (p := p) hs (by omega)
  refine K.of (M := mX5_withPerson) (lv := [some (.ref (b + 145)), some (.int (nI m)), some (.int (nI s)), some (.int (nI p))]) (by decide) (Nat.le_of_ble_eq_true rfl) rfl ?_
  refine v_aload_0 dX5_withPerson_0 ?_
  refine u_getR dX5_withPerson_1 gf_X5_15 (by first | assumption | rfl | exact led_1 (by assumption) | exact led_2 (by assumption) | exact bk_m (by assumption) (by first | assumption | omega) | exact bk_p (by assumption) (by first | assumption | omega) | exact bk_o (by assumption) (by first | assumption | omega) | exact bk_s (by assumption) (by first | assumption | omega) | exact bk_1 (by assumption) | exact bk_2 (by assumption) | exact bk_3 (by assumption) | exact bk_4 (by assumption) | exact bk_5 (by assumption) | exact bk_6 (by assumption) | exact bk_7 (by assumption) | exact bk_8 (by assumption) | exact sh_ring _ (by first | assumption | omega) | exact sh_imgs _ (by first | assumption | omega)) (ro_X5_2 (by assumption)) ?_
  refine v_iload_1 dX5_withPerson_4 ?_
  refine v_bipush (v := nI 6) dX5_withPerson_5 (by decide) ?_
  refine v_imul dX5_withPerson_7 ?_
  refine v_iload_3 dX5_withPerson_8 ?_
  refine v_iadd dX5_withPerson_9 ?_
  refine u_iald dX5_withPerson_10 (by first | assumption | rfl | exact led_1 (by assumption) | exact led_2 (by assumption) | exact bk_m (by assumption) (by first | assumption | omega) | exact bk_p (by assumption) (by first | assumption | omega) | exact bk_o (by assumption) (by first | assumption | omega) | exact bk_s (by assumption) (by first | assumption | omega) | exact bk_1 (by assumption) | exact bk_2 (by assumption) | exact bk_3 (by assumption) | exact bk_4 (by assumption) | exact bk_5 (by assumption) | exact bk_6 (by assumption) | exact bk_7 (by assumption) | exact bk_8 (by assumption) | exact sh_ring _ (by first | assumption | omega) | exact sh_imgs _ (by first | assumption | omega)) (by first | with_reducible rfl | (simp only [nlit, nI_add, pk_mul]; with_reducible rfl) | rfl) (by first | assumption | omega) (by first | assumption | decide) ?_
  refine v_aload_0 dX5_withPerson_11 ?_
  refine u_getR dX5_withPerson_12 gf_X5_21 (by first | assumption | rfl | exact led_1 (by assumption) | exact led_2 (by assumption) | exact bk_m (by assumption) (by first | assumption | omega) | exact bk_p (by assumption) (by first | assumption | omega) | exact bk_o (by assumption) (by first | assumption | omega) | exact bk_s (by assumption) (by first | assumption | omega) | exact bk_1 (by assumption) | exact bk_2 (by assumption) | exact bk_3 (by assumption) | exact bk_4 (by assumption) | exact bk_5 (by assumption) | exact bk_6 (by assumption) | exact bk_7 (by assumption) | exact bk_8 (by assumption) | exact sh_ring _ (by first | assumption | omega) | exact sh_imgs _ (by first | assumption | omega)) (ro_X5_4 (by assumption)) ?_
  refine v_iload_1 dX5_withPerson_15 ?_
  refine v_iconst (v := nI 1) dX5_withPerson_16 (by decide) ?_
  refine v_iadd dX5_withPerson_17 ?_
  refine v_bipush (v := nI 64) dX5_withPerson_18 (by decide) ?_
  refine v_imul dX5_withPerson_20 ?_
  refine v_iload_2 dX5_withPerson_21 ?_
  refine v_iconst (v := nI 1) dX5_withPerson_22 (by decide) ?_
  refine v_iload_3 dX5_withPerson_23 ?_
  refine v_ishl dX5_withPerson_24 ?_
  rw [one_shl (by omega)]
  refine v_ior dX5_withPerson_25 ?_
  rw [nx_or]
  refine v_iadd dX5_withPerson_26 ?_
  refine u_iald dX5_withPerson_27 (by first | assumption | rfl | exact led_1 (by assumption) | exact led_2 (by assumption) | exact bk_m (by assumption) (by first | assumption | omega) | exact bk_p (by assumption) (by first | assumption | omega) | exact bk_o (by assumption) (by first | assumption | omega) | exact bk_s (by assumption) (by first | assumption | omega) | exact bk_1 (by assumption) | exact bk_2 (by assumption) | exact bk_3 (by assumption) | exact bk_4 (by assumption) | exact bk_5 (by assumption) | exact bk_6 (by assumption) | exact bk_7 (by assumption) | exact bk_8 (by assumption) | exact sh_ring _ (by first | assumption | omega) | exact sh_imgs _ (by first | assumption | omega)) (by first | with_reducible rfl | (simp only [nlit, nI_add, pk_mul]; with_reducible rfl) | rfl) (by first | assumption | omega) (by first | assumption | decide) ?_
  refine v_iadd dX5_withPerson_28 ?_
  refine v_iret dX5_withPerson_29 rfl rfl rfl rfl ?_
  rw [hP.2.1 m hm p hp hfit, hT (m + 1) (Nat.le_refl _) (by omega) _ ho64, zI_add]; exact hQ
theorem c_X5_most (hR : RO R) (hT : PbI I F d 0) (hs : s < 64) (hQ : Q (some (.int (zI (bzc F d (F 2) s)))) SH I L R) : KK 0 mX5_most b ad [.ref (b + 145), .int (nI s)] I L R Q := by
  refine K.of (M := mX5_most) (lv := [some (.ref (b + 145)), some (.int (nI s))]) (by decide) (Nat.le_of_ble_eq_true rfl) rfl ?_
  refine v_aload_0 dX5_most_0 ?_
  refine u_getR dX5_most_1 gf_X5_21 (by first | assumption | rfl | exact led_1 (by assumption) | exact led_2 (by assumption) | exact bk_m (by assumption) (by first | assumption | omega) | exact bk_p (by assumption) (by first | assumption | omega) | exact bk_o (by assumption) (by first | assumption | omega) | exact bk_s (by assumption) (by first | assumption | omega) | exact bk_1 (by assumption) | exact bk_2 (by assumption) | exact bk_3 (by assumption) | exact bk_4 (by assumption) | exact bk_5 (by assumption) | exact bk_6 (by assumption) | exact bk_7 (by assumption) | exact bk_8 (by assumption) | exact sh_ring _ (by first | assumption | omega) | exact sh_imgs _ (by first | assumption | omega)) (ro_X5_4 (by assumption)) ?_
  refine v_iload_1 dX5_most_4 ?_
  refine u_iald dX5_most_5 (by first | assumption | rfl | exact led_1 (by assumption) | exact led_2 (by assumption) | exact bk_m (by assumption) (by first | assumption | omega) | exact bk_p (by assumption) (by first | assumption | omega) | exact bk_o (by assumption) (by first | assumption | omega) | exact bk_s (by assumption) (by first | assumption | omega) | exact bk_1 (by assumption) | exact bk_2 (by assumption) | exact bk_3 (by assumption) | exact bk_4 (by assumption) | exact bk_5 (by assumption) | exact bk_6 (by assumption) | exact bk_7 (by assumption) | exact bk_8 (by assumption) | exact sh_ring _ (by first | assumption | omega) | exact sh_imgs _ (by first | assumption | omega)) (by first | with_reducible rfl | (simp only [nlit, nI_add, pk_mul]; with_reducible rfl) | rfl) (by first | assumption | omega) (by first | assumption | decide) ?_
  refine v_iret dX5_most_6 rfl rfl rfl rfl ?_
  have e := hT 0 (Nat.le_refl _) (Nat.zero_le _) s hs
  rw [Nat.zero_mul, Nat.zero_add, Nat.sub_zero] at e
  rw [e]; exact hQ
theorem c_X5_mostFrom (hR : RO R) (hB : SH B = .inl 0) (hb : R 145 0 = some B) (hF : BkI I B F) (hO : FOK F) (hP : PlI I F d) (hT : PbI I F d (m + 1)) (hm : m < F 2) (hs : s < 64) (hQ : Q (some (.int (zI (bzc F d (F 2 - m) s)))) SH I L R) : KK 1 mX5_mostFrom b ad [.ref (b + 145), .int (nI m), .int (nI s)] I L R Q := by
  obtain ⟨k0, k1, k2, k3, k4, k5, k6, -⟩ := id hO
  have hl := hlp_lt hO d m
  have ek : F 2 - m = (F 2 - (m + 1)) + 1 := by omega
  have em : F 2 - ((F 2 - (m + 1)) + 1) = m := by omega
  rw [ek] at hQ
  simp only [bzc, em] at hQ
  have hb1 := balz_b hO m none d
  have hb2 := bzc_b hO d (F 2 - (m + 1)) s
  have hk6 : F 2 - (m + 1) ≤ 5 := by omega
  refine K.of (M := mX5_mostFrom) (lv := [some (.ref (b + 145)), some (.int (nI m)), some (.int (nI s)), none, none, none]) (by decide) (Nat.le_of_ble_eq_true rfl) rfl ?_
  have loop : ∀ (j p : Nat) (acc : Int), p + j = F 3 → -20000 < acc → acc < 20000 → Q (some (.int (zI (mxz (fun p => (hlp F d m).testBit p && !s.testBit p) (fun p => balz F m (some p) d + bzc F d (F 2 - (m + 1)) (s ||| 2 ^ p)) p j acc)))) SH I L R → VV yX5_mostFrom cX5_mostFrom 6 (some .int) 1 Q b ad 22 [some (.ref (b + 145)), some (.int (nI m)), some (.int (nI s)), some (.int (zI acc)), some (.int (nI (andn (hlp F d m) s))), some (.int (nI p))] [] I L R := by
    intro j
    induction j with
    | zero =>
      intro p acc hij ha1 ha2 hQ
      refine v_iload_5 dX5_mostFrom_22 ?_
      refine v_aload_0 dX5_mostFrom_24 ?_
      refine u_getR dX5_mostFrom_25 gf_X5_24 (by first | assumption | rfl | exact led_1 (by assumption) | exact led_2 (by assumption) | exact bk_m (by assumption) (by first | assumption | omega) | exact bk_p (by assumption) (by first | assumption | omega) | exact bk_o (by assumption) (by first | assumption | omega) | exact bk_s (by assumption) (by first | assumption | omega) | exact bk_1 (by assumption) | exact bk_2 (by assumption) | exact bk_3 (by assumption) | exact bk_4 (by assumption) | exact bk_5 (by assumption) | exact bk_6 (by assumption) | exact bk_7 (by assumption) | exact bk_8 (by assumption) | exact sh_ring _ (by first | assumption | omega) | exact sh_imgs _ (by first | assumption | omega)) (by assumption) ?_
      refine u_getI dX5_mostFrom_28 gf_X5_52 (by first | assumption | rfl | exact led_1 (by assumption) | exact led_2 (by assumption) | exact bk_m (by assumption) (by first | assumption | omega) | exact bk_p (by assumption) (by first | assumption | omega) | exact bk_o (by assumption) (by first | assumption | omega) | exact bk_s (by assumption) (by first | assumption | omega) | exact bk_1 (by assumption) | exact bk_2 (by assumption) | exact bk_3 (by assumption) | exact bk_4 (by assumption) | exact bk_5 (by assumption) | exact bk_6 (by assumption) | exact bk_7 (by assumption) | exact bk_8 (by assumption) | exact sh_ring _ (by first | assumption | omega) | exact sh_imgs _ (by first | assumption | omega)) ?_
      (try rw [bx3 hF])
      refine v_icmp_ge (tgt := 63) dX5_mostFrom_31 (by decide) (fun hc31 => ?_) (fun hc31 => ?_)
      · (try rw [nI_leI (by omega) (by omega)] at hc31)
        refine v_iload_3 dX5_mostFrom_63 ?_
        refine v_iret dX5_mostFrom_64 rfl rfl rfl rfl ?_
        exact hQ
      · (try rw [nI_leI (by omega) (by omega)] at hc31)
        exfalso; omega
    | succ j ih =>
      intro p acc hij ha1 ha2 hQ
      have hp3 : p < F 3 := by omega
      have hc1 := balz_b hO m (some p) d
      have hc2 := bzc_b hO d (F 2 - (m + 1)) (s ||| 2 ^ p)
      refine v_iload_5 dX5_mostFrom_22 ?_
      refine v_aload_0 dX5_mostFrom_24 ?_
      refine u_getR dX5_mostFrom_25 gf_X5_24 (by first | assumption | rfl | exact led_1 (by assumption) | exact led_2 (by assumption) | exact bk_m (by assumption) (by first | assumption | omega) | exact bk_p (by assumption) (by first | assumption | omega) | exact bk_o (by assumption) (by first | assumption | omega) | exact bk_s (by assumption) (by first | assumption | omega) | exact bk_1 (by assumption) | exact bk_2 (by assumption) | exact bk_3 (by assumption) | exact bk_4 (by assumption) | exact bk_5 (by assumption) | exact bk_6 (by assumption) | exact bk_7 (by assumption) | exact bk_8 (by assumption) | exact sh_ring _ (by first | assumption | omega) | exact sh_imgs _ (by first | assumption | omega)) (by assumption) ?_
      refine u_getI dX5_mostFrom_28 gf_X5_52 (by first | assumption | rfl | exact led_1 (by assumption) | exact led_2 (by assumption) | exact bk_m (by assumption) (by first | assumption | omega) | exact bk_p (by assumption) (by first | assumption | omega) | exact bk_o (by assumption) (by first | assumption | omega) | exact bk_s (by assumption) (by first | assumption | omega) | exact bk_1 (by assumption) | exact bk_2 (by assumption) | exact bk_3 (by assumption) | exact bk_4 (by assumption) | exact bk_5 (by assumption) | exact bk_6 (by assumption) | exact bk_7 (by assumption) | exact bk_8 (by assumption) | exact sh_ring _ (by first | assumption | omega) | exact sh_imgs _ (by first | assumption | omega)) ?_
      (try rw [bx3 hF])
      refine v_icmp_ge (tgt := 63) dX5_mostFrom_31 (by decide) (fun hc31 => ?_) (fun hc31 => ?_)
      · (try rw [nI_leI (by omega) (by omega)] at hc31)
        exfalso; omega
      · (try rw [nI_leI (by omega) (by omega)] at hc31)
        refine v_iload_4 dX5_mostFrom_34 ?_
        refine v_iload_5 dX5_mostFrom_36 ?_
        refine v_ishr dX5_mostFrom_38 ?_
        refine v_iconst (v := nI 1) dX5_mostFrom_39 (by decide) ?_
        refine v_iand dX5_mostFrom_40 ?_
        rw [bit_b (by have := andn_le (hlp F d m) s; omega) (by omega), andn_bit (by omega)]
        refine v_if_eq (tgt := 57) dX5_mostFrom_41 (by decide) (fun hc41 => ?_) (fun hc41 => ?_)
        · (first | rw [bI_0, Bool.not_eq_false] at hc41 | rw [bI_0] at hc41 | rw [show (0 : Int32) = nI 0 from rfl, nI_eq (by omega) (by omega)] at hc41 | skip)
          refine v_iinc_5 (v := 1) rfl dX5_mostFrom_57 (by decide) ?_
          refine v_goto (tgt := 22) dX5_mostFrom_60 (by decide) ?_
          rw [← nI_succ]
          refine ih (p + 1) _ (by omega) (by omega) (by omega) ?_
          simp only [mxz] at hQ
          have e : ((hlp F d m).testBit p && !s.testBit p) = false := hc41
          simp only [e] at hQ; exact hQ
        · (first | rw [bI_0, Bool.not_eq_false] at hc41 | rw [bI_0] at hc41 | rw [show (0 : Int32) = nI 0 from rfl, nI_eq (by omega) (by omega)] at hc41 | skip)
          have hfit : fitF F m p = true := by rw [hlp_bit hp3] at hc41; simp only [hlpb, Bool.and_eq_true] at hc41; exact hc41.1.1
          refine v_iload_3 dX5_mostFrom_44 ?_
          refine v_aload_0 dX5_mostFrom_45 ?_
          refine v_iload_1 dX5_mostFrom_46 ?_
          refine v_iload_2 dX5_mostFrom_47 ?_
          refine v_iload_5 dX5_mostFrom_48 ?_
          refine u_callV_3 dX5_mostFrom_50 ml_X5_62 mv_X5_withPerson (by first | assumption | rfl | exact led_1 (by assumption) | exact led_2 (by assumption) | exact bk_m (by assumption) (by first | assumption | omega) | exact bk_p (by assumption) (by first | assumption | omega) | exact bk_o (by assumption) (by first | assumption | omega) | exact bk_s (by assumption) (by first | assumption | omega) | exact bk_1 (by assumption) | exact bk_2 (by assumption) | exact bk_3 (by assumption) | exact bk_4 (by assumption) | exact bk_5 (by assumption) | exact bk_6 (by assumption) | exact bk_7 (by assumption) | exact bk_8 (by assumption) | exact sh_ring _ (by first | assumption | omega) | exact sh_imgs _ (by first | assumption | omega)) (by decide) rfl (by decide) (Nat.le_of_ble_eq_true rfl) (c_X5_withPerson hR hO hP hT hm hs (by omega) hfit ?_)
          refine u_mmax dX5_mostFrom_53 ml_X5_65 (by decide) (Nat.le_of_ble_eq_true rfl) ?_
          rw [zI_max (by omega) (by omega) (by omega) (by omega)]
          refine v_istore_3 rfl dX5_mostFrom_56 ?_
          refine v_iinc_5 (v := 1) rfl dX5_mostFrom_57 (by decide) ?_
          refine v_goto (tgt := 22) dX5_mostFrom_60 (by decide) ?_
          rw [← nI_succ]
          refine ih (p + 1) _ (by omega) (by split <;> omega) (by split <;> omega) ?_
          simp only [mxz] at hQ
          have e : ((hlp F d m).testBit p && !s.testBit p) = true := hc41
          simp only [e] at hQ; exact hQ
  refine v_aload_0 dX5_mostFrom_0 ?_
  refine v_iload_1 dX5_mostFrom_1 ?_
  refine v_iload_2 dX5_mostFrom_2 ?_
  refine u_callV_2 dX5_mostFrom_3 ml_X5_59 mv_X5_withPeg (by first | assumption | rfl | exact led_1 (by assumption) | exact led_2 (by assumption) | exact bk_m (by assumption) (by first | assumption | omega) | exact bk_p (by assumption) (by first | assumption | omega) | exact bk_o (by assumption) (by first | assumption | omega) | exact bk_s (by assumption) (by first | assumption | omega) | exact bk_1 (by assumption) | exact bk_2 (by assumption) | exact bk_3 (by assumption) | exact bk_4 (by assumption) | exact bk_5 (by assumption) | exact bk_6 (by assumption) | exact bk_7 (by assumption) | exact bk_8 (by assumption) | exact sh_ring _ (by first | assumption | omega) | exact sh_imgs _ (by first | assumption | omega)) (by decide) rfl (by decide) (Nat.le_of_ble_eq_true rfl) (c_X5_withPeg hR hO hP hT hm hs ?_)
  refine v_istore_3 rfl dX5_mostFrom_6 ?_
  refine v_aload_0 dX5_mostFrom_7 ?_
  refine u_getR dX5_mostFrom_8 gf_X5_18 (by first | assumption | rfl | exact led_1 (by assumption) | exact led_2 (by assumption) | exact bk_m (by assumption) (by first | assumption | omega) | exact bk_p (by assumption) (by first | assumption | omega) | exact bk_o (by assumption) (by first | assumption | omega) | exact bk_s (by assumption) (by first | assumption | omega) | exact bk_1 (by assumption) | exact bk_2 (by assumption) | exact bk_3 (by assumption) | exact bk_4 (by assumption) | exact bk_5 (by assumption) | exact bk_6 (by assumption) | exact bk_7 (by assumption) | exact bk_8 (by assumption) | exact sh_ring _ (by first | assumption | omega) | exact sh_imgs _ (by first | assumption | omega)) (ro_X5_3 (by assumption)) ?_
  refine v_iload_1 dX5_mostFrom_11 ?_
  refine u_iald dX5_mostFrom_12 (by first | assumption | rfl | exact led_1 (by assumption) | exact led_2 (by assumption) | exact bk_m (by assumption) (by first | assumption | omega) | exact bk_p (by assumption) (by first | assumption | omega) | exact bk_o (by assumption) (by first | assumption | omega) | exact bk_s (by assumption) (by first | assumption | omega) | exact bk_1 (by assumption) | exact bk_2 (by assumption) | exact bk_3 (by assumption) | exact bk_4 (by assumption) | exact bk_5 (by assumption) | exact bk_6 (by assumption) | exact bk_7 (by assumption) | exact bk_8 (by assumption) | exact sh_ring _ (by first | assumption | omega) | exact sh_imgs _ (by first | assumption | omega)) (by first | with_reducible rfl | (simp only [nlit, nI_add, pk_mul]; with_reducible rfl) | rfl) (by first | assumption | omega) (by first | assumption | decide) ?_
  rw [hP.2.2 m hm]
  refine v_iload_2 dX5_mostFrom_13 ?_
  refine v_iconst (v := -1) dX5_mostFrom_14 (by decide) ?_
  refine v_ixor dX5_mostFrom_15 ?_
  refine v_iand dX5_mostFrom_16 ?_
  rw [andn_I]
  refine v_istore_4 rfl dX5_mostFrom_17 ?_
  refine v_iconst (v := nI 0) dX5_mostFrom_19 (by decide) ?_
  refine v_istore_5 rfl dX5_mostFrom_20 ?_
  exact loop (F 3) 0 _ (by omega) (by omega) (by omega) hQ
end
