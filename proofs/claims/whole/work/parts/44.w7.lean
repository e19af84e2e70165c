section
variable {b : Nat} {ad : Nat → Nat} {I : HI} {L : HL} {R : HR} {Q : QT} {a B n d : Nat} {F : bkF} {g : lends} {br : Nat → Nat} {pg : Nat → Bool} {c : Nat → Nat}
theorem lkz_lt {f : Option Nat} : ∀ (j w : Nat) (f : Option Nat) (few z : Nat), (∀ y, f = some y → y < w + j) → lkz F n g d w j f few = some z → z < w + j
  | 0, w, f, few, z, hf, h => by simp only [lkz] at h; exact hf z h
  | j + 1, w, f, few, z, hf, h => by
    have key : ∀ f2 few2, (∀ y, f2 = some y → y < w + (j + 1)) → lkz F n g d (w + 1) j f2 few2 = some z → z < w + (j + 1) := fun f2 few2 h1 h2 => by
      have := lkz_lt (f := f) j (w + 1) f2 few2 z (fun y hy => by have := h1 y hy; omega) h2
      omega
    simp only [lkz] at h
    split at h
    · split at h
      · split at h
        · exact key _ _ (fun y hy => by cases hy; omega) h
        · exact key _ _ hf h
      · exact key _ _ hf h
    · exact key _ _ hf h
theorem fls_lt256 {z : Nat} (hO : FOK F) (h : fls F n g d = some z) : z < 256 := by
  have h1 := lkz_lt (f := none) (2 ^ F 5) 0 none 9 z (fun y hy => by cases hy) h
  have h2 : 2 ^ F 5 ≤ 2 ^ 8 := Nat.pow_le_pow_right (by decide) hO.2.2.2.2.2.1
  omega
theorem fls_lt {z : Nat} (hO : FOK F) (h : fls F n g d = some z) : z < 2 ^ 31 := by
  have := fls_lt256 hO h
  omega
theorem c_X10_pair {m o : Nat} (hR : RO R) (hB : SH B = .inl 0) (hF : BkI I B F) (hO : FOK F) (ha : SH a = .inl 2) (ha3 : a + 1 < 150 ∨ 156 < a) (hL : LedI I a n g) (hps : pers F n g) (hfl : ∀ d, 1 ≤ d → d ≤ F 0 → ∃ z, fls F n g d = some z) (hm : m < F 2) (ho : o < F 2) (hQ : ∀ J, (∀ p, p < F 3 → J 156 p = nI (prt F n g m o p)) → (∀ x, (x < 150 ∨ 156 < x) → J x = I x) → Q none SH J L (ur R 150 0 (some B))) : KK 10 mX10_pair b ad [.ref (b + 150), .ref (b + B), .ref (b + a), .int (nI m), .int (nI o)] I L R Q := by
  obtain ⟨k0, k1, k2, k3, k4, k5, k6, -⟩ := id hO
  have h64 : 2 ^ F 3 ≤ 2 ^ 6 := Nat.pow_le_pow_right (by decide) k3
  have hldy := ldy_lt hO m o
  have ha2 : ∀ x, x = a ∨ x = a + 1 → x ≠ 150 ∧ x ≠ 151 ∧ x ≠ 152 ∧ x ≠ 153 := fun x hx => by omega
  refine K.of (M := mX10_pair) (lv := [some (.ref (b + 150)), some (.ref (b + B)), some (.ref (b + a)), some (.int (nI m)), some (.int (nI o)), none, none]) (by decide) (Nat.le_of_ble_eq_true rfl) rfl ?_
  refine v_aload_0 dX10_pair_0 ?_
  refine v_aload_1 dX10_pair_1 ?_
  refine u_putR dX10_pair_2 gf_X10_31 (by first | assumption | rfl | exact led_1 (by assumption) | exact led_2 (by assumption) | exact bk_m (by assumption) (by first | assumption | omega) | exact bk_p (by assumption) (by first | assumption | omega) | exact bk_o (by assumption) (by first | assumption | omega) | exact bk_s (by assumption) (by first | assumption | omega) | exact bk_1 (by assumption) | exact bk_2 (by assumption) | exact bk_3 (by assumption) | exact bk_4 (by assumption) | exact bk_5 (by assumption) | exact bk_6 (by assumption) | exact bk_7 (by assumption) | exact bk_8 (by assumption) | exact sh_ring _ (by first | assumption | omega) | exact sh_imgs _ (by first | assumption | omega)) (fun _ => rfl) (fun _ => rfl) rfl ?_
  have hb : (ur R 150 0 (some B)) 150 0 = some B := by simp [ur, va_up]
  have hR := RO.up hR (a := 150) (k := 0) (v := some B) (by omega)
  have hF0 := hF
  have hL0 := hL
  have loop : ∀ (j dd : Nat) (pt : Nat → Nat) (J : HI), dd + j = F 0 + 1 → (∀ p, p < F 3 → J 156 p = nI (pt p)) → (∀ p, pt p < 64) → prd F n g m o dd j pt = prt F n g m o → (∀ x, (x < 150 ∨ 156 < x) → J x = I x) → 0 < dd → VV yX10_pair cX10_pair 7 none 10 Q b ad 44 [some (.ref (b + 150)), some (.ref (b + B)), some (.ref (b + a)), some (.int (nI m)), some (.int (nI o)), some (.int (nI (ldy F m o))), some (.int (nI dd))] [] J L (ur R 150 0 (some B)) := by
    intro j
    induction j with
    | zero =>
      intro dd pt J hij hpt h64 hEq hfr hdd
      have hF := BkI.fr hB hF0 hO (J := J) (fun x hx => hfr x (by omega))
      refine v_iload_6 dX10_pair_44 ?_
      refine v_aload_0 dX10_pair_46 ?_
      refine u_getR dX10_pair_47 gf_X10_31 (by first | assumption | rfl | exact led_1 (by assumption) | exact led_2 (by assumption) | exact bk_m (by assumption) (by first | assumption | omega) | exact bk_p (by assumption) (by first | assumption | omega) | exact bk_o (by assumption) (by first | assumption | omega) | exact bk_s (by assumption) (by first | assumption | omega) | exact bk_1 (by assumption) | exact bk_2 (by assumption) | exact bk_3 (by assumption) | exact bk_4 (by assumption) | exact bk_5 (by assumption) | exact bk_6 (by assumption) | exact bk_7 (by assumption) | exact bk_8 (by assumption) | exact sh_ring _ (by first | assumption | omega) | exact sh_imgs _ (by first | assumption | omega)) (by assumption) ?_
      refine u_getI dX10_pair_50 gf_X10_139 (by first | assumption | rfl | exact led_1 (by assumption) | exact led_2 (by assumption) | exact bk_m (by assumption) (by first | assumption | omega) | exact bk_p (by assumption) (by first | assumption | omega) | exact bk_o (by assumption) (by first | assumption | omega) | exact bk_s (by assumption) (by first | assumption | omega) | exact bk_1 (by assumption) | exact bk_2 (by assumption) | exact bk_3 (by assumption) | exact bk_4 (by assumption) | exact bk_5 (by assumption) | exact bk_6 (by assumption) | exact bk_7 (by assumption) | exact bk_8 (by assumption) | exact sh_ring _ (by first | assumption | omega) | exact sh_imgs _ (by first | assumption | omega)) ?_
      (try rw [bx0 hF])
      refine v_icmp_gt (tgt := 87) dX10_pair_53 (by decide) (fun hc53 => ?_) (fun hc53 => ?_)
      · (try rw [nI_ltI (by omega) (by omega)] at hc53)
        refine v_vret dX10_pair_87 rfl rfl rfl rfl ?_
        simp only [prd] at hEq
        exact hQ J (fun p hp => by rw [← hEq]; exact hpt p hp) hfr
      · (try rw [nI_ltI (by omega) (by omega)] at hc53)
        exfalso; omega
    | succ j ih =>
      intro dd pt J hij hpt h64 hEq hfr hdd
      have ih := fun dd pt J h1 h2 h3 h4 h5 => ih dd pt J h1 h2 h3 h4 h5
      have hF := BkI.fr hB hF0 hO (J := J) (fun x hx => hfr x (by omega))
      have hL := hL0.same (hfr a (by omega)) (hfr (a + 1) (by omega))
      refine v_iload_6 dX10_pair_44 ?_
      refine v_aload_0 dX10_pair_46 ?_
      refine u_getR dX10_pair_47 gf_X10_31 (by first | assumption | rfl | exact led_1 (by assumption) | exact led_2 (by assumption) | exact bk_m (by assumption) (by first | assumption | omega) | exact bk_p (by assumption) (by first | assumption | omega) | exact bk_o (by assumption) (by first | assumption | omega) | exact bk_s (by assumption) (by first | assumption | omega) | exact bk_1 (by assumption) | exact bk_2 (by assumption) | exact bk_3 (by assumption) | exact bk_4 (by assumption) | exact bk_5 (by assumption) | exact bk_6 (by assumption) | exact bk_7 (by assumption) | exact bk_8 (by assumption) | exact sh_ring _ (by first | assumption | omega) | exact sh_imgs _ (by first | assumption | omega)) (by assumption) ?_
      refine u_getI dX10_pair_50 gf_X10_139 (by first | assumption | rfl | exact led_1 (by assumption) | exact led_2 (by assumption) | exact bk_m (by assumption) (by first | assumption | omega) | exact bk_p (by assumption) (by first | assumption | omega) | exact bk_o (by assumption) (by first | assumption | omega) | exact bk_s (by assumption) (by first | assumption | omega) | exact bk_1 (by assumption) | exact bk_2 (by assumption) | exact bk_3 (by assumption) | exact bk_4 (by assumption) | exact bk_5 (by assumption) | exact bk_6 (by assumption) | exact bk_7 (by assumption) | exact bk_8 (by assumption) | exact sh_ring _ (by first | assumption | omega) | exact sh_imgs _ (by first | assumption | omega)) ?_
      (try rw [bx0 hF])
      refine v_icmp_gt (tgt := 87) dX10_pair_53 (by decide) (fun hc53 => ?_) (fun hc53 => ?_)
      · (try rw [nI_ltI (by omega) (by omega)] at hc53)
        exfalso; omega
      · (try rw [nI_ltI (by omega) (by omega)] at hc53)
        refine v_iload_5 dX10_pair_56 ?_
        refine v_iload_6 dX10_pair_58 ?_
        refine v_ishr dX10_pair_60 ?_
        refine v_iconst (v := nI 1) dX10_pair_61 (by decide) ?_
        refine v_iand dX10_pair_62 ?_
        rw [bit_b (by omega) (by omega)]
        refine v_if_eq (tgt := 81) dX10_pair_63 (by decide) (fun hc63 => ?_) (fun hc63 => ?_)
        · (first | rw [bI_0, Bool.not_eq_false] at hc63 | rw [bI_0] at hc63 | rw [show (0 : Int32) = nI 0 from rfl, nI_eq (by omega) (by omega)] at hc63 | skip)
          refine v_iinc_6 (v := 1) rfl dX10_pair_81 (by decide) ?_
          refine v_goto (tgt := 44) dX10_pair_84 (by decide) ?_
          rw [← nI_succ]
          have e : (ldy F m o).testBit dd = false := hc63
          exact ih (dd + 1) pt J (by omega) hpt h64 (by simp only [prd, e] at hEq; exact hEq) hfr (by omega)
        · (first | rw [bI_0, Bool.not_eq_false] at hc63 | rw [bI_0] at hc63 | rw [show (0 : Int32) = nI 0 from rfl, nI_eq (by omega) (by omega)] at hc63 | skip)
          refine v_aload_0 dX10_pair_66 ?_
          refine v_aload_1 dX10_pair_67 ?_
          refine v_aload_2 dX10_pair_68 ?_
          refine v_iload_6 dX10_pair_69 ?_
          refine u_callV_3 dX10_pair_71 ml_X10_142 mv_X10_look (by first | assumption | rfl | exact led_1 (by assumption) | exact led_2 (by assumption) | exact bk_m (by assumption) (by first | assumption | omega) | exact bk_p (by assumption) (by first | assumption | omega) | exact bk_o (by assumption) (by first | assumption | omega) | exact bk_s (by assumption) (by first | assumption | omega) | exact bk_1 (by assumption) | exact bk_2 (by assumption) | exact bk_3 (by assumption) | exact bk_4 (by assumption) | exact bk_5 (by assumption) | exact bk_6 (by assumption) | exact bk_7 (by assumption) | exact bk_8 (by assumption) | exact sh_ring _ (by first | assumption | omega) | exact sh_imgs _ (by first | assumption | omega)) (by decide) rfl (by decide) (Nat.le_of_ble_eq_true rfl) (c_X10_look hR hB hF hO ha ha2 hL hps (by omega) (fun J2 hj1 hj2 hj3 hj4 hj5 => ?_))
          rw [ur_ur]
          obtain ⟨z, hz⟩ := hfl dd (by omega) (by omega)
          have hz31 : z < 2 ^ 31 := fls_lt hO hz
          have hF2 := BkI.fr hB hF hO (J := J2) (fun x hx => hj4 x (by omega) (by omega) (by omega) (by omega) (by omega) (by omega))
          have hpt2 : ∀ q, q < F 3 → J2 156 q = nI (pt q) := fun q hq => by rw [hj4 156 (by decide) (by decide) (by decide) (by decide) (by decide) (by decide)]; exact hpt q hq
          refine v_aload_0 dX10_pair_74 ?_
          refine v_iload_3 dX10_pair_75 ?_
          refine v_iload_4 dX10_pair_76 ?_
          refine u_callV_2 dX10_pair_78 ml_X10_146 mv_X10_keepPartners (by first | assumption | rfl | exact led_1 (by assumption) | exact led_2 (by assumption) | exact bk_m (by assumption) (by first | assumption | omega) | exact bk_p (by assumption) (by first | assumption | omega) | exact bk_o (by assumption) (by first | assumption | omega) | exact bk_s (by assumption) (by first | assumption | omega) | exact bk_1 (by assumption) | exact bk_2 (by assumption) | exact bk_3 (by assumption) | exact bk_4 (by assumption) | exact bk_5 (by assumption) | exact bk_6 (by assumption) | exact bk_7 (by assumption) | exact bk_8 (by assumption) | exact sh_ring _ (by first | assumption | omega) | exact sh_imgs _ (by first | assumption | omega)) (by decide) rfl (by decide) (Nat.le_of_ble_eq_true rfl) (c_X10_keepPartners hR hB hb hF2 hO (hj3 z hz) ⟨z, hz31, by rw [hj2, hz]; rfl⟩ hm ho hpt2 (fun J3 hk1 hk2 hk3 => ?_))
          have hk2 : ∀ p, p < F 3 → J3 156 p = nI (stpd F n g m o dd pt p) := fun p hp => by rw [hk2 p hp]; simp only [stpd, hz]
          refine v_iinc_6 (v := 1) rfl dX10_pair_81 (by decide) ?_
          refine v_goto (tgt := 44) dX10_pair_84 (by decide) ?_
          rw [← nI_succ]
          have e : (ldy F m o).testBit dd = true := hc63
          exact ih (dd + 1) _ J3 (by omega) hk2 (stpd_lt h64) (by simp only [prd, e, if_true] at hEq; exact hEq) (fun x hx => by rw [hk3 x (by omega) (by omega), hj4 x (by omega) (by omega) (by omega) (by omega) (by omega) (by omega)]; exact hfr x hx) (by omega)
  refine v_aload_0 dX10_pair_5 ?_
  refine v_iload_3 dX10_pair_6 ?_
  refine v_iload_4 dX10_pair_7 ?_
  refine u_callV_2 dX10_pair_9 ml_X10_130 mv_X10_letterDays (by first | assumption | rfl | exact led_1 (by assumption) | exact led_2 (by assumption) | exact bk_m (by assumption) (by first | assumption | omega) | exact bk_p (by assumption) (by first | assumption | omega) | exact bk_o (by assumption) (by first | assumption | omega) | exact bk_s (by assumption) (by first | assumption | omega) | exact bk_1 (by assumption) | exact bk_2 (by assumption) | exact bk_3 (by assumption) | exact bk_4 (by assumption) | exact bk_5 (by assumption) | exact bk_6 (by assumption) | exact bk_7 (by assumption) | exact bk_8 (by assumption) | exact sh_ring _ (by first | assumption | omega) | exact sh_imgs _ (by first | assumption | omega)) (by decide) rfl (by decide) (Nat.le_of_ble_eq_true rfl) (c_X10_letterDays hR hB hb hF hO hm ho ?_)
  refine v_istore_5 rfl dX10_pair_12 ?_
  refine v_aload_0 dX10_pair_14 ?_
  refine u_getR dX10_pair_15 gf_X10_28 (by first | assumption | rfl | exact led_1 (by assumption) | exact led_2 (by assumption) | exact bk_m (by assumption) (by first | assumption | omega) | exact bk_p (by assumption) (by first | assumption | omega) | exact bk_o (by assumption) (by first | assumption | omega) | exact bk_s (by assumption) (by first | assumption | omega) | exact bk_1 (by assumption) | exact bk_2 (by assumption) | exact bk_3 (by assumption) | exact bk_4 (by assumption) | exact bk_5 (by assumption) | exact bk_6 (by assumption) | exact bk_7 (by assumption) | exact bk_8 (by assumption) | exact sh_ring _ (by first | assumption | omega) | exact sh_imgs _ (by first | assumption | omega)) (ro_X10_8 (by assumption)) ?_
  refine v_iload_5 dX10_pair_18 ?_
  refine v_if_ne (tgt := 27) dX10_pair_20 (by decide) (fun hc20 => ?_) (fun hc20 => ?_)
  · (first | rw [bI_0, Bool.not_eq_false] at hc20 | rw [bI_0] at hc20 | rw [show (0 : Int32) = nI 0 from rfl, nI_eq (by omega) (by omega)] at hc20 | skip)
    refine v_iconst (v := nI 1) dX10_pair_27 (by decide) ?_
    refine v_aload_0 dX10_pair_28 ?_
    refine u_getR dX10_pair_29 gf_X10_31 (by first | assumption | rfl | exact led_1 (by assumption) | exact led_2 (by assumption) | exact bk_m (by assumption) (by first | assumption | omega) | exact bk_p (by assumption) (by first | assumption | omega) | exact bk_o (by assumption) (by first | assumption | omega) | exact bk_s (by assumption) (by first | assumption | omega) | exact bk_1 (by assumption) | exact bk_2 (by assumption) | exact bk_3 (by assumption) | exact bk_4 (by assumption) | exact bk_5 (by assumption) | exact bk_6 (by assumption) | exact bk_7 (by assumption) | exact bk_8 (by assumption) | exact sh_ring _ (by first | assumption | omega) | exact sh_imgs _ (by first | assumption | omega)) (by assumption) ?_
    refine u_getI dX10_pair_32 gf_X10_90 (by first | assumption | rfl | exact led_1 (by assumption) | exact led_2 (by assumption) | exact bk_m (by assumption) (by first | assumption | omega) | exact bk_p (by assumption) (by first | assumption | omega) | exact bk_o (by assumption) (by first | assumption | omega) | exact bk_s (by assumption) (by first | assumption | omega) | exact bk_1 (by assumption) | exact bk_2 (by assumption) | exact bk_3 (by assumption) | exact bk_4 (by assumption) | exact bk_5 (by assumption) | exact bk_6 (by assumption) | exact bk_7 (by assumption) | exact bk_8 (by assumption) | exact sh_ring _ (by first | assumption | omega) | exact sh_imgs _ (by first | assumption | omega)) ?_
    (try rw [bx3 hF])
    refine v_ishl dX10_pair_35 ?_
    rw [one_shl (by omega)]
    refine v_iconst (v := nI 1) dX10_pair_36 (by decide) ?_
    refine v_isub dX10_pair_37 ?_
    rw [pk_sub (Nat.one_le_two_pow)]
    refine u_callS_2 dX10_pair_38 ml_X10_133 ms_J7_fill_53178 (by decide) (Nat.le_of_ble_eq_true rfl) (c_fill (x := 156) (len := 6) rfl (by decide) ?_)
    refine v_iconst (v := nI 1) dX10_pair_41 (by decide) ?_
    refine v_istore_6 rfl dX10_pair_42 ?_
    refine loop (F 0) 1 (fun _ => 2 ^ F 3 - 1) _ (by omega) (fun p hp => by rw [ufl_in (by omega) (by omega)]) (fun p => by show 2 ^ F 3 - 1 < 64; omega) ?_ (fun x hx => ufl_n (by omega)) (by decide)
    unfold prt; rw [if_neg hc20]
  · (first | rw [bI_0, Bool.not_eq_false] at hc20 | rw [bI_0] at hc20 | rw [show (0 : Int32) = nI 0 from rfl, nI_eq (by omega) (by omega)] at hc20 | skip)
    refine v_iconst (v := nI 0) dX10_pair_23 (by decide) ?_
    refine v_goto (tgt := 38) dX10_pair_24 (by decide) ?_
    refine u_callS_2 dX10_pair_38 ml_X10_133 ms_J7_fill_53178 (by decide) (Nat.le_of_ble_eq_true rfl) (c_fill (x := 156) (len := 6) rfl (by decide) ?_)
    refine v_iconst (v := nI 1) dX10_pair_41 (by decide) ?_
    refine v_istore_6 rfl dX10_pair_42 ?_
    refine loop (F 0) 1 (fun _ => 0) _ (by omega) (fun p hp => by rw [ufl_in (by omega) (by omega)]) (fun p => by decide) ?_ (fun x hx => ufl_n (by omega)) (by decide)
    unfold prt; rw [if_pos hc20]
end
