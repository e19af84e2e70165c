/-! bytes of a word, and the tape -/
def bN (x : Int32) (k : Nat) : Nat := x.toBitVec.toNat / 2 ^ (24 - 8 * k) % 256
theorem bN_lt (x : Int32) (k : Nat) : bN x k < 256 := Nat.mod_lt _ (by decide)
theorem i8_of {a c : Int32} (h : a.toBitVec.toNat % 256 = c.toBitVec.toNat % 256) : a.toInt8 = c.toInt8 := by
  apply Int8.toBitVec_inj.1
  apply BitVec.eq_of_toNat_eq
  rw [Int32.toBitVec_toInt8, Int32.toBitVec_toInt8]
  simp only [BitVec.signExtend_eq_setWidth_of_le _ (show 8 ≤ 32 by decide), BitVec.toNat_setWidth]
  exact h
theorem i8_i8 (a : Int32) : a.toInt8.toInt32.toInt8 = a.toInt8 := by
  apply i8_of
  rw [Int8.toBitVec_toInt32]
  have h : (BitVec.signExtend 32 a.toInt8.toBitVec).toNat % 256 = a.toInt8.toBitVec.toNat := by
    have : (BitVec.setWidth 8 (BitVec.signExtend 32 a.toInt8.toBitVec)) = a.toInt8.toBitVec := by
      ext i hi
      rw [BitVec.getElem_setWidth, BitVec.getLsbD_signExtend]
      simp [hi, show i < 32 by omega]
    have h2 := congrArg BitVec.toNat this
    rw [BitVec.toNat_setWidth] at h2
    exact h2
  rw [h, Int32.toBitVec_toInt8, BitVec.signExtend_eq_setWidth_of_le _ (show 8 ≤ 32 by decide), BitVec.toNat_setWidth]
theorem byt_u (x : Int32) (k : Nat) (s : Int32) (hs : (s.toUInt32 &&& Int32.toUInt32 31).toNat = 24 - 8 * k) : (x.toUInt32 >>> (s.toUInt32 &&& Int32.toUInt32 31)).toInt32.toInt8.toInt32.toInt8.toInt32 = byt (bN x k) := by
  rw [i8_i8]
  unfold byt
  congr 1
  apply i8_of
  have e1 : (x.toUInt32 >>> (s.toUInt32 &&& Int32.toUInt32 31)).toInt32.toBitVec.toNat = x.toBitVec.toNat / 2 ^ (24 - 8 * k) := by
    show (x.toUInt32 >>> (s.toUInt32 &&& Int32.toUInt32 31)).toNat = _
    rw [UInt32.toNat_shiftRight, hs, Nat.mod_eq_of_lt (show 24 - 8 * k < 32 by omega), Nat.shiftRight_eq_div_pow]
    rfl
  rw [e1]
  have e2 : (nI (bN x k)).toBitVec.toNat = bN x k := by
    show (BitVec.ofNat 32 (bN x k)).toNat = bN x k
    rw [BitVec.toNat_ofNat, Nat.mod_eq_of_lt (Nat.lt_of_lt_of_le (bN_lt x k) (by decide))]
  rw [e2]
  unfold bN
  rw [Nat.mod_mod]
def putT (tp : Nat → Nat) (nt : Nat) (x : Int32) : Nat → Nat := fun i => if nt ≤ i ∧ i < nt + 4 then bN x (i - nt) else tp i
def feedT (tp : Nat → Nat) (nt : Nat) (a c d e f : Int32) : Nat → Nat := putT (putT (putT (putT (putT tp nt a) (nt + 4) c) (nt + 8) d) (nt + 12) e) (nt + 16) f
section
variable {b : Nat} {ad : Nat → Nat} {I : HI} {L : HL} {R : HR} {Q : QT} {B B2 t : Nat} {tp : Nat → Nat} {nt tr fa pl : Nat} {F : bkF} {S : Nat → LSt} {u r : Nat} {im : Nat → LSt} {ic : Nat}
theorem c_X11_putOnTape {x : Int32} (hR : RO R) (h1 : I 0 1 = nI nt) (hn : nt + 4 ≤ 900) (hQ : ∀ J : HI, J 0 1 = nI (nt + 4) → (∀ j, j ≠ 1 → J 0 j = I 0 j) → (∀ i, J 1 i = if nt ≤ i ∧ i < nt + 4 then byt (bN x (i - nt)) else I 1 i) → (∀ a, 1 < a → J a = I a) → Q none SH J L R) : KK 1 mX11_putOnTape b ad [.ref (b + 0), .int x] I L R Q := by
  refine K.of (M := mX11_putOnTape) (lv := [some (.ref (b + 0)), some (.int x), none]) (by decide) (Nat.le_of_ble_eq_true rfl) rfl ?_
  refine v_bipush (v := nI 24) dX11_putOnTape_0 (by decide) ?_
  refine v_istore_2 rfl dX11_putOnTape_2 ?_
  refine v_iload_2 dX11_putOnTape_3 ?_
  refine v_if_lt (tgt := 46) dX11_putOnTape_4 (by decide) (fun hc4 => ?_) (fun hc4 => ?_)
  · (first | rw [show (0 : Int32) = nI 0 from rfl, nI_ltI (by omega) (by omega)] at hc4 | rw [show (0 : Int32) = nI 0 from rfl, nI_leI (by omega) (by omega)] at hc4 | skip)
    omega
  · (first | rw [show (0 : Int32) = nI 0 from rfl, nI_ltI (by omega) (by omega)] at hc4 | rw [show (0 : Int32) = nI 0 from rfl, nI_leI (by omega) (by omega)] at hc4 | skip)
    refine v_aload_0 dX11_putOnTape_7 ?_
    refine u_getI dX11_putOnTape_8 gf_X11_13 (by first | assumption | rfl | exact led_1 (by assumption) | exact led_2 (by assumption) | exact bk_m (by assumption) (by first | assumption | omega) | exact bk_p (by assumption) (by first | assumption | omega) | exact bk_o (by assumption) (by first | assumption | omega) | exact bk_s (by assumption) (by first | assumption | omega) | exact bk_1 (by assumption) | exact bk_2 (by assumption) | exact bk_3 (by assumption) | exact bk_4 (by assumption) | exact bk_5 (by assumption) | exact bk_6 (by assumption) | exact bk_7 (by assumption) | exact bk_8 (by assumption) | exact sh_ring _ (by first | assumption | omega) | exact sh_imgs _ (by first | assumption | omega)) ?_
    rw [h1]
    refine v_sipush (v := nI 900) dX11_putOnTape_11 (by decide) ?_
    refine v_icmp_ge (tgt := 46) dX11_putOnTape_14 (by decide) (fun hc14 => ?_) (fun hc14 => ?_)
    · (try rw [nI_leI (by omega) (by omega)] at hc14)
      omega
    · (try rw [nI_leI (by omega) (by omega)] at hc14)
      refine v_aload_0 dX11_putOnTape_17 ?_
      refine u_getR dX11_putOnTape_18 gf_X11_9 (by first | assumption | rfl | exact led_1 (by assumption) | exact led_2 (by assumption) | exact bk_m (by assumption) (by first | assumption | omega) | exact bk_p (by assumption) (by first | assumption | omega) | exact bk_o (by assumption) (by first | assumption | omega) | exact bk_s (by assumption) (by first | assumption | omega) | exact bk_1 (by assumption) | exact bk_2 (by assumption) | exact bk_3 (by assumption) | exact bk_4 (by assumption) | exact bk_5 (by assumption) | exact bk_6 (by assumption) | exact bk_7 (by assumption) | exact bk_8 (by assumption) | exact sh_ring _ (by first | assumption | omega) | exact sh_imgs _ (by first | assumption | omega)) (ro_X11_0 (by assumption)) ?_
      refine v_aload_0 dX11_putOnTape_21 ?_
      refine u_getI dX11_putOnTape_22 gf_X11_13 (by first | assumption | rfl | exact led_1 (by assumption) | exact led_2 (by assumption) | exact bk_m (by assumption) (by first | assumption | omega) | exact bk_p (by assumption) (by first | assumption | omega) | exact bk_o (by assumption) (by first | assumption | omega) | exact bk_s (by assumption) (by first | assumption | omega) | exact bk_1 (by assumption) | exact bk_2 (by assumption) | exact bk_3 (by assumption) | exact bk_4 (by assumption) | exact bk_5 (by assumption) | exact bk_6 (by assumption) | exact bk_7 (by assumption) | exact bk_8 (by assumption) | exact sh_ring _ (by first | assumption | omega) | exact sh_imgs _ (by first | assumption | omega)) ?_
      rw [h1]
      refine v_iload_1 dX11_putOnTape_25 ?_
      refine v_iload_2 dX11_putOnTape_26 ?_
      refine v_iushr dX11_putOnTape_27 ?_
      refine v_i2b dX11_putOnTape_28 ?_
      first | refine u_zast dX11_putOnTape_29 (by first | assumption | rfl | exact led_1 (by assumption) | exact led_2 (by assumption) | exact bk_m (by assumption) (by first | assumption | omega) | exact bk_p (by assumption) (by first | assumption | omega) | exact bk_o (by assumption) (by first | assumption | omega) | exact bk_s (by assumption) (by first | assumption | omega) | exact bk_1 (by assumption) | exact bk_2 (by assumption) | exact bk_3 (by assumption) | exact bk_4 (by assumption) | exact bk_5 (by assumption) | exact bk_6 (by assumption) | exact bk_7 (by assumption) | exact bk_8 (by assumption) | exact sh_ring _ (by first | assumption | omega) | exact sh_imgs _ (by first | assumption | omega)) (by first | with_reducible rfl | (simp only [nlit, nI_add, pk_mul]; with_reducible rfl) | rfl) (by first | assumption | omega) (by first | assumption | decide) rfl ?_ | refine u_bast dX11_putOnTape_29 (by first | assumption | rfl | exact led_1 (by assumption) | exact led_2 (by assumption) | exact bk_m (by assumption) (by first | assumption | omega) | exact bk_p (by assumption) (by first | assumption | omega) | exact bk_o (by assumption) (by first | assumption | omega) | exact bk_s (by assumption) (by first | assumption | omega) | exact bk_1 (by assumption) | exact bk_2 (by assumption) | exact bk_3 (by assumption) | exact bk_4 (by assumption) | exact bk_5 (by assumption) | exact bk_6 (by assumption) | exact bk_7 (by assumption) | exact bk_8 (by assumption) | exact sh_ring _ (by first | assumption | omega) | exact sh_imgs _ (by first | assumption | omega)) (by first | with_reducible rfl | (simp only [nlit, nI_add, pk_mul]; with_reducible rfl) | rfl) (by first | assumption | omega) (by first | assumption | decide) ?_
      rw [byt_u x 0 (nI 24) rfl]
      refine v_aload_0 dX11_putOnTape_30 ?_
      refine v_dup dX11_putOnTape_31 rfl ?_
      refine u_getI dX11_putOnTape_32 gf_X11_13 (by first | assumption | rfl | exact led_1 (by assumption) | exact led_2 (by assumption) | exact bk_m (by assumption) (by first | assumption | omega) | exact bk_p (by assumption) (by first | assumption | omega) | exact bk_o (by assumption) (by first | assumption | omega) | exact bk_s (by assumption) (by first | assumption | omega) | exact bk_1 (by assumption) | exact bk_2 (by assumption) | exact bk_3 (by assumption) | exact bk_4 (by assumption) | exact bk_5 (by assumption) | exact bk_6 (by assumption) | exact bk_7 (by assumption) | exact bk_8 (by assumption) | exact sh_ring _ (by first | assumption | omega) | exact sh_imgs _ (by first | assumption | omega)) ?_
      rw [ui_ne (by decide), h1]
      refine v_iconst (v := nI 1) dX11_putOnTape_35 (by decide) ?_
      refine v_iadd dX11_putOnTape_36 ?_
      rw [nI_add]
      refine u_putI dX11_putOnTape_37 gf_X11_13 (by first | assumption | rfl | exact led_1 (by assumption) | exact led_2 (by assumption) | exact bk_m (by assumption) (by first | assumption | omega) | exact bk_p (by assumption) (by first | assumption | omega) | exact bk_o (by assumption) (by first | assumption | omega) | exact bk_s (by assumption) (by first | assumption | omega) | exact bk_1 (by assumption) | exact bk_2 (by assumption) | exact bk_3 (by assumption) | exact bk_4 (by assumption) | exact bk_5 (by assumption) | exact bk_6 (by assumption) | exact bk_7 (by assumption) | exact bk_8 (by assumption) | exact sh_ring _ (by first | assumption | omega) | exact sh_imgs _ (by first | assumption | omega)) rfl rfl rfl ?_
      refine v_iinc_2 (v := -8) rfl dX11_putOnTape_40 (by decide) ?_
      refine v_goto (tgt := 3) dX11_putOnTape_43 (by decide) ?_
      rw [show nI 24 + -8 = nI 16 from by decide]
      refine v_iload_2 dX11_putOnTape_3 ?_
      refine v_if_lt (tgt := 46) dX11_putOnTape_4 (by decide) (fun hc4 => ?_) (fun hc4 => ?_)
      · (first | rw [show (0 : Int32) = nI 0 from rfl, nI_ltI (by omega) (by omega)] at hc4 | rw [show (0 : Int32) = nI 0 from rfl, nI_leI (by omega) (by omega)] at hc4 | skip)
        omega
      · (first | rw [show (0 : Int32) = nI 0 from rfl, nI_ltI (by omega) (by omega)] at hc4 | rw [show (0 : Int32) = nI 0 from rfl, nI_leI (by omega) (by omega)] at hc4 | skip)
        refine v_aload_0 dX11_putOnTape_7 ?_
        refine u_getI dX11_putOnTape_8 gf_X11_13 (by first | assumption | rfl | exact led_1 (by assumption) | exact led_2 (by assumption) | exact bk_m (by assumption) (by first | assumption | omega) | exact bk_p (by assumption) (by first | assumption | omega) | exact bk_o (by assumption) (by first | assumption | omega) | exact bk_s (by assumption) (by first | assumption | omega) | exact bk_1 (by assumption) | exact bk_2 (by assumption) | exact bk_3 (by assumption) | exact bk_4 (by assumption) | exact bk_5 (by assumption) | exact bk_6 (by assumption) | exact bk_7 (by assumption) | exact bk_8 (by assumption) | exact sh_ring _ (by first | assumption | omega) | exact sh_imgs _ (by first | assumption | omega)) ?_
        rw [ui_s]
        refine v_sipush (v := nI 900) dX11_putOnTape_11 (by decide) ?_
        refine v_icmp_ge (tgt := 46) dX11_putOnTape_14 (by decide) (fun hc14 => ?_) (fun hc14 => ?_)
        · (try rw [nI_leI (by omega) (by omega)] at hc14)
          omega
        · (try rw [nI_leI (by omega) (by omega)] at hc14)
          refine v_aload_0 dX11_putOnTape_17 ?_
          refine u_getR dX11_putOnTape_18 gf_X11_9 (by first | assumption | rfl | exact led_1 (by assumption) | exact led_2 (by assumption) | exact bk_m (by assumption) (by first | assumption | omega) | exact bk_p (by assumption) (by first | assumption | omega) | exact bk_o (by assumption) (by first | assumption | omega) | exact bk_s (by assumption) (by first | assumption | omega) | exact bk_1 (by assumption) | exact bk_2 (by assumption) | exact bk_3 (by assumption) | exact bk_4 (by assumption) | exact bk_5 (by assumption) | exact bk_6 (by assumption) | exact bk_7 (by assumption) | exact bk_8 (by assumption) | exact sh_ring _ (by first | assumption | omega) | exact sh_imgs _ (by first | assumption | omega)) (ro_X11_0 (by assumption)) ?_
          refine v_aload_0 dX11_putOnTape_21 ?_
          refine u_getI dX11_putOnTape_22 gf_X11_13 (by first | assumption | rfl | exact led_1 (by assumption) | exact led_2 (by assumption) | exact bk_m (by assumption) (by first | assumption | omega) | exact bk_p (by assumption) (by first | assumption | omega) | exact bk_o (by assumption) (by first | assumption | omega) | exact bk_s (by assumption) (by first | assumption | omega) | exact bk_1 (by assumption) | exact bk_2 (by assumption) | exact bk_3 (by assumption) | exact bk_4 (by assumption) | exact bk_5 (by assumption) | exact bk_6 (by assumption) | exact bk_7 (by assumption) | exact bk_8 (by assumption) | exact sh_ring _ (by first | assumption | omega) | exact sh_imgs _ (by first | assumption | omega)) ?_
          rw [ui_s]
          refine v_iload_1 dX11_putOnTape_25 ?_
          refine v_iload_2 dX11_putOnTape_26 ?_
          refine v_iushr dX11_putOnTape_27 ?_
          refine v_i2b dX11_putOnTape_28 ?_
          first | refine u_zast dX11_putOnTape_29 (by first | assumption | rfl | exact led_1 (by assumption) | exact led_2 (by assumption) | exact bk_m (by assumption) (by first | assumption | omega) | exact bk_p (by assumption) (by first | assumption | omega) | exact bk_o (by assumption) (by first | assumption | omega) | exact bk_s (by assumption) (by first | assumption | omega) | exact bk_1 (by assumption) | exact bk_2 (by assumption) | exact bk_3 (by assumption) | exact bk_4 (by assumption) | exact bk_5 (by assumption) | exact bk_6 (by assumption) | exact bk_7 (by assumption) | exact bk_8 (by assumption) | exact sh_ring _ (by first | assumption | omega) | exact sh_imgs _ (by first | assumption | omega)) (by first | with_reducible rfl | (simp only [nlit, nI_add, pk_mul]; with_reducible rfl) | rfl) (by first | assumption | omega) (by first | assumption | decide) rfl ?_ | refine u_bast dX11_putOnTape_29 (by first | assumption | rfl | exact led_1 (by assumption) | exact led_2 (by assumption) | exact bk_m (by assumption) (by first | assumption | omega) | exact bk_p (by assumption) (by first | assumption | omega) | exact bk_o (by assumption) (by first | assumption | omega) | exact bk_s (by assumption) (by first | assumption | omega) | exact bk_1 (by assumption) | exact bk_2 (by assumption) | exact bk_3 (by assumption) | exact bk_4 (by assumption) | exact bk_5 (by assumption) | exact bk_6 (by assumption) | exact bk_7 (by assumption) | exact bk_8 (by assumption) | exact sh_ring _ (by first | assumption | omega) | exact sh_imgs _ (by first | assumption | omega)) (by first | with_reducible rfl | (simp only [nlit, nI_add, pk_mul]; with_reducible rfl) | rfl) (by first | assumption | omega) (by first | assumption | decide) ?_
          rw [byt_u x 1 (nI 16) rfl]
          refine v_aload_0 dX11_putOnTape_30 ?_
          refine v_dup dX11_putOnTape_31 rfl ?_
          refine u_getI dX11_putOnTape_32 gf_X11_13 (by first | assumption | rfl | exact led_1 (by assumption) | exact led_2 (by assumption) | exact bk_m (by assumption) (by first | assumption | omega) | exact bk_p (by assumption) (by first | assumption | omega) | exact bk_o (by assumption) (by first | assumption | omega) | exact bk_s (by assumption) (by first | assumption | omega) | exact bk_1 (by assumption) | exact bk_2 (by assumption) | exact bk_3 (by assumption) | exact bk_4 (by assumption) | exact bk_5 (by assumption) | exact bk_6 (by assumption) | exact bk_7 (by assumption) | exact bk_8 (by assumption) | exact sh_ring _ (by first | assumption | omega) | exact sh_imgs _ (by first | assumption | omega)) ?_
          rw [ui_ne (by decide), ui_s]
          refine v_iconst (v := nI 1) dX11_putOnTape_35 (by decide) ?_
          refine v_iadd dX11_putOnTape_36 ?_
          rw [nI_add]
          refine u_putI dX11_putOnTape_37 gf_X11_13 (by first | assumption | rfl | exact led_1 (by assumption) | exact led_2 (by assumption) | exact bk_m (by assumption) (by first | assumption | omega) | exact bk_p (by assumption) (by first | assumption | omega) | exact bk_o (by assumption) (by first | assumption | omega) | exact bk_s (by assumption) (by first | assumption | omega) | exact bk_1 (by assumption) | exact bk_2 (by assumption) | exact bk_3 (by assumption) | exact bk_4 (by assumption) | exact bk_5 (by assumption) | exact bk_6 (by assumption) | exact bk_7 (by assumption) | exact bk_8 (by assumption) | exact sh_ring _ (by first | assumption | omega) | exact sh_imgs _ (by first | assumption | omega)) rfl rfl rfl ?_
          refine v_iinc_2 (v := -8) rfl dX11_putOnTape_40 (by decide) ?_
          refine v_goto (tgt := 3) dX11_putOnTape_43 (by decide) ?_
          rw [show nI 16 + -8 = nI 8 from by decide]
          refine v_iload_2 dX11_putOnTape_3 ?_
          refine v_if_lt (tgt := 46) dX11_putOnTape_4 (by decide) (fun hc4 => ?_) (fun hc4 => ?_)
          · (first | rw [show (0 : Int32) = nI 0 from rfl, nI_ltI (by omega) (by omega)] at hc4 | rw [show (0 : Int32) = nI 0 from rfl, nI_leI (by omega) (by omega)] at hc4 | skip)
            omega
          · (first | rw [show (0 : Int32) = nI 0 from rfl, nI_ltI (by omega) (by omega)] at hc4 | rw [show (0 : Int32) = nI 0 from rfl, nI_leI (by omega) (by omega)] at hc4 | skip)
            refine v_aload_0 dX11_putOnTape_7 ?_
            refine u_getI dX11_putOnTape_8 gf_X11_13 (by first | assumption | rfl | exact led_1 (by assumption) | exact led_2 (by assumption) | exact bk_m (by assumption) (by first | assumption | omega) | exact bk_p (by assumption) (by first | assumption | omega) | exact bk_o (by assumption) (by first | assumption | omega) | exact bk_s (by assumption) (by first | assumption | omega) | exact bk_1 (by assumption) | exact bk_2 (by assumption) | exact bk_3 (by assumption) | exact bk_4 (by assumption) | exact bk_5 (by assumption) | exact bk_6 (by assumption) | exact bk_7 (by assumption) | exact bk_8 (by assumption) | exact sh_ring _ (by first | assumption | omega) | exact sh_imgs _ (by first | assumption | omega)) ?_
            rw [ui_s]
            refine v_sipush (v := nI 900) dX11_putOnTape_11 (by decide) ?_
            refine v_icmp_ge (tgt := 46) dX11_putOnTape_14 (by decide) (fun hc14 => ?_) (fun hc14 => ?_)
            · (try rw [nI_leI (by omega) (by omega)] at hc14)
              omega
            · (try rw [nI_leI (by omega) (by omega)] at hc14)
              refine v_aload_0 dX11_putOnTape_17 ?_
              refine u_getR dX11_putOnTape_18 gf_X11_9 (by first | assumption | rfl | exact led_1 (by assumption) | exact led_2 (by assumption) | exact bk_m (by assumption) (by first | assumption | omega) | exact bk_p (by assumption) (by first | assumption | omega) | exact bk_o (by assumption) (by first | assumption | omega) | exact bk_s (by assumption) (by first | assumption | omega) | exact bk_1 (by assumption) | exact bk_2 (by assumption) | exact bk_3 (by assumption) | exact bk_4 (by assumption) | exact bk_5 (by assumption) | exact bk_6 (by assumption) | exact bk_7 (by assumption) | exact bk_8 (by assumption) | exact sh_ring _ (by first | assumption | omega) | exact sh_imgs _ (by first | assumption | omega)) (ro_X11_0 (by assumption)) ?_
              refine v_aload_0 dX11_putOnTape_21 ?_
              refine u_getI dX11_putOnTape_22 gf_X11_13 (by first | assumption | rfl | exact led_1 (by assumption) | exact led_2 (by assumption) | exact bk_m (by assumption) (by first | assumption | omega) | exact bk_p (by assumption) (by first | assumption | omega) | exact bk_o (by assumption) (by first | assumption | omega) | exact bk_s (by assumption) (by first | assumption | omega) | exact bk_1 (by assumption) | exact bk_2 (by assumption) | exact bk_3 (by assumption) | exact bk_4 (by assumption) | exact bk_5 (by assumption) | exact bk_6 (by assumption) | exact bk_7 (by assumption) | exact bk_8 (by assumption) | exact sh_ring _ (by first | assumption | omega) | exact sh_imgs _ (by first | assumption | omega)) ?_
              rw [ui_s]
              refine v_iload_1 dX11_putOnTape_25 ?_
              refine v_iload_2 dX11_putOnTape_26 ?_
              refine v_iushr dX11_putOnTape_27 ?_
              refine v_i2b dX11_putOnTape_28 ?_
              first | refine u_zast dX11_putOnTape_29 (by first | assumption | rfl | exact led_1 (by assumption) | exact led_2 (by assumption) | exact bk_m (by assumption) (by first | assumption | omega) | exact bk_p (by assumption) (by first | assumption | omega) | exact bk_o (by assumption) (by first | assumption | omega) | exact bk_s (by assumption) (by first | assumption | omega) | exact bk_1 (by assumption) | exact bk_2 (by assumption) | exact bk_3 (by assumption) | exact bk_4 (by assumption) | exact bk_5 (by assumption) | exact bk_6 (by assumption) | exact bk_7 (by assumption) | exact bk_8 (by assumption) | exact sh_ring _ (by first | assumption | omega) | exact sh_imgs _ (by first | assumption | omega)) (by first | with_reducible rfl | (simp only [nlit, nI_add, pk_mul]; with_reducible rfl) | rfl) (by first | assumption | omega) (by first | assumption | decide) rfl ?_ | refine u_bast dX11_putOnTape_29 (by first | assumption | rfl | exact led_1 (by assumption) | exact led_2 (by assumption) | exact bk_m (by assumption) (by first | assumption | omega) | exact bk_p (by assumption) (by first | assumption | omega) | exact bk_o (by assumption) (by first | assumption | omega) | exact bk_s (by assumption) (by first | assumption | omega) | exact bk_1 (by assumption) | exact bk_2 (by assumption) | exact bk_3 (by assumption) | exact bk_4 (by assumption) | exact bk_5 (by assumption) | exact bk_6 (by assumption) | exact bk_7 (by assumption) | exact bk_8 (by assumption) | exact sh_ring _ (by first | assumption | omega) | exact sh_imgs _ (by first | assumption | omega)) (by first | with_reducible rfl | (simp only [nlit, nI_add, pk_mul]; with_reducible rfl) | rfl) (by first | assumption | omega) (by first | assumption | decide) ?_
              rw [byt_u x 2 (nI 8) rfl]
              refine v_aload_0 dX11_putOnTape_30 ?_
              refine v_dup dX11_putOnTape_31 rfl ?_
              refine u_getI dX11_putOnTape_32 gf_X11_13 (by first | assumption | rfl | exact led_1 (by assumption) | exact led_2 (by assumption) | exact bk_m (by assumption) (by first | assumption | omega) | exact bk_p (by assumption) (by first | assumption | omega) | exact bk_o (by assumption) (by first | assumption | omega) | exact bk_s (by assumption) (by first | assumption | omega) | exact bk_1 (by assumption) | exact bk_2 (by assumption) | exact bk_3 (by assumption) | exact bk_4 (by assumption) | exact bk_5 (by assumption) | exact bk_6 (by assumption) | exact bk_7 (by assumption) | exact bk_8 (by assumption) | exact sh_ring _ (by first | assumption | omega) | exact sh_imgs _ (by first | assumption | omega)) ?_
              rw [ui_ne (by decide), ui_s]
              refine v_iconst (v := nI 1) dX11_putOnTape_35 (by decide) ?_
              refine v_iadd dX11_putOnTape_36 ?_
              rw [nI_add]
              refine u_putI dX11_putOnTape_37 gf_X11_13 (by first | assumption | rfl | exact led_1 (by assumption) | exact led_2 (by assumption) | exact bk_m (by assumption) (by first | assumption | omega) | exact bk_p (by assumption) (by first | assumption | omega) | exact bk_o (by assumption) (by first | assumption | omega) | exact bk_s (by assumption) (by first | assumption | omega) | exact bk_1 (by assumption) | exact bk_2 (by assumption) | exact bk_3 (by assumption) | exact bk_4 (by assumption) | exact bk_5 (by assumption) | exact bk_6 (by assumption) | exact bk_7 (by assumption) | exact bk_8 (by assumption) | exact sh_ring _ (by first | assumption | omega) | exact sh_imgs _ (by first | assumption | omega)) rfl rfl rfl ?_
              refine v_iinc_2 (v := -8) rfl dX11_putOnTape_40 (by decide) ?_
              refine v_goto (tgt := 3) dX11_putOnTape_43 (by decide) ?_
              rw [show nI 8 + -8 = nI 0 from by decide]
              refine v_iload_2 dX11_putOnTape_3 ?_
              refine v_if_lt (tgt := 46) dX11_putOnTape_4 (by decide) (fun hc4 => ?_) (fun hc4 => ?_)
              · (first | rw [show (0 : Int32) = nI 0 from rfl, nI_ltI (by omega) (by omega)] at hc4 | rw [show (0 : Int32) = nI 0 from rfl, nI_leI (by omega) (by omega)] at hc4 | skip)
                omega
              · (first | rw [show (0 : Int32) = nI 0 from rfl, nI_ltI (by omega) (by omega)] at hc4 | rw [show (0 : Int32) = nI 0 from rfl, nI_leI (by omega) (by omega)] at hc4 | skip)
                refine v_aload_0 dX11_putOnTape_7 ?_
                refine u_getI dX11_putOnTape_8 gf_X11_13 (by first | assumption | rfl | exact led_1 (by assumption) | exact led_2 (by assumption) | exact bk_m (by assumption) (by first | assumption | omega) | exact bk_p (by assumption) (by first | assumption | omega) | exact bk_o (by assumption) (by first | assumption | omega) | exact bk_s (by assumption) (by first | assumption | omega) | exact bk_1 (by assumption) | exact bk_2 (by assumption) | exact bk_3 (by assumption) | exact bk_4 (by assumption) | exact bk_5 (by assumption) | exact bk_6 (by assumption) | exact bk_7 (by assumption) | exact bk_8 (by assumption) | exact sh_ring _ (by first | assumption | omega) | exact sh_imgs _ (by first | assumption | omega)) ?_
                rw [ui_s]
                refine v_sipush (v := nI 900) dX11_putOnTape_11 (by decide) ?_
                refine v_icmp_ge (tgt := 46) dX11_putOnTape_14 (by decide) (fun hc14 => ?_) (fun hc14 => ?_)
                · (try rw [nI_leI (by omega) (by omega)] at hc14)
                  omega
                · (try rw [nI_leI (by omega) (by omega)] at hc14)
                  refine v_aload_0 dX11_putOnTape_17 ?_
                  refine u_getR dX11_putOnTape_18 gf_X11_9 (by first | assumption | rfl | exact led_1 (by assumption) | exact led_2 (by assumption) | exact bk_m (by assumption) (by first | assumption | omega) | exact bk_p (by assumption) (by first | assumption | omega) | exact bk_o (by assumption) (by first | assumption | omega) | exact bk_s (by assumption) (by first | assumption | omega) | exact bk_1 (by assumption) | exact bk_2 (by assumption) | exact bk_3 (by assumption) | exact bk_4 (by assumption) | exact bk_5 (by assumption) | exact bk_6 (by assumption) | exact bk_7 (by assumption) | exact bk_8 (by assumption) | exact sh_ring _ (by first | assumption | omega) | exact sh_imgs _ (by first | assumption | omega)) (ro_X11_0 (by assumption)) ?_
                  refine v_aload_0 dX11_putOnTape_21 ?_
                  refine u_getI dX11_putOnTape_22 gf_X11_13 (by first | assumption | rfl | exact led_1 (by assumption) | exact led_2 (by assumption) | exact bk_m (by assumption) (by first | assumption | omega) | exact bk_p (by assumption) (by first | assumption | omega) | exact bk_o (by assumption) (by first | assumption | omega) | exact bk_s (by assumption) (by first | assumption | omega) | exact bk_1 (by assumption) | exact bk_2 (by assumption) | exact bk_3 (by assumption) | exact bk_4 (by assumption) | exact bk_5 (by assumption) | exact bk_6 (by assumption) | exact bk_7 (by assumption) | exact bk_8 (by assumption) | exact sh_ring _ (by first | assumption | omega) | exact sh_imgs _ (by first | assumption | omega)) ?_
                  rw [ui_s]
                  refine v_iload_1 dX11_putOnTape_25 ?_
                  refine v_iload_2 dX11_putOnTape_26 ?_
                  refine v_iushr dX11_putOnTape_27 ?_
                  refine v_i2b dX11_putOnTape_28 ?_
                  first | refine u_zast dX11_putOnTape_29 (by first | assumption | rfl | exact led_1 (by assumption) | exact led_2 (by assumption) | exact bk_m (by assumption) (by first | assumption | omega) | exact bk_p (by assumption) (by first | assumption | omega) | exact bk_o (by assumption) (by first | assumption | omega) | exact bk_s (by assumption) (by first | assumption | omega) | exact bk_1 (by assumption) | exact bk_2 (by assumption) | exact bk_3 (by assumption) | exact bk_4 (by assumption) | exact bk_5 (by assumption) | exact bk_6 (by assumption) | exact bk_7 (by assumption) | exact bk_8 (by assumption) | exact sh_ring _ (by first | assumption | omega) | exact sh_imgs _ (by first | assumption | omega)) (by first | with_reducible rfl | (simp only [nlit, nI_add, pk_mul]; with_reducible rfl) | rfl) (by first | assumption | omega) (by first | assumption | decide) rfl ?_ | refine u_bast dX11_putOnTape_29 (by first | assumption | rfl | exact led_1 (by assumption) | exact led_2 (by assumption) | exact bk_m (by assumption) (by first | assumption | omega) | exact bk_p (by assumption) (by first | assumption | omega) | exact bk_o (by assumption) (by first | assumption | omega) | exact bk_s (by assumption) (by first | assumption | omega) | exact bk_1 (by assumption) | exact bk_2 (by assumption) | exact bk_3 (by assumption) | exact bk_4 (by assumption) | exact bk_5 (by assumption) | exact bk_6 (by assumption) | exact bk_7 (by assumption) | exact bk_8 (by assumption) | exact sh_ring _ (by first | assumption | omega) | exact sh_imgs _ (by first | assumption | omega)) (by first | with_reducible rfl | (simp only [nlit, nI_add, pk_mul]; with_reducible rfl) | rfl) (by first | assumption | omega) (by first | assumption | decide) ?_
                  rw [byt_u x 3 (nI 0) rfl]
                  refine v_aload_0 dX11_putOnTape_30 ?_
                  refine v_dup dX11_putOnTape_31 rfl ?_
                  refine u_getI dX11_putOnTape_32 gf_X11_13 (by first | assumption | rfl | exact led_1 (by assumption) | exact led_2 (by assumption) | exact bk_m (by assumption) (by first | assumption | omega) | exact bk_p (by assumption) (by first | assumption | omega) | exact bk_o (by assumption) (by first | assumption | omega) | exact bk_s (by assumption) (by first | assumption | omega) | exact bk_1 (by assumption) | exact bk_2 (by assumption) | exact bk_3 (by assumption) | exact bk_4 (by assumption) | exact bk_5 (by assumption) | exact bk_6 (by assumption) | exact bk_7 (by assumption) | exact bk_8 (by assumption) | exact sh_ring _ (by first | assumption | omega) | exact sh_imgs _ (by first | assumption | omega)) ?_
                  rw [ui_ne (by decide), ui_s]
                  refine v_iconst (v := nI 1) dX11_putOnTape_35 (by decide) ?_
                  refine v_iadd dX11_putOnTape_36 ?_
                  rw [nI_add]
                  refine u_putI dX11_putOnTape_37 gf_X11_13 (by first | assumption | rfl | exact led_1 (by assumption) | exact led_2 (by assumption) | exact bk_m (by assumption) (by first | assumption | omega) | exact bk_p (by assumption) (by first | assumption | omega) | exact bk_o (by assumption) (by first | assumption | omega) | exact bk_s (by assumption) (by first | assumption | omega) | exact bk_1 (by assumption) | exact bk_2 (by assumption) | exact bk_3 (by assumption) | exact bk_4 (by assumption) | exact bk_5 (by assumption) | exact bk_6 (by assumption) | exact bk_7 (by assumption) | exact bk_8 (by assumption) | exact sh_ring _ (by first | assumption | omega) | exact sh_imgs _ (by first | assumption | omega)) rfl rfl rfl ?_
                  refine v_iinc_2 (v := -8) rfl dX11_putOnTape_40 (by decide) ?_
                  refine v_goto (tgt := 3) dX11_putOnTape_43 (by decide) ?_
                  rw [show nI 0 + -8 = (-8) from by decide]
                  refine v_iload_2 dX11_putOnTape_3 ?_
                  refine v_if_lt (tgt := 46) dX11_putOnTape_4 (by decide) (fun hc4 => ?_) (fun hc4 => ?_)
                  · (first | rw [show (0 : Int32) = nI 0 from rfl, nI_ltI (by omega) (by omega)] at hc4 | rw [show (0 : Int32) = nI 0 from rfl, nI_leI (by omega) (by omega)] at hc4 | skip)
                    refine v_vret dX11_putOnTape_46 rfl rfl rfl rfl ?_
                    refine hQ _ (ui_s _ _ _ _) (fun j hj => ?_) (fun i => ?_) (fun a ha => ?_)
                    · rw [ui_o hj, ui_ne (by decide), ui_o hj, ui_ne (by decide), ui_o hj, ui_ne (by decide), ui_o hj, ui_ne (by decide)]
                    · rw [ui_ne (by decide)]
                      by_cases e3 : i = nt + 3
                      · subst e3; rw [ui_s, if_pos ⟨by omega, by omega⟩, show nt + 3 - nt = 3 by omega]
                      rw [ui_o e3, ui_ne (by decide)]
                      by_cases e2 : i = nt + 2
                      · subst e2; rw [ui_s, if_pos ⟨by omega, by omega⟩, show nt + 2 - nt = 2 by omega]
                      rw [ui_o e2, ui_ne (by decide)]
                      by_cases e1 : i = nt + 1
                      · subst e1; rw [ui_s, if_pos ⟨by omega, by omega⟩, show nt + 1 - nt = 1 by omega]
                      rw [ui_o e1, ui_ne (by decide)]
                      by_cases e0 : i = nt
                      · subst e0; rw [ui_s, if_pos ⟨by omega, by omega⟩, Nat.sub_self]
                      rw [ui_o e0, if_neg (by omega)]
                    · rw [ui_ne (by omega), ui_ne (by omega), ui_ne (by omega), ui_ne (by omega), ui_ne (by omega), ui_ne (by omega), ui_ne (by omega), ui_ne (by omega)]
                  · (first | rw [show (0 : Int32) = nI 0 from rfl, nI_ltI (by omega) (by omega)] at hc4 | rw [show (0 : Int32) = nI 0 from rfl, nI_leI (by omega) (by omega)] at hc4 | skip)
                    exact absurd (by decide) hc4
theorem cb_tp {J : HI} {x : Int32} (h : ClsB I L R B B2 t tp nt tr fa pl F S u r im ic) (hn : nt + 4 ≤ 900) (h1 : J 0 1 = nI (nt + 4)) (h0 : ∀ j, j ≠ 1 → J 0 j = I 0 j) (ht : ∀ i, J 1 i = if nt ≤ i ∧ i < nt + 4 then byt (bN x (i - nt)) else I 1 i) (ha : ∀ a, 1 < a → J a = I a) : ClsB J L R B B2 t (putT tp nt x) (nt + 4) tr fa pl F S u r im ic := by
  have hb := cb_R5 h
  have hb2 : 1 < B := by
    rcases sh_b2 B (sh_lto h.2.1.2.2.1) h.2.1.2.2.1 with rfl | rfl <;> decide
  obtain ⟨a1, ⟨b1, b2, b3, b4, b5⟩, ⟨c1, c2, c3⟩, ⟨d1, d2, d3, d4, d5⟩, ⟨e1, e2, e3⟩, ⟨f1, f2, f3, f4, f5, f6⟩, ⟨g1, g2, g3⟩, k1⟩ := h
  refine ⟨a1, ⟨b1, b2, b3, b4, b5⟩, ⟨h1, hn, fun i hi => ?_⟩, ⟨by rw [h0 2 (by decide)]; exact d1, d2, by rw [h0 3 (by decide)]; exact d3, d4, fun q => by rw [h0 4 (by decide)]; exact d5 q⟩, ⟨?_, e2, e3⟩, ⟨by rw [ha 94 (by decide)]; exact f1, f2, by rw [ha 94 (by decide)]; exact f3, by rw [ha 94 (by decide)]; exact f4, f5, fun k hk => ⟨(f6 k hk).1.same (ha _ (by unfold ring; omega)) (ha _ (by unfold ring; omega)) (ha _ (by unfold ring; omega)), (f6 k hk).2⟩⟩, ⟨by rw [ha 94 (by decide)]; exact g1, g2, fun c hc => ⟨(g3 c hc).1.same (ha _ (by omega)) (ha _ (by omega)) (ha _ (by omega)), (g3 c hc).2⟩⟩, fun i hi => ⟨(k1 i hi).1, by rw [ha 92 (by decide)]; exact (k1 i hi).2⟩⟩
  · rw [ht i]
    unfold putT
    by_cases q : nt ≤ i ∧ i < nt + 4
    · rw [if_pos q, if_pos q]; exact ⟨rfl, bN_lt _ _⟩
    · rw [if_neg q, if_neg q]; exact c3 i (by omega)
  · have o2 := e2.2.2.1
    have o3 := e2.2.2.2.1
    have o4 := e2.2.2.2.2.1
    have o5 := e2.2.2.2.2.2.1
    obtain ⟨q1, q2, q3, q4, q5, q6⟩ := e1
    exact ⟨fun j hj => by rw [ha B (by omega)]; exact q1 j hj, fun m hm j hj => by rw [ha _ (by omega)]; exact q2 m hm j hj, fun p hp j hj => by rw [ha _ (by omega)]; exact q3 p hp j hj, fun o ho j hj => by rw [ha _ (by omega)]; exact q4 o ho j hj, fun s hs j hj => by rw [ha _ (by omega)]; exact q5 s hs j hj, fun l hl => by rw [ha _ (by omega), ha _ (by omega), ha _ (by omega)]; exact q6 l hl⟩
theorem c_X11_feed {x0 x1 x2 x3 x4 : Int32} (h : ClsB I L R B B2 t tp nt tr fa pl F S u r im ic) (hQ0 : ¬ nt + 20 ≤ 900 → XQ I L R tp nt tr fa pl F S u r im ic (-1) Q) (hQ1 : nt + 20 ≤ 900 → XQ I L R (feedT tp nt x0 x1 x2 x3 x4) (nt + 20) tr fa pl F S u r im ic (nI (nt + 20)) Q) : KK 12 mX11_feed b ad [.ref (b + 0), .int x0, .int x1, .int x2, .int x3, .int x4] I L R Q := by
  have hR := cb_R h
  have n0 := h.2.2.1.1
  have n900 := h.2.2.1.2.1
  have hh : Hi I I L L R R := Hi.refl
  refine K.of (M := mX11_feed) (lv := [some (.ref (b + 0)), some (.int x0), some (.int x1), some (.int x2), some (.int x3), some (.int x4)]) (by decide) (Nat.le_of_ble_eq_true rfl) rfl ?_
  refine v_aload_0 dX11_feed_0 ?_
  refine u_getI dX11_feed_1 gf_X11_13 (by first | assumption | rfl | exact led_1 (by assumption) | exact led_2 (by assumption) | exact bk_m (by assumption) (by first | assumption | omega) | exact bk_p (by assumption) (by first | assumption | omega) | exact bk_o (by assumption) (by first | assumption | omega) | exact bk_s (by assumption) (by first | assumption | omega) | exact bk_1 (by assumption) | exact bk_2 (by assumption) | exact bk_3 (by assumption) | exact bk_4 (by assumption) | exact bk_5 (by assumption) | exact bk_6 (by assumption) | exact bk_7 (by assumption) | exact bk_8 (by assumption) | exact sh_ring _ (by first | assumption | omega) | exact sh_imgs _ (by first | assumption | omega)) ?_
  rw [n0]
  refine v_bipush (v := nI 20) dX11_feed_4 (by decide) ?_
  refine v_iadd dX11_feed_6 ?_
  rw [nI_add]
  refine v_sipush (v := nI 900) dX11_feed_7 (by decide) ?_
  refine v_icmp_le (tgt := 15) dX11_feed_10 (by decide) (fun hc10 => ?_) (fun hc10 => ?_)
  · (try rw [nI_leI (by omega) (by omega)] at hc10)
    refine v_aload_0 dX11_feed_15 ?_
    refine v_iload_1 dX11_feed_16 ?_
    refine u_callV_1 dX11_feed_17 ml_X11_64 mv_X11_putOnTape (by first | assumption | rfl | exact led_1 (by assumption) | exact led_2 (by assumption) | exact bk_m (by assumption) (by first | assumption | omega) | exact bk_p (by assumption) (by first | assumption | omega) | exact bk_o (by assumption) (by first | assumption | omega) | exact bk_s (by assumption) (by first | assumption | omega) | exact bk_1 (by assumption) | exact bk_2 (by assumption) | exact bk_3 (by assumption) | exact bk_4 (by assumption) | exact bk_5 (by assumption) | exact bk_6 (by assumption) | exact bk_7 (by assumption) | exact bk_8 (by assumption) | exact sh_ring _ (by first | assumption | omega) | exact sh_imgs _ (by first | assumption | omega)) (by decide) rfl (by decide) (Nat.le_of_ble_eq_true rfl) (c_X11_putOnTape (x := x0) hR n0 (by omega) (fun J0 p1 p2 p3 p4 => ?_))
    have h := cb_tp h (by omega) p1 p2 p3 p4
    have n0 := p1
    have hh := hh.trans (fun a ha => ⟨p4 a (by omega), rfl, rfl⟩ : Hi _ J0 L L R R)
    refine v_aload_0 dX11_feed_20 ?_
    refine v_iload_2 dX11_feed_21 ?_
    refine u_callV_1 dX11_feed_22 ml_X11_64 mv_X11_putOnTape (by first | assumption | rfl | exact led_1 (by assumption) | exact led_2 (by assumption) | exact bk_m (by assumption) (by first | assumption | omega) | exact bk_p (by assumption) (by first | assumption | omega) | exact bk_o (by assumption) (by first | assumption | omega) | exact bk_s (by assumption) (by first | assumption | omega) | exact bk_1 (by assumption) | exact bk_2 (by assumption) | exact bk_3 (by assumption) | exact bk_4 (by assumption) | exact bk_5 (by assumption) | exact bk_6 (by assumption) | exact bk_7 (by assumption) | exact bk_8 (by assumption) | exact sh_ring _ (by first | assumption | omega) | exact sh_imgs _ (by first | assumption | omega)) (by decide) rfl (by decide) (Nat.le_of_ble_eq_true rfl) (c_X11_putOnTape (x := x1) hR n0 (by omega) (fun J1 p1 p2 p3 p4 => ?_))
    have h := cb_tp h (by omega) p1 p2 p3 p4
    have n0 := p1
    have hh := hh.trans (fun a ha => ⟨p4 a (by omega), rfl, rfl⟩ : Hi _ J1 L L R R)
    refine v_aload_0 dX11_feed_25 ?_
    refine v_iload_3 dX11_feed_26 ?_
    refine u_callV_1 dX11_feed_27 ml_X11_64 mv_X11_putOnTape (by first | assumption | rfl | exact led_1 (by assumption) | exact led_2 (by assumption) | exact bk_m (by assumption) (by first | assumption | omega) | exact bk_p (by assumption) (by first | assumption | omega) | exact bk_o (by assumption) (by first | assumption | omega) | exact bk_s (by assumption) (by first | assumption | omega) | exact bk_1 (by assumption) | exact bk_2 (by assumption) | exact bk_3 (by assumption) | exact bk_4 (by assumption) | exact bk_5 (by assumption) | exact bk_6 (by assumption) | exact bk_7 (by assumption) | exact bk_8 (by assumption) | exact sh_ring _ (by first | assumption | omega) | exact sh_imgs _ (by first | assumption | omega)) (by decide) rfl (by decide) (Nat.le_of_ble_eq_true rfl) (c_X11_putOnTape (x := x2) hR n0 (by omega) (fun J2 p1 p2 p3 p4 => ?_))
    have h := cb_tp h (by omega) p1 p2 p3 p4
    have n0 := p1
    have hh := hh.trans (fun a ha => ⟨p4 a (by omega), rfl, rfl⟩ : Hi _ J2 L L R R)
    refine v_aload_0 dX11_feed_30 ?_
    refine v_iload_4 dX11_feed_31 ?_
    refine u_callV_1 dX11_feed_33 ml_X11_64 mv_X11_putOnTape (by first | assumption | rfl | exact led_1 (by assumption) | exact led_2 (by assumption) | exact bk_m (by assumption) (by first | assumption | omega) | exact bk_p (by assumption) (by first | assumption | omega) | exact bk_o (by assumption) (by first | assumption | omega) | exact bk_s (by assumption) (by first | assumption | omega) | exact bk_1 (by assumption) | exact bk_2 (by assumption) | exact bk_3 (by assumption) | exact bk_4 (by assumption) | exact bk_5 (by assumption) | exact bk_6 (by assumption) | exact bk_7 (by assumption) | exact bk_8 (by assumption) | exact sh_ring _ (by first | assumption | omega) | exact sh_imgs _ (by first | assumption | omega)) (by decide) rfl (by decide) (Nat.le_of_ble_eq_true rfl) (c_X11_putOnTape (x := x3) hR n0 (by omega) (fun J3 p1 p2 p3 p4 => ?_))
    have h := cb_tp h (by omega) p1 p2 p3 p4
    have n0 := p1
    have hh := hh.trans (fun a ha => ⟨p4 a (by omega), rfl, rfl⟩ : Hi _ J3 L L R R)
    refine v_aload_0 dX11_feed_36 ?_
    refine v_iload_5 dX11_feed_37 ?_
    refine u_callV_1 dX11_feed_39 ml_X11_64 mv_X11_putOnTape (by first | assumption | rfl | exact led_1 (by assumption) | exact led_2 (by assumption) | exact bk_m (by assumption) (by first | assumption | omega) | exact bk_p (by assumption) (by first | assumption | omega) | exact bk_o (by assumption) (by first | assumption | omega) | exact bk_s (by assumption) (by first | assumption | omega) | exact bk_1 (by assumption) | exact bk_2 (by assumption) | exact bk_3 (by assumption) | exact bk_4 (by assumption) | exact bk_5 (by assumption) | exact bk_6 (by assumption) | exact bk_7 (by assumption) | exact bk_8 (by assumption) | exact sh_ring _ (by first | assumption | omega) | exact sh_imgs _ (by first | assumption | omega)) (by decide) rfl (by decide) (Nat.le_of_ble_eq_true rfl) (c_X11_putOnTape (x := x4) hR n0 (by omega) (fun J4 p1 p2 p3 p4 => ?_))
    have h := cb_tp h (by omega) p1 p2 p3 p4
    have n0 := p1
    have hh := hh.trans (fun a ha => ⟨p4 a (by omega), rfl, rfl⟩ : Hi _ J4 L L R R)
    refine v_aload_0 dX11_feed_42 ?_
    refine u_getI dX11_feed_43 gf_X11_13 (by first | assumption | rfl | exact led_1 (by assumption) | exact led_2 (by assumption) | exact bk_m (by assumption) (by first | assumption | omega) | exact bk_p (by assumption) (by first | assumption | omega) | exact bk_o (by assumption) (by first | assumption | omega) | exact bk_s (by assumption) (by first | assumption | omega) | exact bk_1 (by assumption) | exact bk_2 (by assumption) | exact bk_3 (by assumption) | exact bk_4 (by assumption) | exact bk_5 (by assumption) | exact bk_6 (by assumption) | exact bk_7 (by assumption) | exact bk_8 (by assumption) | exact sh_ring _ (by first | assumption | omega) | exact sh_imgs _ (by first | assumption | omega)) ?_
    rw [n0]
    refine v_iret dX11_feed_46 rfl rfl rfl rfl ?_
    exact (hQ1 hc10).fin h hh rfl rfl
  · (try rw [nI_leI (by omega) (by omega)] at hc10)
    refine v_iconst (v := -1) dX11_feed_13 (by decide) ?_
    refine v_iret dX11_feed_14 rfl rfl rfl rfl ?_
    exact (hQ0 hc10).fin h hh rfl rfl
end
