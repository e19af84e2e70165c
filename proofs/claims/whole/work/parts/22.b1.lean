section
variable {b : Nat} {ad : Nat → Nat} {I : HI} {L : HL} {R : HR} {Q : QT} {a B n : Nat} {F : bkF} {g : lends} {br : Nat → Nat}
theorem c_X0_suits {m p : Nat} (hR : RO R) (hB : SH B = .inl 0) (hF : BkI I B F) (hO : FOK F) (hm : m < F 2) (hp : p < F 3) (hQ : Q (some (.int (bI (fitF F m p)))) SH I L R) : KK 2 mX0_suits b ad [.ref (b + B), .int (nI m), .int (nI p)] I L R Q := by
  obtain ⟨k0, k1, k2, k3, k4, k5, k6, -⟩ := id hO
  refine K.of (M := mX0_suits) (lv := [some (.ref (b + B)), some (.int (nI m)), some (.int (nI p))]) (by decide) (Nat.le_of_ble_eq_true rfl) rfl ?_
  refine v_aload_0 dX0_suits_0 ?_
  refine u_getR dX0_suits_1 gf_X0_11 (by first | assumption | rfl | exact led_1 (by assumption) | exact led_2 (by assumption) | exact bk_m (by assumption) (by first | assumption | omega) | exact bk_p (by assumption) (by first | assumption | omega) | exact bk_o (by assumption) (by first | assumption | omega) | exact bk_s (by assumption) (by first | assumption | omega) | exact bk_1 (by assumption) | exact bk_2 (by assumption) | exact bk_3 (by assumption) | exact bk_4 (by assumption) | exact bk_5 (by assumption) | exact bk_6 (by assumption) | exact bk_7 (by assumption) | exact bk_8 (by assumption) | exact sh_ring _ (by first | assumption | omega) | exact sh_imgs _ (by first | assumption | omega)) (ro_X0_7 (by assumption) (by assumption)) ?_
  refine v_iload_1 dX0_suits_4 ?_
  refine u_aald dX0_suits_5 (by first | assumption | rfl | exact led_1 (by assumption) | exact led_2 (by assumption) | exact bk_m (by assumption) (by first | assumption | omega) | exact bk_p (by assumption) (by first | assumption | omega) | exact bk_o (by assumption) (by first | assumption | omega) | exact bk_s (by assumption) (by first | assumption | omega) | exact bk_1 (by assumption) | exact bk_2 (by assumption) | exact bk_3 (by assumption) | exact bk_4 (by assumption) | exact bk_5 (by assumption) | exact bk_6 (by assumption) | exact bk_7 (by assumption) | exact bk_8 (by assumption) | exact sh_ring _ (by first | assumption | omega) | exact sh_imgs _ (by first | assumption | omega)) (by decide) (by decide) rfl (by first | with_reducible rfl | (simp only [nlit, nI_add, pk_mul]; with_reducible rfl) | rfl) (by first | assumption | omega) (by decide) (by first | exact ro_m (by assumption) (by assumption) (by first | assumption | omega) | exact ro_p (by assumption) (by assumption) (by first | assumption | omega) | exact ro_o (by assumption) (by assumption) (by first | assumption | omega) | exact ro_s (by assumption) (by assumption) (by first | assumption | omega) | exact ro_ring (by assumption) (by first | assumption | omega) | exact ro_imgs (by assumption) (by first | assumption | omega)) ?_
  refine v_aload_0 dX0_suits_6 ?_
  refine u_getR dX0_suits_7 gf_X0_19 (by first | assumption | rfl | exact led_1 (by assumption) | exact led_2 (by assumption) | exact bk_m (by assumption) (by first | assumption | omega) | exact bk_p (by assumption) (by first | assumption | omega) | exact bk_o (by assumption) (by first | assumption | omega) | exact bk_s (by assumption) (by first | assumption | omega) | exact bk_1 (by assumption) | exact bk_2 (by assumption) | exact bk_3 (by assumption) | exact bk_4 (by assumption) | exact bk_5 (by assumption) | exact bk_6 (by assumption) | exact bk_7 (by assumption) | exact bk_8 (by assumption) | exact sh_ring _ (by first | assumption | omega) | exact sh_imgs _ (by first | assumption | omega)) (ro_X0_8 (by assumption) (by assumption)) ?_
  refine v_iload_2 dX0_suits_10 ?_
  refine u_aald dX0_suits_11 (by first | assumption | rfl | exact led_1 (by assumption) | exact led_2 (by assumption) | exact bk_m (by assumption) (by first | assumption | omega) | exact bk_p (by assumption) (by first | assumption | omega) | exact bk_o (by assumption) (by first | assumption | omega) | exact bk_s (by assumption) (by first | assumption | omega) | exact bk_1 (by assumption) | exact bk_2 (by assumption) | exact bk_3 (by assumption) | exact bk_4 (by assumption) | exact bk_5 (by assumption) | exact bk_6 (by assumption) | exact bk_7 (by assumption) | exact bk_8 (by assumption) | exact sh_ring _ (by first | assumption | omega) | exact sh_imgs _ (by first | assumption | omega)) (by decide) (by decide) rfl (by first | with_reducible rfl | (simp only [nlit, nI_add, pk_mul]; with_reducible rfl) | rfl) (by first | assumption | omega) (by decide) (by first | exact ro_m (by assumption) (by assumption) (by first | assumption | omega) | exact ro_p (by assumption) (by assumption) (by first | assumption | omega) | exact ro_o (by assumption) (by assumption) (by first | assumption | omega) | exact ro_s (by assumption) (by assumption) (by first | assumption | omega) | exact ro_ring (by assumption) (by first | assumption | omega) | exact ro_imgs (by assumption) (by first | assumption | omega)) ?_
  refine u_callV_1 dX0_suits_12 ml_X0_85 mv_X3_suits (by first | assumption | rfl | exact led_1 (by assumption) | exact led_2 (by assumption) | exact bk_m (by assumption) (by first | assumption | omega) | exact bk_p (by assumption) (by first | assumption | omega) | exact bk_o (by assumption) (by first | assumption | omega) | exact bk_s (by assumption) (by first | assumption | omega) | exact bk_1 (by assumption) | exact bk_2 (by assumption) | exact bk_3 (by assumption) | exact bk_4 (by assumption) | exact bk_5 (by assumption) | exact bk_6 (by assumption) | exact bk_7 (by assumption) | exact bk_8 (by assumption) | exact sh_ring _ (by first | assumption | omega) | exact sh_imgs _ (by first | assumption | omega)) (by decide) rfl (by decide) (Nat.le_of_ble_eq_true rfl) (c_X3_suits (bk_m hB (by omega)) (bk_p hB (by omega)) (hF.mk hO hm) (hF.ps hO hp) ?_)
  refine v_zret dX0_suits_15 (by first | rfl | exact bI_n _) rfl rfl rfl rfl ?_
  exact hQ
theorem c_X0_hasMask {x : Int32} (hB : SH B = .inl 0) (hF : BkI I B F) (hQ : Q (some (.int (bI (inb x (F 2))))) SH I L R) : KK 0 mX0_hasMask b ad [.ref (b + B), .int x] I L R Q := by
  refine K.of (M := mX0_hasMask) (lv := [some (.ref (b + B)), some (.int x)]) (by decide) (Nat.le_of_ble_eq_true rfl) rfl ?_
  refine v_iload_1 dX0_hasMask_0 ?_
  refine v_if_lt (tgt := 16) dX0_hasMask_1 (by decide) (fun hc1 => ?_) (fun hc1 => ?_)
  · (first | rw [show (0 : Int32) = nI 0 from rfl, nI_ltI (by omega) (by omega)] at hc1 | rw [show (0 : Int32) = nI 0 from rfl, nI_leI (by omega) (by omega)] at hc1 | skip)
    refine v_iconst (v := nI 0) dX0_hasMask_16 (by decide) ?_
    refine v_zret dX0_hasMask_17 (by first | rfl | exact bI_n _) rfl rfl rfl rfl ?_
    first | (rw [bI_t (by simp only [inb, Int32.lt_iff_toInt_lt, Int32.le_iff_toInt_le] at *; simp at *; omega)] at hQ; exact hQ) | (rw [bI_f (by simp only [inb, Int32.lt_iff_toInt_lt, Int32.le_iff_toInt_le] at *; simp at *; omega)] at hQ; exact hQ)
  · (first | rw [show (0 : Int32) = nI 0 from rfl, nI_ltI (by omega) (by omega)] at hc1 | rw [show (0 : Int32) = nI 0 from rfl, nI_leI (by omega) (by omega)] at hc1 | skip)
    refine v_iload_1 dX0_hasMask_4 ?_
    refine v_aload_0 dX0_hasMask_5 ?_
    refine u_getI dX0_hasMask_6 gf_X0_63 (by first | assumption | rfl | exact led_1 (by assumption) | exact led_2 (by assumption) | exact bk_m (by assumption) (by first | assumption | omega) | exact bk_p (by assumption) (by first | assumption | omega) | exact bk_o (by assumption) (by first | assumption | omega) | exact bk_s (by assumption) (by first | assumption | omega) | exact bk_1 (by assumption) | exact bk_2 (by assumption) | exact bk_3 (by assumption) | exact bk_4 (by assumption) | exact bk_5 (by assumption) | exact bk_6 (by assumption) | exact bk_7 (by assumption) | exact bk_8 (by assumption) | exact sh_ring _ (by first | assumption | omega) | exact sh_imgs _ (by first | assumption | omega)) ?_
    (try rw [bx2 hF])
    refine v_icmp_ge (tgt := 16) dX0_hasMask_9 (by decide) (fun hc9 => ?_) (fun hc9 => ?_)
    · (try rw [nI_leI (by omega) (by omega)] at hc9)
      refine v_iconst (v := nI 0) dX0_hasMask_16 (by decide) ?_
      refine v_zret dX0_hasMask_17 (by first | rfl | exact bI_n _) rfl rfl rfl rfl ?_
      first | (rw [bI_t (by simp only [inb, Int32.lt_iff_toInt_lt, Int32.le_iff_toInt_le] at *; simp at *; omega)] at hQ; exact hQ) | (rw [bI_f (by simp only [inb, Int32.lt_iff_toInt_lt, Int32.le_iff_toInt_le] at *; simp at *; omega)] at hQ; exact hQ)
    · (try rw [nI_leI (by omega) (by omega)] at hc9)
      refine v_iconst (v := nI 1) dX0_hasMask_12 (by decide) ?_
      refine v_goto (tgt := 17) dX0_hasMask_13 (by decide) ?_
      refine v_zret dX0_hasMask_17 (by first | rfl | exact bI_n _) rfl rfl rfl rfl ?_
      first | (rw [bI_t (by simp only [inb, Int32.lt_iff_toInt_lt, Int32.le_iff_toInt_le] at *; simp at *; omega)] at hQ; exact hQ) | (rw [bI_f (by simp only [inb, Int32.lt_iff_toInt_lt, Int32.le_iff_toInt_le] at *; simp at *; omega)] at hQ; exact hQ)
theorem c_X0_hasPerson {x : Int32} (hB : SH B = .inl 0) (hF : BkI I B F) (hQ : Q (some (.int (bI (inb x (F 3))))) SH I L R) : KK 0 mX0_hasPerson b ad [.ref (b + B), .int x] I L R Q := by
  refine K.of (M := mX0_hasPerson) (lv := [some (.ref (b + B)), some (.int x)]) (by decide) (Nat.le_of_ble_eq_true rfl) rfl ?_
  refine v_iload_1 dX0_hasPerson_0 ?_
  refine v_if_lt (tgt := 16) dX0_hasPerson_1 (by decide) (fun hc1 => ?_) (fun hc1 => ?_)
  · (first | rw [show (0 : Int32) = nI 0 from rfl, nI_ltI (by omega) (by omega)] at hc1 | rw [show (0 : Int32) = nI 0 from rfl, nI_leI (by omega) (by omega)] at hc1 | skip)
    refine v_iconst (v := nI 0) dX0_hasPerson_16 (by decide) ?_
    refine v_zret dX0_hasPerson_17 (by first | rfl | exact bI_n _) rfl rfl rfl rfl ?_
    first | (rw [bI_t (by simp only [inb, Int32.lt_iff_toInt_lt, Int32.le_iff_toInt_le] at *; simp at *; omega)] at hQ; exact hQ) | (rw [bI_f (by simp only [inb, Int32.lt_iff_toInt_lt, Int32.le_iff_toInt_le] at *; simp at *; omega)] at hQ; exact hQ)
  · (first | rw [show (0 : Int32) = nI 0 from rfl, nI_ltI (by omega) (by omega)] at hc1 | rw [show (0 : Int32) = nI 0 from rfl, nI_leI (by omega) (by omega)] at hc1 | skip)
    refine v_iload_1 dX0_hasPerson_4 ?_
    refine v_aload_0 dX0_hasPerson_5 ?_
    refine u_getI dX0_hasPerson_6 gf_X0_66 (by first | assumption | rfl | exact led_1 (by assumption) | exact led_2 (by assumption) | exact bk_m (by assumption) (by first | assumption | omega) | exact bk_p (by assumption) (by first | assumption | omega) | exact bk_o (by assumption) (by first | assumption | omega) | exact bk_s (by assumption) (by first | assumption | omega) | exact bk_1 (by assumption) | exact bk_2 (by assumption) | exact bk_3 (by assumption) | exact bk_4 (by assumption) | exact bk_5 (by assumption) | exact bk_6 (by assumption) | exact bk_7 (by assumption) | exact bk_8 (by assumption) | exact sh_ring _ (by first | assumption | omega) | exact sh_imgs _ (by first | assumption | omega)) ?_
    (try rw [bx3 hF])
    refine v_icmp_ge (tgt := 16) dX0_hasPerson_9 (by decide) (fun hc9 => ?_) (fun hc9 => ?_)
    · (try rw [nI_leI (by omega) (by omega)] at hc9)
      refine v_iconst (v := nI 0) dX0_hasPerson_16 (by decide) ?_
      refine v_zret dX0_hasPerson_17 (by first | rfl | exact bI_n _) rfl rfl rfl rfl ?_
      first | (rw [bI_t (by simp only [inb, Int32.lt_iff_toInt_lt, Int32.le_iff_toInt_le] at *; simp at *; omega)] at hQ; exact hQ) | (rw [bI_f (by simp only [inb, Int32.lt_iff_toInt_lt, Int32.le_iff_toInt_le] at *; simp at *; omega)] at hQ; exact hQ)
    · (try rw [nI_leI (by omega) (by omega)] at hc9)
      refine v_iconst (v := nI 1) dX0_hasPerson_12 (by decide) ?_
      refine v_goto (tgt := 17) dX0_hasPerson_13 (by decide) ?_
      refine v_zret dX0_hasPerson_17 (by first | rfl | exact bI_n _) rfl rfl rfl rfl ?_
      first | (rw [bI_t (by simp only [inb, Int32.lt_iff_toInt_lt, Int32.le_iff_toInt_le] at *; simp at *; omega)] at hQ; exact hQ) | (rw [bI_f (by simp only [inb, Int32.lt_iff_toInt_lt, Int32.le_iff_toInt_le] at *; simp at *; omega)] at hQ; exact hQ)
theorem c_X0_hasPromise {x : Int32} (hB : SH B = .inl 0) (hF : BkI I B F) (hQ : Q (some (.int (bI (inb x (F 4))))) SH I L R) : KK 0 mX0_hasPromise b ad [.ref (b + B), .int x] I L R Q := by
  refine K.of (M := mX0_hasPromise) (lv := [some (.ref (b + B)), some (.int x)]) (by decide) (Nat.le_of_ble_eq_true rfl) rfl ?_
  refine v_iload_1 dX0_hasPromise_0 ?_
  refine v_if_lt (tgt := 16) dX0_hasPromise_1 (by decide) (fun hc1 => ?_) (fun hc1 => ?_)
  · (first | rw [show (0 : Int32) = nI 0 from rfl, nI_ltI (by omega) (by omega)] at hc1 | rw [show (0 : Int32) = nI 0 from rfl, nI_leI (by omega) (by omega)] at hc1 | skip)
    refine v_iconst (v := nI 0) dX0_hasPromise_16 (by decide) ?_
    refine v_zret dX0_hasPromise_17 (by first | rfl | exact bI_n _) rfl rfl rfl rfl ?_
    first | (rw [bI_t (by simp only [inb, Int32.lt_iff_toInt_lt, Int32.le_iff_toInt_le] at *; simp at *; omega)] at hQ; exact hQ) | (rw [bI_f (by simp only [inb, Int32.lt_iff_toInt_lt, Int32.le_iff_toInt_le] at *; simp at *; omega)] at hQ; exact hQ)
  · (first | rw [show (0 : Int32) = nI 0 from rfl, nI_ltI (by omega) (by omega)] at hc1 | rw [show (0 : Int32) = nI 0 from rfl, nI_leI (by omega) (by omega)] at hc1 | skip)
    refine v_iload_1 dX0_hasPromise_4 ?_
    refine v_aload_0 dX0_hasPromise_5 ?_
    refine u_getI dX0_hasPromise_6 gf_X0_69 (by first | assumption | rfl | exact led_1 (by assumption) | exact led_2 (by assumption) | exact bk_m (by assumption) (by first | assumption | omega) | exact bk_p (by assumption) (by first | assumption | omega) | exact bk_o (by assumption) (by first | assumption | omega) | exact bk_s (by assumption) (by first | assumption | omega) | exact bk_1 (by assumption) | exact bk_2 (by assumption) | exact bk_3 (by assumption) | exact bk_4 (by assumption) | exact bk_5 (by assumption) | exact bk_6 (by assumption) | exact bk_7 (by assumption) | exact bk_8 (by assumption) | exact sh_ring _ (by first | assumption | omega) | exact sh_imgs _ (by first | assumption | omega)) ?_
    (try rw [bx4 hF])
    refine v_icmp_ge (tgt := 16) dX0_hasPromise_9 (by decide) (fun hc9 => ?_) (fun hc9 => ?_)
    · (try rw [nI_leI (by omega) (by omega)] at hc9)
      refine v_iconst (v := nI 0) dX0_hasPromise_16 (by decide) ?_
      refine v_zret dX0_hasPromise_17 (by first | rfl | exact bI_n _) rfl rfl rfl rfl ?_
      first | (rw [bI_t (by simp only [inb, Int32.lt_iff_toInt_lt, Int32.le_iff_toInt_le] at *; simp at *; omega)] at hQ; exact hQ) | (rw [bI_f (by simp only [inb, Int32.lt_iff_toInt_lt, Int32.le_iff_toInt_le] at *; simp at *; omega)] at hQ; exact hQ)
    · (try rw [nI_leI (by omega) (by omega)] at hc9)
      refine v_iconst (v := nI 1) dX0_hasPromise_12 (by decide) ?_
      refine v_goto (tgt := 17) dX0_hasPromise_13 (by decide) ?_
      refine v_zret dX0_hasPromise_17 (by first | rfl | exact bI_n _) rfl rfl rfl rfl ?_
      first | (rw [bI_t (by simp only [inb, Int32.lt_iff_toInt_lt, Int32.le_iff_toInt_le] at *; simp at *; omega)] at hQ; exact hQ) | (rw [bI_f (by simp only [inb, Int32.lt_iff_toInt_lt, Int32.le_iff_toInt_le] at *; simp at *; omega)] at hQ; exact hQ)
theorem c_X0_hasSighting {x : Int32} (hB : SH B = .inl 0) (hF : BkI I B F) (hQ : Q (some (.int (bI (inb x (F 5))))) SH I L R) : KK 0 mX0_hasSighting b ad [.ref (b + B), .int x] I L R Q := by
  refine K.of (M := mX0_hasSighting) (lv := [some (.ref (b + B)), some (.int x)]) (by decide) (Nat.le_of_ble_eq_true rfl) rfl ?_
  refine v_iload_1 dX0_hasSighting_0 ?_
  refine v_if_lt (tgt := 16) dX0_hasSighting_1 (by decide) (fun hc1 => ?_) (fun hc1 => ?_)
  · (first | rw [show (0 : Int32) = nI 0 from rfl, nI_ltI (by omega) (by omega)] at hc1 | rw [show (0 : Int32) = nI 0 from rfl, nI_leI (by omega) (by omega)] at hc1 | skip)
    refine v_iconst (v := nI 0) dX0_hasSighting_16 (by decide) ?_
    refine v_zret dX0_hasSighting_17 (by first | rfl | exact bI_n _) rfl rfl rfl rfl ?_
    first | (rw [bI_t (by simp only [inb, Int32.lt_iff_toInt_lt, Int32.le_iff_toInt_le] at *; simp at *; omega)] at hQ; exact hQ) | (rw [bI_f (by simp only [inb, Int32.lt_iff_toInt_lt, Int32.le_iff_toInt_le] at *; simp at *; omega)] at hQ; exact hQ)
  · (first | rw [show (0 : Int32) = nI 0 from rfl, nI_ltI (by omega) (by omega)] at hc1 | rw [show (0 : Int32) = nI 0 from rfl, nI_leI (by omega) (by omega)] at hc1 | skip)
    refine v_iload_1 dX0_hasSighting_4 ?_
    refine v_aload_0 dX0_hasSighting_5 ?_
    refine u_getI dX0_hasSighting_6 gf_X0_72 (by first | assumption | rfl | exact led_1 (by assumption) | exact led_2 (by assumption) | exact bk_m (by assumption) (by first | assumption | omega) | exact bk_p (by assumption) (by first | assumption | omega) | exact bk_o (by assumption) (by first | assumption | omega) | exact bk_s (by assumption) (by first | assumption | omega) | exact bk_1 (by assumption) | exact bk_2 (by assumption) | exact bk_3 (by assumption) | exact bk_4 (by assumption) | exact bk_5 (by assumption) | exact bk_6 (by assumption) | exact bk_7 (by assumption) | exact bk_8 (by assumption) | exact sh_ring _ (by first | assumption | omega) | exact sh_imgs _ (by first | assumption | omega)) ?_
    (try rw [bx5 hF])
    refine v_icmp_ge (tgt := 16) dX0_hasSighting_9 (by decide) (fun hc9 => ?_) (fun hc9 => ?_)
    · (try rw [nI_leI (by omega) (by omega)] at hc9)
      refine v_iconst (v := nI 0) dX0_hasSighting_16 (by decide) ?_
      refine v_zret dX0_hasSighting_17 (by first | rfl | exact bI_n _) rfl rfl rfl rfl ?_
      first | (rw [bI_t (by simp only [inb, Int32.lt_iff_toInt_lt, Int32.le_iff_toInt_le] at *; simp at *; omega)] at hQ; exact hQ) | (rw [bI_f (by simp only [inb, Int32.lt_iff_toInt_lt, Int32.le_iff_toInt_le] at *; simp at *; omega)] at hQ; exact hQ)
    · (try rw [nI_leI (by omega) (by omega)] at hc9)
      refine v_iconst (v := nI 1) dX0_hasSighting_12 (by decide) ?_
      refine v_goto (tgt := 17) dX0_hasSighting_13 (by decide) ?_
      refine v_zret dX0_hasSighting_17 (by first | rfl | exact bI_n _) rfl rfl rfl rfl ?_
      first | (rw [bI_t (by simp only [inb, Int32.lt_iff_toInt_lt, Int32.le_iff_toInt_le] at *; simp at *; omega)] at hQ; exact hQ) | (rw [bI_f (by simp only [inb, Int32.lt_iff_toInt_lt, Int32.le_iff_toInt_le] at *; simp at *; omega)] at hQ; exact hQ)
theorem c_X0_hasDay {x : Int32} (hB : SH B = .inl 0) (hF : BkI I B F) (hQ : Q (some (.int (bI (ind x (F 0))))) SH I L R) : KK 0 mX0_hasDay b ad [.ref (b + B), .int x] I L R Q := by
  refine K.of (M := mX0_hasDay) (lv := [some (.ref (b + B)), some (.int x)]) (by decide) (Nat.le_of_ble_eq_true rfl) rfl ?_
  refine v_iload_1 dX0_hasDay_0 ?_
  refine v_iconst (v := nI 1) dX0_hasDay_1 (by decide) ?_
  refine v_icmp_lt (tgt := 17) dX0_hasDay_2 (by decide) (fun hc2 => ?_) (fun hc2 => ?_)
  · (try rw [nI_ltI (by omega) (by omega)] at hc2)
    refine v_iconst (v := nI 0) dX0_hasDay_17 (by decide) ?_
    refine v_zret dX0_hasDay_18 (by first | rfl | exact bI_n _) rfl rfl rfl rfl ?_
    first | (rw [bI_t (by simp only [ind, Int32.lt_iff_toInt_lt, Int32.le_iff_toInt_le] at *; simp at *; omega)] at hQ; exact hQ) | (rw [bI_f (by simp only [ind, Int32.lt_iff_toInt_lt, Int32.le_iff_toInt_le] at *; simp at *; omega)] at hQ; exact hQ)
  · (try rw [nI_ltI (by omega) (by omega)] at hc2)
    refine v_iload_1 dX0_hasDay_5 ?_
    refine v_aload_0 dX0_hasDay_6 ?_
    refine u_getI dX0_hasDay_7 gf_X0_56 (by first | assumption | rfl | exact led_1 (by assumption) | exact led_2 (by assumption) | exact bk_m (by assumption) (by first | assumption | omega) | exact bk_p (by assumption) (by first | assumption | omega) | exact bk_o (by assumption) (by first | assumption | omega) | exact bk_s (by assumption) (by first | assumption | omega) | exact bk_1 (by assumption) | exact bk_2 (by assumption) | exact bk_3 (by assumption) | exact bk_4 (by assumption) | exact bk_5 (by assumption) | exact bk_6 (by assumption) | exact bk_7 (by assumption) | exact bk_8 (by assumption) | exact sh_ring _ (by first | assumption | omega) | exact sh_imgs _ (by first | assumption | omega)) ?_
    (try rw [bx0 hF])
    refine v_icmp_gt (tgt := 17) dX0_hasDay_10 (by decide) (fun hc10 => ?_) (fun hc10 => ?_)
    · (try rw [nI_ltI (by omega) (by omega)] at hc10)
      refine v_iconst (v := nI 0) dX0_hasDay_17 (by decide) ?_
      refine v_zret dX0_hasDay_18 (by first | rfl | exact bI_n _) rfl rfl rfl rfl ?_
      first | (rw [bI_t (by simp only [ind, Int32.lt_iff_toInt_lt, Int32.le_iff_toInt_le] at *; simp at *; omega)] at hQ; exact hQ) | (rw [bI_f (by simp only [ind, Int32.lt_iff_toInt_lt, Int32.le_iff_toInt_le] at *; simp at *; omega)] at hQ; exact hQ)
    · (try rw [nI_ltI (by omega) (by omega)] at hc10)
      refine v_iconst (v := nI 1) dX0_hasDay_13 (by decide) ?_
      refine v_goto (tgt := 18) dX0_hasDay_14 (by decide) ?_
      refine v_zret dX0_hasDay_18 (by first | rfl | exact bI_n _) rfl rfl rfl rfl ?_
      first | (rw [bI_t (by simp only [ind, Int32.lt_iff_toInt_lt, Int32.le_iff_toInt_le] at *; simp at *; omega)] at hQ; exact hQ) | (rw [bI_f (by simp only [ind, Int32.lt_iff_toInt_lt, Int32.le_iff_toInt_le] at *; simp at *; omega)] at hQ; exact hQ)
theorem c_X0_hasDayOrNone {x : Int32} (hB : SH B = .inl 0) (hF : BkI I B F) (hQ : Q (some (.int (bI (indn x (F 0))))) SH I L R) : KK 0 mX0_hasDayOrNone b ad [.ref (b + B), .int x] I L R Q := by
  refine K.of (M := mX0_hasDayOrNone) (lv := [some (.ref (b + B)), some (.int x)]) (by decide) (Nat.le_of_ble_eq_true rfl) rfl ?_
  refine v_iload_1 dX0_hasDayOrNone_0 ?_
  refine v_if_lt (tgt := 16) dX0_hasDayOrNone_1 (by decide) (fun hc1 => ?_) (fun hc1 => ?_)
  · (first | rw [show (0 : Int32) = nI 0 from rfl, nI_ltI (by omega) (by omega)] at hc1 | rw [show (0 : Int32) = nI 0 from rfl, nI_leI (by omega) (by omega)] at hc1 | skip)
    refine v_iconst (v := nI 0) dX0_hasDayOrNone_16 (by decide) ?_
    refine v_zret dX0_hasDayOrNone_17 (by first | rfl | exact bI_n _) rfl rfl rfl rfl ?_
    first | (rw [bI_t (by simp only [indn, Int32.lt_iff_toInt_lt, Int32.le_iff_toInt_le] at *; simp at *; omega)] at hQ; exact hQ) | (rw [bI_f (by simp only [indn, Int32.lt_iff_toInt_lt, Int32.le_iff_toInt_le] at *; simp at *; omega)] at hQ; exact hQ)
  · (first | rw [show (0 : Int32) = nI 0 from rfl, nI_ltI (by omega) (by omega)] at hc1 | rw [show (0 : Int32) = nI 0 from rfl, nI_leI (by omega) (by omega)] at hc1 | skip)
    refine v_iload_1 dX0_hasDayOrNone_4 ?_
    refine v_aload_0 dX0_hasDayOrNone_5 ?_
    refine u_getI dX0_hasDayOrNone_6 gf_X0_56 (by first | assumption | rfl | exact led_1 (by assumption) | exact led_2 (by assumption) | exact bk_m (by assumption) (by first | assumption | omega) | exact bk_p (by assumption) (by first | assumption | omega) | exact bk_o (by assumption) (by first | assumption | omega) | exact bk_s (by assumption) (by first | assumption | omega) | exact bk_1 (by assumption) | exact bk_2 (by assumption) | exact bk_3 (by assumption) | exact bk_4 (by assumption) | exact bk_5 (by assumption) | exact bk_6 (by assumption) | exact bk_7 (by assumption) | exact bk_8 (by assumption) | exact sh_ring _ (by first | assumption | omega) | exact sh_imgs _ (by first | assumption | omega)) ?_
    (try rw [bx0 hF])
    refine v_icmp_gt (tgt := 16) dX0_hasDayOrNone_9 (by decide) (fun hc9 => ?_) (fun hc9 => ?_)
    · (try rw [nI_ltI (by omega) (by omega)] at hc9)
      refine v_iconst (v := nI 0) dX0_hasDayOrNone_16 (by decide) ?_
      refine v_zret dX0_hasDayOrNone_17 (by first | rfl | exact bI_n _) rfl rfl rfl rfl ?_
      first | (rw [bI_t (by simp only [indn, Int32.lt_iff_toInt_lt, Int32.le_iff_toInt_le] at *; simp at *; omega)] at hQ; exact hQ) | (rw [bI_f (by simp only [indn, Int32.lt_iff_toInt_lt, Int32.le_iff_toInt_le] at *; simp at *; omega)] at hQ; exact hQ)
    · (try rw [nI_ltI (by omega) (by omega)] at hc9)
      refine v_iconst (v := nI 1) dX0_hasDayOrNone_12 (by decide) ?_
      refine v_goto (tgt := 17) dX0_hasDayOrNone_13 (by decide) ?_
      refine v_zret dX0_hasDayOrNone_17 (by first | rfl | exact bI_n _) rfl rfl rfl rfl ?_
      first | (rw [bI_t (by simp only [indn, Int32.lt_iff_toInt_lt, Int32.le_iff_toInt_le] at *; simp at *; omega)] at hQ; exact hQ) | (rw [bI_f (by simp only [indn, Int32.lt_iff_toInt_lt, Int32.le_iff_toInt_le] at *; simp at *; omega)] at hQ; exact hQ)
theorem c_X0_hasDays {x z : Int32} (hB : SH B = .inl 0) (hF : BkI I B F) (hQ : Q (some (.int (bI (ind x (F 0) && ind z (F 0) && decide (x ≤ z))))) SH I L R) : KK 1 mX0_hasDays b ad [.ref (b + B), .int x, .int z] I L R Q := by
  refine K.of (M := mX0_hasDays) (lv := [some (.ref (b + B)), some (.int x), some (.int z)]) (by decide) (Nat.le_of_ble_eq_true rfl) rfl ?_
  refine v_aload_0 dX0_hasDays_0 ?_
  refine v_iload_1 dX0_hasDays_1 ?_
  refine u_callV_1 dX0_hasDays_2 ml_X0_81 mv_X0_hasDay (by first | assumption | rfl | exact led_1 (by assumption) | exact led_2 (by assumption) | exact bk_m (by assumption) (by first | assumption | omega) | exact bk_p (by assumption) (by first | assumption | omega) | exact bk_o (by assumption) (by first | assumption | omega) | exact bk_s (by assumption) (by first | assumption | omega) | exact bk_1 (by assumption) | exact bk_2 (by assumption) | exact bk_3 (by assumption) | exact bk_4 (by assumption) | exact bk_5 (by assumption) | exact bk_6 (by assumption) | exact bk_7 (by assumption) | exact bk_8 (by assumption) | exact sh_ring _ (by first | assumption | omega) | exact sh_imgs _ (by first | assumption | omega)) (by decide) rfl (by decide) (Nat.le_of_ble_eq_true rfl) (c_X0_hasDay hB hF ?_)
  refine v_if_eq (tgt := 25) dX0_hasDays_5 (by decide) (fun hc5 => ?_) (fun hc5 => ?_)
  · (first | rw [bI_0, Bool.not_eq_false] at hc5 | rw [bI_0] at hc5 | rw [show (0 : Int32) = nI 0 from rfl, nI_eq (by omega) (by omega)] at hc5 | skip)
    refine v_iconst (v := nI 0) dX0_hasDays_25 (by decide) ?_
    refine v_zret dX0_hasDays_26 (by first | rfl | exact bI_n _) rfl rfl rfl rfl ?_
    first | (rw [bI_t (by simp_all [Int32.not_lt, Int32.not_le])] at hQ; exact hQ) | (rw [bI_f (by simp_all [Int32.not_lt, Int32.not_le])] at hQ; exact hQ)
  · (first | rw [bI_0, Bool.not_eq_false] at hc5 | rw [bI_0] at hc5 | rw [show (0 : Int32) = nI 0 from rfl, nI_eq (by omega) (by omega)] at hc5 | skip)
    refine v_aload_0 dX0_hasDays_8 ?_
    refine v_iload_2 dX0_hasDays_9 ?_
    refine u_callV_1 dX0_hasDays_10 ml_X0_81 mv_X0_hasDay (by first | assumption | rfl | exact led_1 (by assumption) | exact led_2 (by assumption) | exact bk_m (by assumption) (by first | assumption | omega) | exact bk_p (by assumption) (by first | assumption | omega) | exact bk_o (by assumption) (by first | assumption | omega) | exact bk_s (by assumption) (by first | assumption | omega) | exact bk_1 (by assumption) | exact bk_2 (by assumption) | exact bk_3 (by assumption) | exact bk_4 (by assumption) | exact bk_5 (by assumption) | exact bk_6 (by assumption) | exact bk_7 (by assumption) | exact bk_8 (by assumption) | exact sh_ring _ (by first | assumption | omega) | exact sh_imgs _ (by first | assumption | omega)) (by decide) rfl (by decide) (Nat.le_of_ble_eq_true rfl) (c_X0_hasDay hB hF ?_)
    refine v_if_eq (tgt := 25) dX0_hasDays_13 (by decide) (fun hc13 => ?_) (fun hc13 => ?_)
    · (first | rw [bI_0, Bool.not_eq_false] at hc13 | rw [bI_0] at hc13 | rw [show (0 : Int32) = nI 0 from rfl, nI_eq (by omega) (by omega)] at hc13 | skip)
      refine v_iconst (v := nI 0) dX0_hasDays_25 (by decide) ?_
      refine v_zret dX0_hasDays_26 (by first | rfl | exact bI_n _) rfl rfl rfl rfl ?_
      first | (rw [bI_t (by simp_all [Int32.not_lt, Int32.not_le])] at hQ; exact hQ) | (rw [bI_f (by simp_all [Int32.not_lt, Int32.not_le])] at hQ; exact hQ)
    · (first | rw [bI_0, Bool.not_eq_false] at hc13 | rw [bI_0] at hc13 | rw [show (0 : Int32) = nI 0 from rfl, nI_eq (by omega) (by omega)] at hc13 | skip)
      refine v_iload_1 dX0_hasDays_16 ?_
      refine v_iload_2 dX0_hasDays_17 ?_
      refine v_icmp_gt (tgt := 25) dX0_hasDays_18 (by decide) (fun hc18 => ?_) (fun hc18 => ?_)
      · (try rw [nI_ltI (by omega) (by omega)] at hc18)
        refine v_iconst (v := nI 0) dX0_hasDays_25 (by decide) ?_
        refine v_zret dX0_hasDays_26 (by first | rfl | exact bI_n _) rfl rfl rfl rfl ?_
        first | (rw [bI_t (by simp_all [Int32.not_lt, Int32.not_le])] at hQ; exact hQ) | (rw [bI_f (by simp_all [Int32.not_lt, Int32.not_le])] at hQ; exact hQ)
      · (try rw [nI_ltI (by omega) (by omega)] at hc18)
        refine v_iconst (v := nI 1) dX0_hasDays_21 (by decide) ?_
        refine v_goto (tgt := 26) dX0_hasDays_22 (by decide) ?_
        refine v_zret dX0_hasDays_26 (by first | rfl | exact bI_n _) rfl rfl rfl rfl ?_
        first | (rw [bI_t (by simp_all [Int32.not_lt, Int32.not_le])] at hQ; exact hQ) | (rw [bI_f (by simp_all [Int32.not_lt, Int32.not_le])] at hQ; exact hQ)
theorem c_X0_isTold (hB : SH B = .inl 0) (hF : BkI I B F) (hO : FOK F) (hQ : Q (some (.int (bI (decide (0 < F 0))))) SH I L R) : KK 0 mX0_isTold b ad [.ref (b + B)] I L R Q := by
  obtain ⟨k0, k1, k2, k3, k4, k5, k6, -⟩ := id hO
  refine K.of (M := mX0_isTold) (lv := [some (.ref (b + B))]) (by decide) (Nat.le_of_ble_eq_true rfl) rfl ?_
  refine v_aload_0 dX0_isTold_0 ?_
  refine u_getI dX0_isTold_1 gf_X0_56 (by first | assumption | rfl | exact led_1 (by assumption) | exact led_2 (by assumption) | exact bk_m (by assumption) (by first | assumption | omega) | exact bk_p (by assumption) (by first | assumption | omega) | exact bk_o (by assumption) (by first | assumption | omega) | exact bk_s (by assumption) (by first | assumption | omega) | exact bk_1 (by assumption) | exact bk_2 (by assumption) | exact bk_3 (by assumption) | exact bk_4 (by assumption) | exact bk_5 (by assumption) | exact bk_6 (by assumption) | exact bk_7 (by assumption) | exact bk_8 (by assumption) | exact sh_ring _ (by first | assumption | omega) | exact sh_imgs _ (by first | assumption | omega)) ?_
  (try rw [bx0 hF])
  refine v_if_le (tgt := 11) dX0_isTold_4 (by decide) (fun hc4 => ?_) (fun hc4 => ?_)
  · (first | rw [show (0 : Int32) = nI 0 from rfl, nI_ltI (by omega) (by omega)] at hc4 | rw [show (0 : Int32) = nI 0 from rfl, nI_leI (by omega) (by omega)] at hc4 | skip)
    refine v_iconst (v := nI 0) dX0_isTold_11 (by decide) ?_
    refine v_zret dX0_isTold_12 (by first | rfl | exact bI_n _) rfl rfl rfl rfl ?_
    first | (rw [bI_t (by simp; omega)] at hQ; exact hQ) | (rw [bI_f (by simp; omega)] at hQ; exact hQ)
  · (first | rw [show (0 : Int32) = nI 0 from rfl, nI_ltI (by omega) (by omega)] at hc4 | rw [show (0 : Int32) = nI 0 from rfl, nI_leI (by omega) (by omega)] at hc4 | skip)
    refine v_iconst (v := nI 1) dX0_isTold_7 (by decide) ?_
    refine v_goto (tgt := 12) dX0_isTold_8 (by decide) ?_
    refine v_zret dX0_isTold_12 (by first | rfl | exact bI_n _) rfl rfl rfl rfl ?_
    first | (rw [bI_t (by simp; omega)] at hQ; exact hQ) | (rw [bI_f (by simp; omega)] at hQ; exact hQ)
theorem c_X0_canLend {m p f u : Nat} (hR : RO R) (hB : SH B = .inl 0) (hF : BkI I B F) (hO : FOK F) (ha : SH a = .inl 2) (hL : LedI I a n g) (hm : m < F 2) (hp : p < F 3) (hf : f < 2 ^ 31) (hu : u < 2 ^ 31) (hQ : Q (some (.int (bI (fitF F m p && (fup (hitm g m f u) 0 n).isNone && (fup (hitp g p f u) 0 n).isNone)))) SH I L R) : KK 3 mX0_canLend b ad [.ref (b + B), .int (nI m), .int (nI p), .int (nI f), .int (nI u), .ref (b + a)] I L R Q := by
  obtain ⟨k0, k1, k2, k3, k4, k5, k6, -⟩ := id hO
  refine K.of (M := mX0_canLend) (lv := [some (.ref (b + B)), some (.int (nI m)), some (.int (nI p)), some (.int (nI f)), some (.int (nI u)), some (.ref (b + a))]) (by decide) (Nat.le_of_ble_eq_true rfl) rfl ?_
  refine v_aload_0 dX0_canLend_0 ?_
  refine v_iload_1 dX0_canLend_1 ?_
  refine v_iload_2 dX0_canLend_2 ?_
  refine u_callV_2 dX0_canLend_3 ml_X0_89 mv_X0_suits (by first | assumption | rfl | exact led_1 (by assumption) | exact led_2 (by assumption) | exact bk_m (by assumption) (by first | assumption | omega) | exact bk_p (by assumption) (by first | assumption | omega) | exact bk_o (by assumption) (by first | assumption | omega) | exact bk_s (by assumption) (by first | assumption | omega) | exact bk_1 (by assumption) | exact bk_2 (by assumption) | exact bk_3 (by assumption) | exact bk_4 (by assumption) | exact bk_5 (by assumption) | exact bk_6 (by assumption) | exact bk_7 (by assumption) | exact bk_8 (by assumption) | exact sh_ring _ (by first | assumption | omega) | exact sh_imgs _ (by first | assumption | omega)) (by decide) rfl (by decide) (Nat.le_of_ble_eq_true rfl) (c_X0_suits hR hB hF hO hm hp ?_)
  refine v_if_eq (tgt := 37) dX0_canLend_6 (by decide) (fun hc6 => ?_) (fun hc6 => ?_)
  · (first | rw [bI_0, Bool.not_eq_false] at hc6 | rw [bI_0] at hc6 | rw [show (0 : Int32) = nI 0 from rfl, nI_eq (by omega) (by omega)] at hc6 | skip)
    refine v_iconst (v := nI 0) dX0_canLend_37 (by decide) ?_
    refine v_zret dX0_canLend_38 (by first | rfl | exact bI_n _) rfl rfl rfl rfl ?_
    first | (rw [bI_t (by simp_all; done)] at hQ; exact hQ) | (rw [bI_f (by simp only [hc30, Bool.and_false]; done)] at hQ; exact hQ) | (rw [bI_f (by simp only [hc18, Bool.and_false, Bool.false_and]; done)] at hQ; exact hQ) | (rw [bI_f (by simp only [hc6, Bool.false_and]; done)] at hQ; exact hQ)
  · (first | rw [bI_0, Bool.not_eq_false] at hc6 | rw [bI_0] at hc6 | rw [show (0 : Int32) = nI 0 from rfl, nI_eq (by omega) (by omega)] at hc6 | skip)
    refine v_aload_5 dX0_canLend_9 ?_
    refine v_iload_1 dX0_canLend_11 ?_
    refine v_iload_3 dX0_canLend_12 ?_
    refine v_iload_4 dX0_canLend_13 ?_
    refine u_callV_3 dX0_canLend_15 ml_X0_92 mv_X2_isOnPeg (by first | assumption | rfl | exact led_1 (by assumption) | exact led_2 (by assumption) | exact bk_m (by assumption) (by first | assumption | omega) | exact bk_p (by assumption) (by first | assumption | omega) | exact bk_o (by assumption) (by first | assumption | omega) | exact bk_s (by assumption) (by first | assumption | omega) | exact bk_1 (by assumption) | exact bk_2 (by assumption) | exact bk_3 (by assumption) | exact bk_4 (by assumption) | exact bk_5 (by assumption) | exact bk_6 (by assumption) | exact bk_7 (by assumption) | exact bk_8 (by assumption) | exact sh_ring _ (by first | assumption | omega) | exact sh_imgs _ (by first | assumption | omega)) (by decide) rfl (by decide) (Nat.le_of_ble_eq_true rfl) (c_X2_isOnPeg hR ha hL (by omega) hf hu ?_)
    refine v_if_eq (tgt := 37) dX0_canLend_18 (by decide) (fun hc18 => ?_) (fun hc18 => ?_)
    · (first | rw [bI_0, Bool.not_eq_false] at hc18 | rw [bI_0] at hc18 | rw [show (0 : Int32) = nI 0 from rfl, nI_eq (by omega) (by omega)] at hc18 | skip)
      refine v_iconst (v := nI 0) dX0_canLend_37 (by decide) ?_
      refine v_zret dX0_canLend_38 (by first | rfl | exact bI_n _) rfl rfl rfl rfl ?_
      first | (rw [bI_t (by simp_all; done)] at hQ; exact hQ) | (rw [bI_f (by simp only [hc30, Bool.and_false]; done)] at hQ; exact hQ) | (rw [bI_f (by simp only [hc18, Bool.and_false, Bool.false_and]; done)] at hQ; exact hQ) | (rw [bI_f (by simp only [hc6, Bool.false_and]; done)] at hQ; exact hQ)
    · (first | rw [bI_0, Bool.not_eq_false] at hc18 | rw [bI_0] at hc18 | rw [show (0 : Int32) = nI 0 from rfl, nI_eq (by omega) (by omega)] at hc18 | skip)
      refine v_aload_5 dX0_canLend_21 ?_
      refine v_iload_2 dX0_canLend_23 ?_
      refine v_iload_3 dX0_canLend_24 ?_
      refine v_iload_4 dX0_canLend_25 ?_
      refine u_callV_3 dX0_canLend_27 ml_X0_96 mv_X2_isBare (by first | assumption | rfl | exact led_1 (by assumption) | exact led_2 (by assumption) | exact bk_m (by assumption) (by first | assumption | omega) | exact bk_p (by assumption) (by first | assumption | omega) | exact bk_o (by assumption) (by first | assumption | omega) | exact bk_s (by assumption) (by first | assumption | omega) | exact bk_1 (by assumption) | exact bk_2 (by assumption) | exact bk_3 (by assumption) | exact bk_4 (by assumption) | exact bk_5 (by assumption) | exact bk_6 (by assumption) | exact bk_7 (by assumption) | exact bk_8 (by assumption) | exact sh_ring _ (by first | assumption | omega) | exact sh_imgs _ (by first | assumption | omega)) (by decide) rfl (by decide) (Nat.le_of_ble_eq_true rfl) (c_X2_isBare hR ha hL (by omega) hf hu ?_)
      refine v_if_eq (tgt := 37) dX0_canLend_30 (by decide) (fun hc30 => ?_) (fun hc30 => ?_)
      · (first | rw [bI_0, Bool.not_eq_false] at hc30 | rw [bI_0] at hc30 | rw [show (0 : Int32) = nI 0 from rfl, nI_eq (by omega) (by omega)] at hc30 | skip)
        refine v_iconst (v := nI 0) dX0_canLend_37 (by decide) ?_
        refine v_zret dX0_canLend_38 (by first | rfl | exact bI_n _) rfl rfl rfl rfl ?_
        first | (rw [bI_t (by simp_all; done)] at hQ; exact hQ) | (rw [bI_f (by simp only [hc30, Bool.and_false]; done)] at hQ; exact hQ) | (rw [bI_f (by simp only [hc18, Bool.and_false, Bool.false_and]; done)] at hQ; exact hQ) | (rw [bI_f (by simp only [hc6, Bool.false_and]; done)] at hQ; exact hQ)
      · (first | rw [bI_0, Bool.not_eq_false] at hc30 | rw [bI_0] at hc30 | rw [show (0 : Int32) = nI 0 from rfl, nI_eq (by omega) (by omega)] at hc30 | skip)
        refine v_iconst (v := nI 1) dX0_canLend_33 (by decide) ?_
        refine v_goto (tgt := 38) dX0_canLend_34 (by decide) ?_
        refine v_zret dX0_canLend_38 (by first | rfl | exact bI_n _) rfl rfl rfl rfl ?_
        first | (rw [bI_t (by simp_all; done)] at hQ; exact hQ) | (rw [bI_f (by simp only [hc30, Bool.and_false]; done)] at hQ; exact hQ) | (rw [bI_f (by simp only [hc18, Bool.and_false, Bool.false_and]; done)] at hQ; exact hQ) | (rw [bI_f (by simp only [hc6, Bool.false_and]; done)] at hQ; exact hQ)
theorem inb_nI {x m : Nat} (hx : x < 2 ^ 31) (hm : m < 2 ^ 31) : inb (nI x) m = decide (x < m) := by
  simp [inb, nI_ltI hx hm, nI_pos' hx]
theorem inb_m2 (m : Nat) : inb (-2) m = false := by
  have : decide ((0 : Int32) ≤ -2) = false := by decide
  simp [inb, this]
theorem c_X0_couldDo {op : Option Nat} {o : Nat} (hR : RO R) (hB : SH B = .inl 0) (hF : BkI I B F) (hO : FOK F) (hop : ∀ p, op = some p → p < F 3) (ho : o < F 4) (hQ : Q (some (.int (bI (couldV F op o)))) SH I L R) : KK 1 mX0_couldDo b ad [.ref (b + B), .int (eP op), .int (nI o)] I L R Q := by
  obtain ⟨k0, k1, k2, k3, k4, k5, k6, -⟩ := id hO
  obtain ⟨q1, q2, q3, q4, q5, q6, q7⟩ := fk_o hO ho
  cases op with
  | none =>
    refine K.of (M := mX0_couldDo) (lv := [some (.ref (b + B)), some (.int (-2)), some (.int (nI o))]) (by decide) (Nat.le_of_ble_eq_true rfl) rfl ?_
    refine v_aload_0 dX0_couldDo_0 ?_
    refine v_iload_1 dX0_couldDo_1 ?_
    refine u_callV_1 dX0_couldDo_2 ml_X0_99 mv_X0_hasPerson (by first | assumption | rfl | exact led_1 (by assumption) | exact led_2 (by assumption) | exact bk_m (by assumption) (by first | assumption | omega) | exact bk_p (by assumption) (by first | assumption | omega) | exact bk_o (by assumption) (by first | assumption | omega) | exact bk_s (by assumption) (by first | assumption | omega) | exact bk_1 (by assumption) | exact bk_2 (by assumption) | exact bk_3 (by assumption) | exact bk_4 (by assumption) | exact bk_5 (by assumption) | exact bk_6 (by assumption) | exact bk_7 (by assumption) | exact bk_8 (by assumption) | exact sh_ring _ (by first | assumption | omega) | exact sh_imgs _ (by first | assumption | omega)) (by decide) rfl (by decide) (Nat.le_of_ble_eq_true rfl) (c_X0_hasPerson hB hF ?_)
    refine v_if_eq (tgt := 33) dX0_couldDo_5 (by decide) (fun hc5 => ?_) (fun hc5 => ?_)
    · (first | rw [bI_0, Bool.not_eq_false] at hc5 | rw [bI_0] at hc5 | rw [show (0 : Int32) = nI 0 from rfl, nI_eq (by omega) (by omega)] at hc5 | skip)
      refine v_iconst (v := nI 0) dX0_couldDo_33 (by decide) ?_
      refine v_zret dX0_couldDo_34 (by first | rfl | exact bI_n _) rfl rfl rfl rfl ?_
      exact hQ
    · (first | rw [bI_0, Bool.not_eq_false] at hc5 | rw [bI_0] at hc5 | rw [show (0 : Int32) = nI 0 from rfl, nI_eq (by omega) (by omega)] at hc5 | skip)
      rw [inb_m2] at hc5; cases hc5
  | some p =>
    have hp : p < F 3 := hop p rfl
    obtain ⟨r1, r2, r3, r4, r5⟩ := fk_p hO hp
    refine K.of (M := mX0_couldDo) (lv := [some (.ref (b + B)), some (.int (nI p)), some (.int (nI o))]) (by decide) (Nat.le_of_ble_eq_true rfl) rfl ?_
    refine v_aload_0 dX0_couldDo_0 ?_
    refine v_iload_1 dX0_couldDo_1 ?_
    refine u_callV_1 dX0_couldDo_2 ml_X0_99 mv_X0_hasPerson (by first | assumption | rfl | exact led_1 (by assumption) | exact led_2 (by assumption) | exact bk_m (by assumption) (by first | assumption | omega) | exact bk_p (by assumption) (by first | assumption | omega) | exact bk_o (by assumption) (by first | assumption | omega) | exact bk_s (by assumption) (by first | assumption | omega) | exact bk_1 (by assumption) | exact bk_2 (by assumption) | exact bk_3 (by assumption) | exact bk_4 (by assumption) | exact bk_5 (by assumption) | exact bk_6 (by assumption) | exact bk_7 (by assumption) | exact bk_8 (by assumption) | exact sh_ring _ (by first | assumption | omega) | exact sh_imgs _ (by first | assumption | omega)) (by decide) rfl (by decide) (Nat.le_of_ble_eq_true rfl) (c_X0_hasPerson hB hF ?_)
    refine v_if_eq (tgt := 33) dX0_couldDo_5 (by decide) (fun hc5 => ?_) (fun hc5 => ?_)
    · (first | rw [bI_0, Bool.not_eq_false] at hc5 | rw [bI_0] at hc5 | rw [show (0 : Int32) = nI 0 from rfl, nI_eq (by omega) (by omega)] at hc5 | skip)
      first | exact absurd hc5 (by rw [inb_nI (by omega) (by omega)]; simp; omega) | (refine v_iconst (v := nI 0) dX0_couldDo_33 (by decide) ?_; refine v_zret dX0_couldDo_34 (by first | rfl | exact bI_n _) rfl rfl rfl rfl ?_; rw [bI_f (by simp_all [couldV])] at hQ; exact hQ)
    · (first | rw [bI_0, Bool.not_eq_false] at hc5 | rw [bI_0] at hc5 | rw [show (0 : Int32) = nI 0 from rfl, nI_eq (by omega) (by omega)] at hc5 | skip)
      refine v_aload_0 dX0_couldDo_8 ?_
      refine u_getR dX0_couldDo_9 gf_X0_19 (by first | assumption | rfl | exact led_1 (by assumption) | exact led_2 (by assumption) | exact bk_m (by assumption) (by first | assumption | omega) | exact bk_p (by assumption) (by first | assumption | omega) | exact bk_o (by assumption) (by first | assumption | omega) | exact bk_s (by assumption) (by first | assumption | omega) | exact bk_1 (by assumption) | exact bk_2 (by assumption) | exact bk_3 (by assumption) | exact bk_4 (by assumption) | exact bk_5 (by assumption) | exact bk_6 (by assumption) | exact bk_7 (by assumption) | exact bk_8 (by assumption) | exact sh_ring _ (by first | assumption | omega) | exact sh_imgs _ (by first | assumption | omega)) (ro_X0_8 (by assumption) (by assumption)) ?_
      refine v_iload_1 dX0_couldDo_12 ?_
      refine u_aald dX0_couldDo_13 (by first | assumption | rfl | exact led_1 (by assumption) | exact led_2 (by assumption) | exact bk_m (by assumption) (by first | assumption | omega) | exact bk_p (by assumption) (by first | assumption | omega) | exact bk_o (by assumption) (by first | assumption | omega) | exact bk_s (by assumption) (by first | assumption | omega) | exact bk_1 (by assumption) | exact bk_2 (by assumption) | exact bk_3 (by assumption) | exact bk_4 (by assumption) | exact bk_5 (by assumption) | exact bk_6 (by assumption) | exact bk_7 (by assumption) | exact bk_8 (by assumption) | exact sh_ring _ (by first | assumption | omega) | exact sh_imgs _ (by first | assumption | omega)) (by decide) (by decide) rfl (by first | with_reducible rfl | (simp only [nlit, nI_add, pk_mul]; with_reducible rfl) | rfl) (by first | assumption | omega) (by decide) (by first | exact ro_m (by assumption) (by assumption) (by first | assumption | omega) | exact ro_p (by assumption) (by assumption) (by first | assumption | omega) | exact ro_o (by assumption) (by assumption) (by first | assumption | omega) | exact ro_s (by assumption) (by assumption) (by first | assumption | omega) | exact ro_ring (by assumption) (by first | assumption | omega) | exact ro_imgs (by assumption) (by first | assumption | omega)) ?_
      refine v_aload_0 dX0_couldDo_14 ?_
      refine u_getR dX0_couldDo_15 gf_X0_25 (by first | assumption | rfl | exact led_1 (by assumption) | exact led_2 (by assumption) | exact bk_m (by assumption) (by first | assumption | omega) | exact bk_p (by assumption) (by first | assumption | omega) | exact bk_o (by assumption) (by first | assumption | omega) | exact bk_s (by assumption) (by first | assumption | omega) | exact bk_1 (by assumption) | exact bk_2 (by assumption) | exact bk_3 (by assumption) | exact bk_4 (by assumption) | exact bk_5 (by assumption) | exact bk_6 (by assumption) | exact bk_7 (by assumption) | exact bk_8 (by assumption) | exact sh_ring _ (by first | assumption | omega) | exact sh_imgs _ (by first | assumption | omega)) (ro_X0_9 (by assumption) (by assumption)) ?_
      refine v_iload_2 dX0_couldDo_18 ?_
      refine u_aald dX0_couldDo_19 (by first | assumption | rfl | exact led_1 (by assumption) | exact led_2 (by assumption) | exact bk_m (by assumption) (by first | assumption | omega) | exact bk_p (by assumption) (by first | assumption | omega) | exact bk_o (by assumption) (by first | assumption | omega) | exact bk_s (by assumption) (by first | assumption | omega) | exact bk_1 (by assumption) | exact bk_2 (by assumption) | exact bk_3 (by assumption) | exact bk_4 (by assumption) | exact bk_5 (by assumption) | exact bk_6 (by assumption) | exact bk_7 (by assumption) | exact bk_8 (by assumption) | exact sh_ring _ (by first | assumption | omega) | exact sh_imgs _ (by first | assumption | omega)) (by decide) (by decide) rfl (by first | with_reducible rfl | (simp only [nlit, nI_add, pk_mul]; with_reducible rfl) | rfl) (by first | assumption | omega) (by decide) (by first | exact ro_m (by assumption) (by assumption) (by first | assumption | omega) | exact ro_p (by assumption) (by assumption) (by first | assumption | omega) | exact ro_o (by assumption) (by assumption) (by first | assumption | omega) | exact ro_s (by assumption) (by assumption) (by first | assumption | omega) | exact ro_ring (by assumption) (by first | assumption | omega) | exact ro_imgs (by assumption) (by first | assumption | omega)) ?_
      refine u_getI dX0_couldDo_20 gf_X0_102 (by first | assumption | rfl | exact led_1 (by assumption) | exact led_2 (by assumption) | exact bk_m (by assumption) (by first | assumption | omega) | exact bk_p (by assumption) (by first | assumption | omega) | exact bk_o (by assumption) (by first | assumption | omega) | exact bk_s (by assumption) (by first | assumption | omega) | exact bk_1 (by assumption) | exact bk_2 (by assumption) | exact bk_3 (by assumption) | exact bk_4 (by assumption) | exact bk_5 (by assumption) | exact bk_6 (by assumption) | exact bk_7 (by assumption) | exact bk_8 (by assumption) | exact sh_ring _ (by first | assumption | omega) | exact sh_imgs _ (by first | assumption | omega)) ?_
      (first | (rw [bo1 hF]; rotate_left; (first | assumption | omega)) | skip)
      refine u_callV_1 dX0_couldDo_23 ml_X0_105 mv_X4_knows (by first | assumption | rfl | exact led_1 (by assumption) | exact led_2 (by assumption) | exact bk_m (by assumption) (by first | assumption | omega) | exact bk_p (by assumption) (by first | assumption | omega) | exact bk_o (by assumption) (by first | assumption | omega) | exact bk_s (by assumption) (by first | assumption | omega) | exact bk_1 (by assumption) | exact bk_2 (by assumption) | exact bk_3 (by assumption) | exact bk_4 (by assumption) | exact bk_5 (by assumption) | exact bk_6 (by assumption) | exact bk_7 (by assumption) | exact bk_8 (by assumption) | exact sh_ring _ (by first | assumption | omega) | exact sh_imgs _ (by first | assumption | omega)) (by decide) rfl (by decide) (Nat.le_of_ble_eq_true rfl) (c_X4_knows (bk_p hB (by omega)) (bp4 hF hp) r5 (by omega) ?_)
      refine v_if_eq (tgt := 33) dX0_couldDo_26 (by decide) (fun hc26 => ?_) (fun hc26 => ?_)
      · (first | rw [bI_0, Bool.not_eq_false] at hc26 | rw [bI_0] at hc26 | rw [show (0 : Int32) = nI 0 from rfl, nI_eq (by omega) (by omega)] at hc26 | skip)
        first | exact absurd hc5 (by rw [inb_nI (by omega) (by omega)]; simp; omega) | (refine v_iconst (v := nI 0) dX0_couldDo_33 (by decide) ?_; refine v_zret dX0_couldDo_34 (by first | rfl | exact bI_n _) rfl rfl rfl rfl ?_; rw [bI_f (by simp_all [couldV])] at hQ; exact hQ)
      · (first | rw [bI_0, Bool.not_eq_false] at hc26 | rw [bI_0] at hc26 | rw [show (0 : Int32) = nI 0 from rfl, nI_eq (by omega) (by omega)] at hc26 | skip)
        refine v_iconst (v := nI 1) dX0_couldDo_29 (by decide) ?_
        refine v_goto (tgt := 34) dX0_couldDo_30 (by decide) ?_
        refine v_zret dX0_couldDo_34 (by first | rfl | exact bI_n _) rfl rfl rfl rfl ?_
        rw [bI_t (by simp_all [couldV])] at hQ; exact hQ
end
