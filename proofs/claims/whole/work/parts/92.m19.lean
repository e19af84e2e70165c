section
variable {b : Nat} {ad : Nat → Nat} {I J : HI} {L M : HL} {R : HR} {Q : QT} {F : bkF} {s : LSt} {a o : Nat}
theorem rf_nt {tp : Nat → Nat} {nt tr fa pl : Nat} {S : Nat → LSt} {u r : Nat} {im : Nat → LSt} {ic : Nat} {v w : Int32} (h : RefB I tp nt tr fa pl F S u r im ic) : RefB (ui (ui I 157 28 v) 157 30 w) tp nt tr fa pl F S u r im ic :=
  rf_fr h h.2.1.2.2.2 id (by rw [ui_o (by decide), ui_o (by decide)]; exact h.2.1.1) (fun j hj => by rw [ui_o (by omega), ui_o (by omega)]) (fun x hx => by rw [ui_ne (by omega), ui_ne (by omega)])
theorem tl_nt : TlI (ui (ui I 157 28 (-1)) 157 30 (-1)) 28 none ∧ TlI (ui (ui I 157 28 (-1)) 157 30 (-1)) 30 none := ⟨by show _ = _; rw [ui_o (by decide), ui_s], ui_s _ _ _ _⟩
theorem rfi_nt {v w : Int32} (hr : RfI I F s) : RfI (ui (ui I 157 28 v) 157 30 w) F s := hr.fr (by rw [ui_ne (by decide), ui_ne (by decide)]) (by rw [ui_o (by decide), ui_o (by decide)]) (by rw [ui_ne (by decide), ui_ne (by decide)])
theorem tru_ok {d : Nat} (hO : FOK F) : tru F s d < 2 ^ 31 ∧ ∀ z, z < F 5 → (tru F s d).testBit z = true → F (129 + 5 * z) = d := by
  have hof := ofd_lt hO d
  have o5 := hO.2.2.2.2.2.1
  have a2 := andn_le (ofd F d) ((fls F s.1 s.2.1 d).getD 0)
  refine ⟨by unfold tru; omega, fun z hz q => ?_⟩
  unfold tru at q
  rw [andn_bit (by omega), ofd_bit hz, Bool.and_eq_true, decide_eq_true_eq] at q
  exact q.1
theorem c_X12_trueOf {d : Nat} (hR : RO R) (hr : RfI I F s) (hd : d < 2 ^ 31) (hQ : ∀ M : HL, (∀ x, x ≠ 170 → M x = L x) → Q (some (.int (nI (tru F s d)))) SH (ui (ui I 157 28 (-1)) 157 30 (-1)) M R) : KK 6 mX12_trueOf b ad [.ref (b + 157), .int (nI d)] I L R Q := by
  have hO := hr.1.2.2.1
  have o2 := hO.2.2.1
  have o3 := hO.2.2.2.1
  have o5 := hO.2.2.2.2.2.1
  have o0 := hO.1
  have hF := hr.1.1.2
  have hS := hr.2.1
  have hK := hr.2.2
  have hr2 : RfI (ui (ui I 157 28 (-1)) 157 30 (-1)) F s := rfi_nt hr
  have ex := fls_some hO hK d
  refine K.of (M := mX12_trueOf) (lv := [some (.ref (b + 157)), some (.int (nI d)), none]) (by decide) (Nat.le_of_ble_eq_true rfl) rfl ?_
  refine v_aload_0 dX12_trueOf_0 ?_
  refine v_iload_1 dX12_trueOf_1 ?_
  refine u_callV_1 dX12_trueOf_2 ml_X12_400 mv_X12_findFalse (by first | assumption | rfl | exact led_1 (by assumption) | exact led_2 (by assumption) | exact bk_m (by assumption) (by first | assumption | omega) | exact bk_p (by assumption) (by first | assumption | omega) | exact bk_o (by assumption) (by first | assumption | omega) | exact bk_s (by assumption) (by first | assumption | omega) | exact bk_1 (by assumption) | exact bk_2 (by assumption) | exact bk_3 (by assumption) | exact bk_4 (by assumption) | exact bk_5 (by assumption) | exact bk_6 (by assumption) | exact bk_7 (by assumption) | exact bk_8 (by assumption) | exact sh_ring _ (by first | assumption | omega) | exact sh_imgs _ (by first | assumption | omega)) (by decide) rfl (by decide) (Nat.le_of_ble_eq_true rfl) (c_X12_findFalse (s := s) hR hr hd (fun M k1 => ?_))
  refine v_istore_2 rfl dX12_trueOf_5 ?_
  obtain ⟨z, hz, hz2, -⟩ := ex
  have e : tru F s d = andn (ofd F d) z := by unfold tru; rw [hz]; rfl
  rw [e] at hQ
  rw [hz]
  show VV _ _ _ _ _ _ _ _ _ [some (.ref (b + 157)), some (.int (nI d)), some (.int (nI z))] _ _ _ _
  refine v_aload_0 dX12_trueOf_6 ?_
  refine v_iload_1 dX12_trueOf_7 ?_
  refine u_callV_1 dX12_trueOf_8 ml_X12_387 mv_X12_sightsOf (by first | assumption | rfl | exact led_1 (by assumption) | exact led_2 (by assumption) | exact bk_m (by assumption) (by first | assumption | omega) | exact bk_p (by assumption) (by first | assumption | omega) | exact bk_o (by assumption) (by first | assumption | omega) | exact bk_s (by assumption) (by first | assumption | omega) | exact bk_1 (by assumption) | exact bk_2 (by assumption) | exact bk_3 (by assumption) | exact bk_4 (by assumption) | exact bk_5 (by assumption) | exact bk_6 (by assumption) | exact bk_7 (by assumption) | exact bk_8 (by assumption) | exact sh_ring _ (by first | assumption | omega) | exact sh_imgs _ (by first | assumption | omega)) (by decide) rfl (by decide) (Nat.le_of_ble_eq_true rfl) (c_X12_sightsOf (s := s) hR hr2 hd ?_)
  refine v_iload_2 dX12_trueOf_11 ?_
  refine v_bipush (v := -2) dX12_trueOf_12 (by decide) ?_
  refine v_icmp_ne (tgt := 21) dX12_trueOf_14 (by decide) (fun hc14 => ?_) (fun hc14 => ?_)
  · (try rw [nI_eq (by omega) (by omega)] at hc14)
    refine v_iload_2 dX12_trueOf_21 ?_
    refine v_iconst (v := -1) dX12_trueOf_22 (by decide) ?_
    refine v_ixor dX12_trueOf_23 ?_
    refine v_iand dX12_trueOf_24 ?_
    rw [andn_I]
    refine v_iret dX12_trueOf_25 rfl rfl rfl rfl ?_
    exact hQ M k1
  · exact absurd hc14 (nIm2 (by omega))
end
section
variable {b : Nat} {ad : Nat → Nat} {I J : HI} {L M : HL} {R : HR} {Q : QT} {tp : Nat → Nat} {nt tr fa pl : Nat} {F : bkF} {S : Nat → LSt} {u r : Nat} {im : Nat → LSt} {ic : Nat}
theorem r_untrue {x : Int32} (hR : RO R) (h : RefB I tp nt tr fa pl F S u r im ic) (hQ : YQ I L R tp nt (t_untrue F (S 0) x) fa pl F S u r im ic (a_untrue F (S 0) x) Q) : KK 8 mX12_untrue b ad [.ref (b + 157), .int x] I L R Q := by
  have hO := h.2.2.1.1.2.2.1
  have o0 := hO.1
  have o1 := hO.2.1
  have o2 := hO.2.2.1
  have o3 := hO.2.2.2.1
  have o4 := hO.2.2.2.2.1
  have o5 := hO.2.2.2.2.2.1
  have o6 := hO.2.2.2.2.2.2.1
  have hK := h.2.2.1.2.2
  have hn20 := hK.1
  have hok : ∀ i, i < (S 0).1 → ok4 ((S 0).2.1 i) := fun i hi => (hK.2.1 i hi).1
  refine K.of (M := mX12_untrue) (lv := [some (.ref (b + 157)), some (.int x), none]) (by decide) (Nat.le_of_ble_eq_true rfl) rfl ?_
  refine v_aload_0 dX12_untrue_0 ?_
  refine u_callV_0 dX12_untrue_1 ml_X12_173 mv_X12_good (by first | assumption | rfl | exact led_1 (by assumption) | exact led_2 (by assumption) | exact bk_m (by assumption) (by first | assumption | omega) | exact bk_p (by assumption) (by first | assumption | omega) | exact bk_o (by assumption) (by first | assumption | omega) | exact bk_s (by assumption) (by first | assumption | omega) | exact bk_1 (by assumption) | exact bk_2 (by assumption) | exact bk_3 (by assumption) | exact bk_4 (by assumption) | exact bk_5 (by assumption) | exact bk_6 (by assumption) | exact bk_7 (by assumption) | exact bk_8 (by assumption) | exact sh_ring _ (by first | assumption | omega) | exact sh_imgs _ (by first | assumption | omega)) (by decide) rfl (by decide) (Nat.le_of_ble_eq_true rfl) (c_X12_good ?_)
  have h := rf_good h
  have hr : RfI _ F (S 0) := h.2.2.1
  have hS := hr.2.1
  have htr := trc_3 (decide (0 < F 0)) (ind x (F 0))
  refine v_aload_0 dX12_untrue_4 ?_
  refine v_iload_1 dX12_untrue_5 ?_
  refine u_callV_1 dX12_untrue_6 ml_X12_350 mv_X12_planWhy (by first | assumption | rfl | exact led_1 (by assumption) | exact led_2 (by assumption) | exact bk_m (by assumption) (by first | assumption | omega) | exact bk_p (by assumption) (by first | assumption | omega) | exact bk_o (by assumption) (by first | assumption | omega) | exact bk_s (by assumption) (by first | assumption | omega) | exact bk_1 (by assumption) | exact bk_2 (by assumption) | exact bk_3 (by assumption) | exact bk_4 (by assumption) | exact bk_5 (by assumption) | exact bk_6 (by assumption) | exact bk_7 (by assumption) | exact bk_8 (by assumption) | exact sh_ring _ (by first | assumption | omega) | exact sh_imgs _ (by first | assumption | omega)) (by decide) rfl (by decide) (Nat.le_of_ble_eq_true rfl) (c_X12_planWhy hR hr.1 ?_)
  refine v_istore_2 rfl dX12_untrue_9 ?_
  refine v_iload_2 dX12_untrue_10 ?_
  refine v_if_eq (tgt := 22) dX12_untrue_11 (by decide) (fun hc11 => ?_) (fun hc11 => ?_)
  · (first | rw [bI_0, Bool.not_eq_false] at hc11 | rw [bI_0] at hc11 | rw [show (0 : Int32) = nI 0 from rfl, nI_eq (by omega) (by omega)] at hc11 | skip)
    have hq : ((decide (0 < F 0)) && ind x (F 0)) = true := by
      cases hA : (decide (0 < F 0)) <;> cases hB : ind x (F 0)
      · rw [hA, hB] at hc11; cases hc11
      · rw [hA, hB] at hc11; cases hc11
      · rw [hA, hB] at hc11; cases hc11
      · rfl
    have hq2 := hq
    rw [Bool.and_eq_true] at hq2
    obtain ⟨d, rfl, hd1, hd⟩ := ind_ex (by omega) hq2.2
    have ed : tN (nI d) = d := tN_nI (by omega)
    refine v_aload_0 dX12_untrue_22 ?_
    refine v_iload_1 dX12_untrue_23 ?_
    refine u_callV_1 dX12_untrue_24 ml_X12_400 mv_X12_findFalse (by first | assumption | rfl | exact led_1 (by assumption) | exact led_2 (by assumption) | exact bk_m (by assumption) (by first | assumption | omega) | exact bk_p (by assumption) (by first | assumption | omega) | exact bk_o (by assumption) (by first | assumption | omega) | exact bk_s (by assumption) (by first | assumption | omega) | exact bk_1 (by assumption) | exact bk_2 (by assumption) | exact bk_3 (by assumption) | exact bk_4 (by assumption) | exact bk_5 (by assumption) | exact bk_6 (by assumption) | exact bk_7 (by assumption) | exact bk_8 (by assumption) | exact sh_ring _ (by first | assumption | omega) | exact sh_imgs _ (by first | assumption | omega)) (by decide) rfl (by decide) (Nat.le_of_ble_eq_true rfl) (c_X12_findFalse (s := S 0) hR hr (by omega) (fun M k1 => ?_))
    refine v_iret dX12_untrue_27 rfl rfl rfl rfl ?_
    first
      | exact hQ.fin (rf_tr h ⟨by omega, by omega⟩) (fun x hx => by simp only [ui_ne (show x ≠ 157 by omega)]) (fun _ _ => rfl) rfl (by simp only [a_untrue]; rw [if_neg]; intro q; rw [Bool.and_eq_true] at q; simp [trc, q.1, q.2] at hc11)
      | exact hQ.fin (rf_nt h) (fun x hx => by rw [ui_ne (by omega), ui_ne (by omega), ui_ne (by omega), ui_ne (by omega)]) k1 hc11.symm (by rw [a_untrue, if_pos hq, ed])
  · (first | rw [bI_0, Bool.not_eq_false] at hc11 | rw [bI_0] at hc11 | rw [show (0 : Int32) = nI 0 from rfl, nI_eq (by omega) (by omega)] at hc11 | skip)
    refine v_aload_0 dX12_untrue_14 ?_
    refine v_iload_2 dX12_untrue_15 ?_
    refine u_callV_1 dX12_untrue_16 ml_X12_176 mv_X12_no (by first | assumption | rfl | exact led_1 (by assumption) | exact led_2 (by assumption) | exact bk_m (by assumption) (by first | assumption | omega) | exact bk_p (by assumption) (by first | assumption | omega) | exact bk_o (by assumption) (by first | assumption | omega) | exact bk_s (by assumption) (by first | assumption | omega) | exact bk_1 (by assumption) | exact bk_2 (by assumption) | exact bk_3 (by assumption) | exact bk_4 (by assumption) | exact bk_5 (by assumption) | exact bk_6 (by assumption) | exact bk_7 (by assumption) | exact bk_8 (by assumption) | exact sh_ring _ (by first | assumption | omega) | exact sh_imgs _ (by first | assumption | omega)) (by decide) rfl (by decide) (Nat.le_of_ble_eq_true rfl) (c_X12_no ?_)
    refine v_goto (tgt := 27) dX12_untrue_19 (by decide) ?_
    refine v_iret dX12_untrue_27 rfl rfl rfl rfl ?_
    first
      | exact hQ.fin (rf_tr h ⟨by omega, by omega⟩) (fun x hx => by simp only [ui_ne (show x ≠ 157 by omega)]) (fun _ _ => rfl) rfl (by simp only [a_untrue]; rw [if_neg]; intro q; rw [Bool.and_eq_true] at q; simp [trc, q.1, q.2] at hc11)
      | exact hQ.fin (rf_nt h) (fun x hx => by rw [ui_ne (by omega), ui_ne (by omega), ui_ne (by omega), ui_ne (by omega)]) k1 hc11.symm (by rw [a_untrue, if_pos hq, ed])
theorem l2i_n {n : Nat} (h : n < 2 ^ 31) : (lN n).toInt32 = nI n := by
  apply Int32.toInt_inj.mp
  show (Int64.ofNat n).toInt32.toInt = (Int32.ofNat n).toInt
  rw [Int32.toInt_ofNat_of_lt (by omega), Int64.toInt_toInt32, Int64.toInt_ofNat_of_lt (by omega)]
  exact Int.bmod_eq_of_le (by omega) (by omega)
theorem r_wearers {x : Int32} (hR : RO R) (h : RefB I tp nt tr fa pl F S u r im ic) (hQ : YQ I L R tp nt (t_wearers F (S 0) x) fa pl F S u r im ic (a_wearers F (S 0) x) Q) : KK 8 mX12_wearers b ad [.ref (b + 157), .int x] I L R Q := by
  have hO := h.2.2.1.1.2.2.1
  have o0 := hO.1
  have o1 := hO.2.1
  have o2 := hO.2.2.1
  have o3 := hO.2.2.2.1
  have o4 := hO.2.2.2.2.1
  have o5 := hO.2.2.2.2.2.1
  have o6 := hO.2.2.2.2.2.2.1
  have hK := h.2.2.1.2.2
  have hn20 := hK.1
  have hok : ∀ i, i < (S 0).1 → ok4 ((S 0).2.1 i) := fun i hi => (hK.2.1 i hi).1
  refine K.of (M := mX12_wearers) (lv := [some (.ref (b + 157)), some (.int x), none]) (by decide) (Nat.le_of_ble_eq_true rfl) rfl ?_
  refine v_aload_0 dX12_wearers_0 ?_
  refine u_callV_0 dX12_wearers_1 ml_X12_173 mv_X12_good (by first | assumption | rfl | exact led_1 (by assumption) | exact led_2 (by assumption) | exact bk_m (by assumption) (by first | assumption | omega) | exact bk_p (by assumption) (by first | assumption | omega) | exact bk_o (by assumption) (by first | assumption | omega) | exact bk_s (by assumption) (by first | assumption | omega) | exact bk_1 (by assumption) | exact bk_2 (by assumption) | exact bk_3 (by assumption) | exact bk_4 (by assumption) | exact bk_5 (by assumption) | exact bk_6 (by assumption) | exact bk_7 (by assumption) | exact bk_8 (by assumption) | exact sh_ring _ (by first | assumption | omega) | exact sh_imgs _ (by first | assumption | omega)) (by decide) rfl (by decide) (Nat.le_of_ble_eq_true rfl) (c_X12_good ?_)
  have h := rf_good h
  have hr : RfI _ F (S 0) := h.2.2.1
  have hS := hr.2.1
  have htr := trc_3 (decide (0 < F 0)) (ind x (F 0))
  refine v_aload_0 dX12_wearers_4 ?_
  refine v_iload_1 dX12_wearers_5 ?_
  refine u_callV_1 dX12_wearers_6 ml_X12_350 mv_X12_planWhy (by first | assumption | rfl | exact led_1 (by assumption) | exact led_2 (by assumption) | exact bk_m (by assumption) (by first | assumption | omega) | exact bk_p (by assumption) (by first | assumption | omega) | exact bk_o (by assumption) (by first | assumption | omega) | exact bk_s (by assumption) (by first | assumption | omega) | exact bk_1 (by assumption) | exact bk_2 (by assumption) | exact bk_3 (by assumption) | exact bk_4 (by assumption) | exact bk_5 (by assumption) | exact bk_6 (by assumption) | exact bk_7 (by assumption) | exact bk_8 (by assumption) | exact sh_ring _ (by first | assumption | omega) | exact sh_imgs _ (by first | assumption | omega)) (by decide) rfl (by decide) (Nat.le_of_ble_eq_true rfl) (c_X12_planWhy hR hr.1 ?_)
  refine v_istore_2 rfl dX12_wearers_9 ?_
  refine v_iload_2 dX12_wearers_10 ?_
  refine v_if_eq (tgt := 22) dX12_wearers_11 (by decide) (fun hc11 => ?_) (fun hc11 => ?_)
  · (first | rw [bI_0, Bool.not_eq_false] at hc11 | rw [bI_0] at hc11 | rw [show (0 : Int32) = nI 0 from rfl, nI_eq (by omega) (by omega)] at hc11 | skip)
    have hq : ((decide (0 < F 0)) && ind x (F 0)) = true := by
      cases hA : (decide (0 < F 0)) <;> cases hB : ind x (F 0)
      · rw [hA, hB] at hc11; cases hc11
      · rw [hA, hB] at hc11; cases hc11
      · rw [hA, hB] at hc11; cases hc11
      · rfl
    have hq2 := hq
    rw [Bool.and_eq_true] at hq2
    obtain ⟨d, rfl, hd1, hd⟩ := ind_ex (by omega) hq2.2
    have ed : tN (nI d) = d := tN_nI (by omega)
    refine v_aload_0 dX12_wearers_22 ?_
    refine v_iload_1 dX12_wearers_23 ?_
    refine v_aload_0 dX12_wearers_24 ?_
    refine v_iload_1 dX12_wearers_25 ?_
    refine u_callV_1 dX12_wearers_26 ml_X12_403 mv_X12_trueOf (by first | assumption | rfl | exact led_1 (by assumption) | exact led_2 (by assumption) | exact bk_m (by assumption) (by first | assumption | omega) | exact bk_p (by assumption) (by first | assumption | omega) | exact bk_o (by assumption) (by first | assumption | omega) | exact bk_s (by assumption) (by first | assumption | omega) | exact bk_1 (by assumption) | exact bk_2 (by assumption) | exact bk_3 (by assumption) | exact bk_4 (by assumption) | exact bk_5 (by assumption) | exact bk_6 (by assumption) | exact bk_7 (by assumption) | exact bk_8 (by assumption) | exact sh_ring _ (by first | assumption | omega) | exact sh_imgs _ (by first | assumption | omega)) (by decide) rfl (by decide) (Nat.le_of_ble_eq_true rfl) (c_X12_trueOf (s := S 0) hR hr (by omega) (fun M k1 => ?_))
    refine u_callV_2 dX12_wearers_29 ml_X12_396 mv_X12_countWearers (by first | assumption | rfl | exact led_1 (by assumption) | exact led_2 (by assumption) | exact bk_m (by assumption) (by first | assumption | omega) | exact bk_p (by assumption) (by first | assumption | omega) | exact bk_o (by assumption) (by first | assumption | omega) | exact bk_s (by assumption) (by first | assumption | omega) | exact bk_1 (by assumption) | exact bk_2 (by assumption) | exact bk_3 (by assumption) | exact bk_4 (by assumption) | exact bk_5 (by assumption) | exact bk_6 (by assumption) | exact bk_7 (by assumption) | exact bk_8 (by assumption) | exact sh_ring _ (by first | assumption | omega) | exact sh_imgs _ (by first | assumption | omega)) (by decide) rfl (by decide) (Nat.le_of_ble_eq_true rfl) (c_X12_countWearers (s := S 0) (t1 := none) (t2 := none) hR (rfi_nt hr) (by omega) (tru_ok hO).1 (tru_ok hO).2 tl_nt.1 tl_nt.2 (fun M2 k2 => ?_))
    refine v_l2i dX12_wearers_32 ?_
    refine v_iret dX12_wearers_33 rfl rfl rfl rfl ?_
    first
      | exact hQ.fin (rf_tr h ⟨by omega, by omega⟩) (fun x hx => by simp only [ui_ne (show x ≠ 157 by omega)]) (fun _ _ => rfl) rfl (by simp only [a_wearers]; rw [if_neg]; intro q; rw [Bool.and_eq_true] at q; simp [trc, q.1, q.2] at hc11)
      | exact hQ.fin (rf_nt h) (fun x hx => by rw [ui_ne (by omega), ui_ne (by omega), ui_ne (by omega), ui_ne (by omega)]) (fun x q => by rw [k2 x q]; exact k1 x q) hc11.symm (by rw [a_wearers, if_pos hq, ed, l2i_n (wys_lt o3 o2), wys_tell]; rfl)
  · (first | rw [bI_0, Bool.not_eq_false] at hc11 | rw [bI_0] at hc11 | rw [show (0 : Int32) = nI 0 from rfl, nI_eq (by omega) (by omega)] at hc11 | skip)
    refine v_aload_0 dX12_wearers_14 ?_
    refine v_iload_2 dX12_wearers_15 ?_
    refine u_callV_1 dX12_wearers_16 ml_X12_176 mv_X12_no (by first | assumption | rfl | exact led_1 (by assumption) | exact led_2 (by assumption) | exact bk_m (by assumption) (by first | assumption | omega) | exact bk_p (by assumption) (by first | assumption | omega) | exact bk_o (by assumption) (by first | assumption | omega) | exact bk_s (by assumption) (by first | assumption | omega) | exact bk_1 (by assumption) | exact bk_2 (by assumption) | exact bk_3 (by assumption) | exact bk_4 (by assumption) | exact bk_5 (by assumption) | exact bk_6 (by assumption) | exact bk_7 (by assumption) | exact bk_8 (by assumption) | exact sh_ring _ (by first | assumption | omega) | exact sh_imgs _ (by first | assumption | omega)) (by decide) rfl (by decide) (Nat.le_of_ble_eq_true rfl) (c_X12_no ?_)
    refine v_goto (tgt := 33) dX12_wearers_19 (by decide) ?_
    refine v_iret dX12_wearers_33 rfl rfl rfl rfl ?_
    first
      | exact hQ.fin (rf_tr h ⟨by omega, by omega⟩) (fun x hx => by simp only [ui_ne (show x ≠ 157 by omega)]) (fun _ _ => rfl) rfl (by simp only [a_wearers]; rw [if_neg]; intro q; rw [Bool.and_eq_true] at q; simp [trc, q.1, q.2] at hc11)
      | exact hQ.fin (rf_nt h) (fun x hx => by rw [ui_ne (by omega), ui_ne (by omega), ui_ne (by omega), ui_ne (by omega)]) (fun x q => by rw [k2 x q]; exact k1 x q) hc11.symm (by rw [a_wearers, if_pos hq, ed, l2i_n (wys_lt o3 o2), wys_tell]; rfl)
end
