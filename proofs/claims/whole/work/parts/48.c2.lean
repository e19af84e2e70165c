/-! the class's face: answers as functions of what the state means -/
def tN (x : Int32) : Nat := x.toInt.toNat
theorem toInt_nI {m : Nat} (h : m < 2 ^ 31) : (nI m).toInt = (m : Int) := Int32.toInt_ofNat_of_lt h
theorem tN_nI {m : Nat} (h : m < 2 ^ 31) : tN (nI m) = m := by unfold tN; rw [toInt_nI h]; rfl
theorem nI_tN {x : Int32} (h : 0 ≤ x) : x = nI (tN x) ∧ tN x < 2 ^ 31 := by
  have h0 : 0 ≤ x.toInt := Int32.le_iff_toInt_le.1 h
  have h2 : x.toInt < 2 ^ 31 := Int32.toInt_lt x
  have h3 : tN x < 2 ^ 31 := by unfold tN; omega
  refine ⟨?_, h3⟩
  apply Int32.toInt_inj.1
  rw [toInt_nI h3]; unfold tN; omega
theorem inb_ex {x : Int32} {n : Nat} (hn : n < 2 ^ 31) (h : inb x n = true) : ∃ m, x = nI m ∧ m < n := by
  unfold inb at h
  rw [Bool.and_eq_true, decide_eq_true_eq, decide_eq_true_eq] at h
  obtain ⟨e, hl⟩ := nI_tN h.1
  refine ⟨tN x, e, ?_⟩
  have := h.2
  rw [e, nI_ltI hl hn] at this
  exact this
theorem ind_ex {x : Int32} {n : Nat} (hn : n < 2 ^ 31) (h : ind x n = true) : ∃ m, x = nI m ∧ 1 ≤ m ∧ m ≤ n := by
  unfold ind at h
  rw [Bool.and_eq_true, decide_eq_true_eq, decide_eq_true_eq] at h
  have h0 : (0 : Int32) ≤ x := Int32.le_trans (by decide) h.1
  obtain ⟨e, hl⟩ := nI_tN h0
  refine ⟨tN x, e, ?_, ?_⟩
  · have := h.1
    rw [e, nI_leI (by omega) hl] at this
    exact this
  · have := h.2
    rw [e, nI_leI hl hn] at this
    exact this
theorem indn_ex {x : Int32} {n : Nat} (hn : n < 2 ^ 31) (h : indn x n = true) : ∃ m, x = nI m ∧ m ≤ n := by
  unfold indn at h
  rw [Bool.and_eq_true, decide_eq_true_eq, decide_eq_true_eq] at h
  obtain ⟨e, hl⟩ := nI_tN h.1
  refine ⟨tN x, e, ?_⟩
  have := h.2
  rw [e, nI_leI hl hn] at this
  exact this
theorem dle_f {x y : Int32} (h : y < x) : decide (x ≤ y) = false := by rw [decide_eq_false_iff_not, Int32.not_le]; exact h
theorem dle_t {x y : Int32} (h : ¬ y < x) : decide (x ≤ y) = true := by rw [decide_eq_true_eq]; exact Int32.not_lt.1 h
theorem dlt_f {x y : Int32} (h : y ≤ x) : decide (x < y) = false := by rw [decide_eq_false_iff_not, Int32.not_lt]; exact h
theorem dlt_t {x y : Int32} (h : ¬ y ≤ x) : decide (x < y) = true := by rw [decide_eq_true_eq]; exact Int32.not_le.1 h
/-- what belongs to the reference and to the law stays -/
def Hi (I I' : HI) (L L' : HL) (R R' : HR) : Prop := ∀ a, 157 ≤ a → I' a = I a ∧ L' a = L a ∧ R' a = R a
theorem Hi.refl {I : HI} {L : HL} {R : HR} : Hi I I L L R R := fun _ _ => ⟨rfl, rfl, rfl⟩
theorem Hi.trans {I I' I2 : HI} {L L' L2 : HL} {R R' R2 : HR} (h : Hi I I' L L' R R') (h2 : Hi I' I2 L' L2 R' R2) : Hi I I2 L L2 R R2 := fun a ha => ⟨(h2 a ha).1.trans (h a ha).1, (h2 a ha).2.1.trans (h a ha).2.1, (h2 a ha).2.2.trans (h a ha).2.2⟩
theorem hi_ui {I : HI} {L : HL} {R : HR} {x j : Nat} {v : Int32} (h : x < 157) : Hi I (ui I x j v) L L R R := fun a ha => ⟨ui_ne (by omega), rfl, rfl⟩
def XQ (I : HI) (L : HL) (R : HR) (tp : Nat → Nat) (nt tr fa pl : Nat) (F : bkF) (S : Nat → LSt) (u r : Nat) (im : Nat → LSt) (ic : Nat) (a : Int32) (Q : QT) : Prop := ∀ (I' : HI) (L' : HL) (R' : HR) (B B2 t : Nat), ClsB I' L' R' B B2 t tp nt tr fa pl F S u r im ic → Hi I I' L L' R R' → Q (some (.int a)) SH I' L' R'
theorem XQ.fin {I I' : HI} {L L' : HL} {R R' : HR} {tp : Nat → Nat} {nt tr tr' fa pl : Nat} {F : bkF} {S : Nat → LSt} {u r : Nat} {im : Nat → LSt} {ic : Nat} {a a' : Int32} {Q : QT} {B B2 t : Nat} (hQ : XQ I L R tp nt tr fa pl F S u r im ic a Q) (h : ClsB I' L' R' B B2 t tp nt tr' fa pl F S u r im ic) (hh : Hi I I' L L' R R') (e1 : tr' = tr) (e2 : a' = a) : Q (some (.int a')) SH I' L' R' := by
  subst e1; subst e2; exact hQ I' L' R' B B2 t h hh
section
variable {b : Nat} {ad : Nat → Nat} {I : HI} {L : HL} {R : HR} {Q : QT} {B B2 t : Nat} {tp : Nat → Nat} {nt tr fa pl : Nat} {F : bkF} {S : Nat → LSt} {u r : Nat} {im : Nat → LSt} {ic : Nat}
def a_fits (F : bkF) (s : LSt) (x : Int32) (y : Int32) : Int32 := if ((inb x (F 2) && inb y (F 3)) && true) = true then bI (fitF F (tN x) (tN y)) else -1
def t_fits (F : bkF) (s : LSt) (x : Int32) (y : Int32) : Nat := trc (inb x (F 2) && inb y (F 3)) (true)
theorem c_X11_fits {x y : Int32} (h : ClsB I L R B B2 t tp nt tr fa pl F S u r im ic) (hQ : XQ I L R tp nt (t_fits F (S 0) x y) fa pl F S u r im ic (a_fits F (S 0) x y) Q) : KK 12 mX11_fits b ad [.ref (b + 0), .int x, .int y] I L R Q := by
  have hR := cb_R h
  have hb := cb_b h
  have hB := cb_B h
  have hF := cb_F h
  have hO := cb_O h
  have o0 := hO.1
  have o1 := hO.2.1
  have o2 := hO.2.2.1
  have o3 := hO.2.2.2.1
  have o4 := hO.2.2.2.2.1
  have o5 := hO.2.2.2.2.2.1
  have o6 := hO.2.2.2.2.2.2.1
  have h1 := cb_1 h
  have ht := cb_t h
  have hS := sh_ring t ht
  have hL := cb_L h
  have hK := cb_K h
  have hps := hK.pers
  refine K.of (M := mX11_fits) (lv := [some (.ref (b + 0)), some (.int x), some (.int y)]) (by decide) (Nat.le_of_ble_eq_true rfl) rfl ?_
  have cut : VV yX11_fits cX11_fits 3 (some .int) 12 Q b ad 28 [some (.ref (b + 0)), some (.int x), some (.int y)] [.int (bI (inb x (F 2) && inb y (F 3))), .ref (b + 0)] I L R := by
    refine v_iconst (v := nI 1) dX11_fits_28 (by decide) ?_
    refine u_callV_2 dX11_fits_29 ml_X11_68 mv_X11_admit (by first | assumption | rfl | exact led_1 (by assumption) | exact led_2 (by assumption) | exact bk_m (by assumption) (by first | assumption | omega) | exact bk_p (by assumption) (by first | assumption | omega) | exact bk_o (by assumption) (by first | assumption | omega) | exact bk_s (by assumption) (by first | assumption | omega) | exact bk_1 (by assumption) | exact bk_2 (by assumption) | exact bk_3 (by assumption) | exact bk_4 (by assumption) | exact bk_5 (by assumption) | exact bk_6 (by assumption) | exact bk_7 (by assumption) | exact bk_8 (by assumption) | exact sh_ring _ (by first | assumption | omega) | exact sh_imgs _ (by first | assumption | omega)) (by decide) rfl (by decide) (Nat.le_of_ble_eq_true rfl) (c_X11_admit (p := inb x (F 2) && inb y (F 3)) (q := true) ?_)
    have hh : Hi I (ui I 0 2 (nI (trc (inb x (F 2) && inb y (F 3)) (true)))) L L R R := hi_ui (by decide)
    have h := cb_tr (v := trc (inb x (F 2) && inb y (F 3)) (true)) h (trc_lt _ _).1 (trc_lt _ _).2
    have hF := cb_F h
    have h1 := cb_1 h
    have hL := cb_L h
    refine v_if_ne (tgt := 37) dX11_fits_32 (by decide) (fun hc32 => ?_) (fun hc32 => ?_)
    · (first | rw [bI_0, Bool.not_eq_false] at hc32 | rw [bI_0] at hc32 | rw [show (0 : Int32) = nI 0 from rfl, nI_eq (by omega) (by omega)] at hc32 | skip)
      have hA := hc32
      rw [Bool.and_eq_true] at hA
      obtain ⟨hA0, hA2⟩ := hA
      rw [Bool.and_eq_true] at hA0
      obtain ⟨hA0, hP1⟩ := hA0
      obtain ⟨m, rfl, hm⟩ := inb_ex (by omega) hA0
      have em : tN (nI m) = m := tN_nI (by omega)
      obtain ⟨p, rfl, hp⟩ := inb_ex (by omega) hP1
      have ep : tN (nI p) = p := tN_nI (by omega)
      refine v_aload_0 dX11_fits_37 ?_
      refine u_getR dX11_fits_38 gf_X11_29 (by first | assumption | rfl | exact led_1 (by assumption) | exact led_2 (by assumption) | exact bk_m (by assumption) (by first | assumption | omega) | exact bk_p (by assumption) (by first | assumption | omega) | exact bk_o (by assumption) (by first | assumption | omega) | exact bk_s (by assumption) (by first | assumption | omega) | exact bk_1 (by assumption) | exact bk_2 (by assumption) | exact bk_3 (by assumption) | exact bk_4 (by assumption) | exact bk_5 (by assumption) | exact bk_6 (by assumption) | exact bk_7 (by assumption) | exact bk_8 (by assumption) | exact sh_ring _ (by first | assumption | omega) | exact sh_imgs _ (by first | assumption | omega)) (by assumption) ?_
      refine v_iload_1 dX11_fits_41 ?_
      refine v_iload_2 dX11_fits_42 ?_
      refine u_callV_2 dX11_fits_43 ml_X11_102 mv_X0_suits (by first | assumption | rfl | exact led_1 (by assumption) | exact led_2 (by assumption) | exact bk_m (by assumption) (by first | assumption | omega) | exact bk_p (by assumption) (by first | assumption | omega) | exact bk_o (by assumption) (by first | assumption | omega) | exact bk_s (by assumption) (by first | assumption | omega) | exact bk_1 (by assumption) | exact bk_2 (by assumption) | exact bk_3 (by assumption) | exact bk_4 (by assumption) | exact bk_5 (by assumption) | exact bk_6 (by assumption) | exact bk_7 (by assumption) | exact bk_8 (by assumption) | exact sh_ring _ (by first | assumption | omega) | exact sh_imgs _ (by first | assumption | omega)) (by decide) rfl (by decide) (Nat.le_of_ble_eq_true rfl) (c_X0_suits hR hB hF hO hm hp ?_)
      refine u_callS_1 dX11_fits_46 ml_X11_106 ms_X11_asNumber (by decide) (Nat.le_of_ble_eq_true rfl) (c_X11_asNumber ?_)
      refine v_iret dX11_fits_49 rfl rfl rfl rfl ?_
      exact hQ.fin h (hi_ui (by decide)) rfl (by simp only [a_fits, hc32, em, ep, if_true])
    · (first | rw [bI_0, Bool.not_eq_false] at hc32 | rw [bI_0] at hc32 | rw [show (0 : Int32) = nI 0 from rfl, nI_eq (by omega) (by omega)] at hc32 | skip)
      refine v_iconst (v := -1) dX11_fits_35 (by decide) ?_
      refine v_iret dX11_fits_36 rfl rfl rfl rfl ?_
      exact hQ.fin h (hi_ui (by decide)) (by first | rfl | simp only [t_fits, hc32, if_true, Bool.false_eq_true, if_false]) (by simp only [a_fits, hc32, Bool.false_eq_true, if_false])
  refine v_aload_0 dX11_fits_0 ?_
  refine v_aload_0 dX11_fits_1 ?_
  refine u_getR dX11_fits_2 gf_X11_29 (by first | assumption | rfl | exact led_1 (by assumption) | exact led_2 (by assumption) | exact bk_m (by assumption) (by first | assumption | omega) | exact bk_p (by assumption) (by first | assumption | omega) | exact bk_o (by assumption) (by first | assumption | omega) | exact bk_s (by assumption) (by first | assumption | omega) | exact bk_1 (by assumption) | exact bk_2 (by assumption) | exact bk_3 (by assumption) | exact bk_4 (by assumption) | exact bk_5 (by assumption) | exact bk_6 (by assumption) | exact bk_7 (by assumption) | exact bk_8 (by assumption) | exact sh_ring _ (by first | assumption | omega) | exact sh_imgs _ (by first | assumption | omega)) (by assumption) ?_
  refine v_iload_1 dX11_fits_5 ?_
  refine u_callV_1 dX11_fits_6 ml_X11_96 mv_X0_hasMask (by first | assumption | rfl | exact led_1 (by assumption) | exact led_2 (by assumption) | exact bk_m (by assumption) (by first | assumption | omega) | exact bk_p (by assumption) (by first | assumption | omega) | exact bk_o (by assumption) (by first | assumption | omega) | exact bk_s (by assumption) (by first | assumption | omega) | exact bk_1 (by assumption) | exact bk_2 (by assumption) | exact bk_3 (by assumption) | exact bk_4 (by assumption) | exact bk_5 (by assumption) | exact bk_6 (by assumption) | exact bk_7 (by assumption) | exact bk_8 (by assumption) | exact sh_ring _ (by first | assumption | omega) | exact sh_imgs _ (by first | assumption | omega)) (by decide) rfl (by decide) (Nat.le_of_ble_eq_true rfl) (c_X0_hasMask hB hF ?_)
  refine v_if_eq (tgt := 27) dX11_fits_9 (by decide) (fun hc9 => ?_) (fun hc9 => ?_)
  · (first | rw [bI_0, Bool.not_eq_false] at hc9 | rw [bI_0] at hc9 | rw [show (0 : Int32) = nI 0 from rfl, nI_eq (by omega) (by omega)] at hc9 | skip)
    refine v_iconst (v := nI 0) dX11_fits_27 (by decide) ?_
    have e : (inb x (F 2) && inb y (F 3)) = false := by
      simp only [hc9, dle_f, dle_t, dlt_f, dlt_t, not_false_eq_true, Bool.and_true, Bool.and_false, Bool.true_and, Bool.false_and]
    rw [e] at cut
    exact cut
  · (first | rw [bI_0, Bool.not_eq_false] at hc9 | rw [bI_0] at hc9 | rw [show (0 : Int32) = nI 0 from rfl, nI_eq (by omega) (by omega)] at hc9 | skip)
    refine v_aload_0 dX11_fits_12 ?_
    refine u_getR dX11_fits_13 gf_X11_29 (by first | assumption | rfl | exact led_1 (by assumption) | exact led_2 (by assumption) | exact bk_m (by assumption) (by first | assumption | omega) | exact bk_p (by assumption) (by first | assumption | omega) | exact bk_o (by assumption) (by first | assumption | omega) | exact bk_s (by assumption) (by first | assumption | omega) | exact bk_1 (by assumption) | exact bk_2 (by assumption) | exact bk_3 (by assumption) | exact bk_4 (by assumption) | exact bk_5 (by assumption) | exact bk_6 (by assumption) | exact bk_7 (by assumption) | exact bk_8 (by assumption) | exact sh_ring _ (by first | assumption | omega) | exact sh_imgs _ (by first | assumption | omega)) (by assumption) ?_
    refine v_iload_2 dX11_fits_16 ?_
    refine u_callV_1 dX11_fits_17 ml_X11_99 mv_X0_hasPerson (by first | assumption | rfl | exact led_1 (by assumption) | exact led_2 (by assumption) | exact bk_m (by assumption) (by first | assumption | omega) | exact bk_p (by assumption) (by first | assumption | omega) | exact bk_o (by assumption) (by first | assumption | omega) | exact bk_s (by assumption) (by first | assumption | omega) | exact bk_1 (by assumption) | exact bk_2 (by assumption) | exact bk_3 (by assumption) | exact bk_4 (by assumption) | exact bk_5 (by assumption) | exact bk_6 (by assumption) | exact bk_7 (by assumption) | exact bk_8 (by assumption) | exact sh_ring _ (by first | assumption | omega) | exact sh_imgs _ (by first | assumption | omega)) (by decide) rfl (by decide) (Nat.le_of_ble_eq_true rfl) (c_X0_hasPerson hB hF ?_)
    refine v_if_eq (tgt := 27) dX11_fits_20 (by decide) (fun hc20 => ?_) (fun hc20 => ?_)
    · (first | rw [bI_0, Bool.not_eq_false] at hc20 | rw [bI_0] at hc20 | rw [show (0 : Int32) = nI 0 from rfl, nI_eq (by omega) (by omega)] at hc20 | skip)
      refine v_iconst (v := nI 0) dX11_fits_27 (by decide) ?_
      have e : (inb x (F 2) && inb y (F 3)) = false := by
        simp only [hc9, hc20, dle_f, dle_t, dlt_f, dlt_t, not_false_eq_true, Bool.and_true, Bool.and_false, Bool.true_and, Bool.false_and]
      rw [e] at cut
      exact cut
    · (first | rw [bI_0, Bool.not_eq_false] at hc20 | rw [bI_0] at hc20 | rw [show (0 : Int32) = nI 0 from rfl, nI_eq (by omega) (by omega)] at hc20 | skip)
      refine v_iconst (v := nI 1) dX11_fits_23 (by decide) ?_
      refine v_goto (tgt := 28) dX11_fits_24 (by decide) ?_
      have e : (inb x (F 2) && inb y (F 3)) = true := by
        simp only [hc9, hc20, dle_f, dle_t, dlt_f, dlt_t, not_false_eq_true, Bool.and_true, Bool.and_false, Bool.true_and, Bool.false_and]
      rw [e] at cut
      exact cut
def a_wearer (F : bkF) (s : LSt) (x : Int32) (y : Int32) : Int32 := if ((inb x (F 2)) && ind y (F 0)) = true then eM s.2.1 (fun q => q.2.1) (fup (hitm s.2.1 (tN x) (tN y) (tN y)) 0 s.1) else -1
def t_wearer (F : bkF) (s : LSt) (x : Int32) (y : Int32) : Nat := trc (inb x (F 2)) (ind y (F 0))
theorem c_X11_wearer {x y : Int32} (h : ClsB I L R B B2 t tp nt tr fa pl F S u r im ic) (hQ : XQ I L R tp nt (t_wearer F (S 0) x y) fa pl F S u r im ic (a_wearer F (S 0) x y) Q) : KK 12 mX11_wearer b ad [.ref (b + 0), .int x, .int y] I L R Q := by
  have hR := cb_R h
  have hb := cb_b h
  have hB := cb_B h
  have hF := cb_F h
  have hO := cb_O h
  have o0 := hO.1
  have o1 := hO.2.1
  have o2 := hO.2.2.1
  have o3 := hO.2.2.2.1
  have o4 := hO.2.2.2.2.1
  have o5 := hO.2.2.2.2.2.1
  have o6 := hO.2.2.2.2.2.2.1
  have h1 := cb_1 h
  have ht := cb_t h
  have hS := sh_ring t ht
  have hL := cb_L h
  have hK := cb_K h
  have hps := hK.pers
  refine K.of (M := mX11_wearer) (lv := [some (.ref (b + 0)), some (.int x), some (.int y)]) (by decide) (Nat.le_of_ble_eq_true rfl) rfl ?_
  refine v_aload_0 dX11_wearer_0 ?_
  refine v_aload_0 dX11_wearer_1 ?_
  refine u_getR dX11_wearer_2 gf_X11_29 (by first | assumption | rfl | exact led_1 (by assumption) | exact led_2 (by assumption) | exact bk_m (by assumption) (by first | assumption | omega) | exact bk_p (by assumption) (by first | assumption | omega) | exact bk_o (by assumption) (by first | assumption | omega) | exact bk_s (by assumption) (by first | assumption | omega) | exact bk_1 (by assumption) | exact bk_2 (by assumption) | exact bk_3 (by assumption) | exact bk_4 (by assumption) | exact bk_5 (by assumption) | exact bk_6 (by assumption) | exact bk_7 (by assumption) | exact bk_8 (by assumption) | exact sh_ring _ (by first | assumption | omega) | exact sh_imgs _ (by first | assumption | omega)) (by assumption) ?_
  refine v_iload_1 dX11_wearer_5 ?_
  refine u_callV_1 dX11_wearer_6 ml_X11_96 mv_X0_hasMask (by first | assumption | rfl | exact led_1 (by assumption) | exact led_2 (by assumption) | exact bk_m (by assumption) (by first | assumption | omega) | exact bk_p (by assumption) (by first | assumption | omega) | exact bk_o (by assumption) (by first | assumption | omega) | exact bk_s (by assumption) (by first | assumption | omega) | exact bk_1 (by assumption) | exact bk_2 (by assumption) | exact bk_3 (by assumption) | exact bk_4 (by assumption) | exact bk_5 (by assumption) | exact bk_6 (by assumption) | exact bk_7 (by assumption) | exact bk_8 (by assumption) | exact sh_ring _ (by first | assumption | omega) | exact sh_imgs _ (by first | assumption | omega)) (by decide) rfl (by decide) (Nat.le_of_ble_eq_true rfl) (c_X0_hasMask hB hF ?_)
  refine v_aload_0 dX11_wearer_9 ?_
  refine u_getR dX11_wearer_10 gf_X11_29 (by first | assumption | rfl | exact led_1 (by assumption) | exact led_2 (by assumption) | exact bk_m (by assumption) (by first | assumption | omega) | exact bk_p (by assumption) (by first | assumption | omega) | exact bk_o (by assumption) (by first | assumption | omega) | exact bk_s (by assumption) (by first | assumption | omega) | exact bk_1 (by assumption) | exact bk_2 (by assumption) | exact bk_3 (by assumption) | exact bk_4 (by assumption) | exact bk_5 (by assumption) | exact bk_6 (by assumption) | exact bk_7 (by assumption) | exact bk_8 (by assumption) | exact sh_ring _ (by first | assumption | omega) | exact sh_imgs _ (by first | assumption | omega)) (by assumption) ?_
  refine v_iload_2 dX11_wearer_13 ?_
  refine u_callV_1 dX11_wearer_14 ml_X11_110 mv_X0_hasDay (by first | assumption | rfl | exact led_1 (by assumption) | exact led_2 (by assumption) | exact bk_m (by assumption) (by first | assumption | omega) | exact bk_p (by assumption) (by first | assumption | omega) | exact bk_o (by assumption) (by first | assumption | omega) | exact bk_s (by assumption) (by first | assumption | omega) | exact bk_1 (by assumption) | exact bk_2 (by assumption) | exact bk_3 (by assumption) | exact bk_4 (by assumption) | exact bk_5 (by assumption) | exact bk_6 (by assumption) | exact bk_7 (by assumption) | exact bk_8 (by assumption) | exact sh_ring _ (by first | assumption | omega) | exact sh_imgs _ (by first | assumption | omega)) (by decide) rfl (by decide) (Nat.le_of_ble_eq_true rfl) (c_X0_hasDay hB hF ?_)
  refine u_callV_2 dX11_wearer_17 ml_X11_68 mv_X11_admit (by first | assumption | rfl | exact led_1 (by assumption) | exact led_2 (by assumption) | exact bk_m (by assumption) (by first | assumption | omega) | exact bk_p (by assumption) (by first | assumption | omega) | exact bk_o (by assumption) (by first | assumption | omega) | exact bk_s (by assumption) (by first | assumption | omega) | exact bk_1 (by assumption) | exact bk_2 (by assumption) | exact bk_3 (by assumption) | exact bk_4 (by assumption) | exact bk_5 (by assumption) | exact bk_6 (by assumption) | exact bk_7 (by assumption) | exact bk_8 (by assumption) | exact sh_ring _ (by first | assumption | omega) | exact sh_imgs _ (by first | assumption | omega)) (by decide) rfl (by decide) (Nat.le_of_ble_eq_true rfl) (c_X11_admit (p := inb x (F 2)) (q := ind y (F 0)) ?_)
  have hh : Hi I (ui I 0 2 (nI (trc (inb x (F 2)) (ind y (F 0))))) L L R R := hi_ui (by decide)
  have h := cb_tr (v := trc (inb x (F 2)) (ind y (F 0))) h (trc_lt _ _).1 (trc_lt _ _).2
  have hF := cb_F h
  have h1 := cb_1 h
  have hL := cb_L h
  refine v_if_ne (tgt := 25) dX11_wearer_20 (by decide) (fun hc20 => ?_) (fun hc20 => ?_)
  · (first | rw [bI_0, Bool.not_eq_false] at hc20 | rw [bI_0] at hc20 | rw [show (0 : Int32) = nI 0 from rfl, nI_eq (by omega) (by omega)] at hc20 | skip)
    have hA := hc20
    rw [Bool.and_eq_true] at hA
    obtain ⟨hA1, hA2⟩ := hA
    obtain ⟨m, rfl, hm⟩ := inb_ex (by omega) hA1
    have em : tN (nI m) = m := tN_nI (by omega)
    obtain ⟨d, rfl, hd1, hd⟩ := ind_ex (by omega) hA2
    have ed : tN (nI d) = d := tN_nI (by omega)
    refine v_aload_0 dX11_wearer_25 ?_
    refine u_getR dX11_wearer_26 gf_X11_46 (by first | assumption | rfl | exact led_1 (by assumption) | exact led_2 (by assumption) | exact bk_m (by assumption) (by first | assumption | omega) | exact bk_p (by assumption) (by first | assumption | omega) | exact bk_o (by assumption) (by first | assumption | omega) | exact bk_s (by assumption) (by first | assumption | omega) | exact bk_1 (by assumption) | exact bk_2 (by assumption) | exact bk_3 (by assumption) | exact bk_4 (by assumption) | exact bk_5 (by assumption) | exact bk_6 (by assumption) | exact bk_7 (by assumption) | exact bk_8 (by assumption) | exact sh_ring _ (by first | assumption | omega) | exact sh_imgs _ (by first | assumption | omega)) (ro_X11_8 (by assumption)) ?_
    refine u_callV_0 dX11_wearer_29 ml_X11_113 mv_X1_now (by first | assumption | rfl | exact led_1 (by assumption) | exact led_2 (by assumption) | exact bk_m (by assumption) (by first | assumption | omega) | exact bk_p (by assumption) (by first | assumption | omega) | exact bk_o (by assumption) (by first | assumption | omega) | exact bk_s (by assumption) (by first | assumption | omega) | exact bk_1 (by assumption) | exact bk_2 (by assumption) | exact bk_3 (by assumption) | exact bk_4 (by assumption) | exact bk_5 (by assumption) | exact bk_6 (by assumption) | exact bk_7 (by assumption) | exact bk_8 (by assumption) | exact sh_ring _ (by first | assumption | omega) | exact sh_imgs _ (by first | assumption | omega)) (by decide) rfl (by decide) (Nat.le_of_ble_eq_true rfl) (c_X1_now hR h1 ht ?_)
    refine v_iload_1 dX11_wearer_32 ?_
    refine v_iload_2 dX11_wearer_33 ?_
    refine u_callV_2 dX11_wearer_34 ml_X11_117 mv_X2_personIn (by first | assumption | rfl | exact led_1 (by assumption) | exact led_2 (by assumption) | exact bk_m (by assumption) (by first | assumption | omega) | exact bk_p (by assumption) (by first | assumption | omega) | exact bk_o (by assumption) (by first | assumption | omega) | exact bk_s (by assumption) (by first | assumption | omega) | exact bk_1 (by assumption) | exact bk_2 (by assumption) | exact bk_3 (by assumption) | exact bk_4 (by assumption) | exact bk_5 (by assumption) | exact bk_6 (by assumption) | exact bk_7 (by assumption) | exact bk_8 (by assumption) | exact sh_ring _ (by first | assumption | omega) | exact sh_imgs _ (by first | assumption | omega)) (by decide) rfl (by decide) (Nat.le_of_ble_eq_true rfl) (c_X2_personIn hR hS hL.1 (by omega) (by omega) ?_)
    refine v_iret dX11_wearer_37 rfl rfl rfl rfl ?_
    exact hQ.fin h (hi_ui (by decide)) rfl (by simp only [a_wearer, hc20, em, ed, if_true])
  · (first | rw [bI_0, Bool.not_eq_false] at hc20 | rw [bI_0] at hc20 | rw [show (0 : Int32) = nI 0 from rfl, nI_eq (by omega) (by omega)] at hc20 | skip)
    refine v_iconst (v := -1) dX11_wearer_23 (by decide) ?_
    refine v_iret dX11_wearer_24 rfl rfl rfl rfl ?_
    exact hQ.fin h (hi_ui (by decide)) (by first | rfl | simp only [t_wearer, hc20, if_true, Bool.false_eq_true, if_false]) (by simp only [a_wearer, hc20, Bool.false_eq_true, if_false])
def a_worn (F : bkF) (s : LSt) (x : Int32) (y : Int32) : Int32 := if ((inb x (F 3)) && ind y (F 0)) = true then eM s.2.1 (fun q => q.1) (fup (hitp s.2.1 (tN x) (tN y) (tN y)) 0 s.1) else -1
def t_worn (F : bkF) (s : LSt) (x : Int32) (y : Int32) : Nat := trc (inb x (F 3)) (ind y (F 0))
theorem c_X11_worn {x y : Int32} (h : ClsB I L R B B2 t tp nt tr fa pl F S u r im ic) (hQ : XQ I L R tp nt (t_worn F (S 0) x y) fa pl F S u r im ic (a_worn F (S 0) x y) Q) : KK 12 mX11_worn b ad [.ref (b + 0), .int x, .int y] I L R Q := by
  have hR := cb_R h
  have hb := cb_b h
  have hB := cb_B h
  have hF := cb_F h
  have hO := cb_O h
  have o0 := hO.1
  have o1 := hO.2.1
  have o2 := hO.2.2.1
  have o3 := hO.2.2.2.1
  have o4 := hO.2.2.2.2.1
  have o5 := hO.2.2.2.2.2.1
  have o6 := hO.2.2.2.2.2.2.1
  have h1 := cb_1 h
  have ht := cb_t h
  have hS := sh_ring t ht
  have hL := cb_L h
  have hK := cb_K h
  have hps := hK.pers
  refine K.of (M := mX11_worn) (lv := [some (.ref (b + 0)), some (.int x), some (.int y)]) (by decide) (Nat.le_of_ble_eq_true rfl) rfl ?_
  refine v_aload_0 dX11_worn_0 ?_
  refine v_aload_0 dX11_worn_1 ?_
  refine u_getR dX11_worn_2 gf_X11_29 (by first | assumption | rfl | exact led_1 (by assumption) | exact led_2 (by assumption) | exact bk_m (by assumption) (by first | assumption | omega) | exact bk_p (by assumption) (by first | assumption | omega) | exact bk_o (by assumption) (by first | assumption | omega) | exact bk_s (by assumption) (by first | assumption | omega) | exact bk_1 (by assumption) | exact bk_2 (by assumption) | exact bk_3 (by assumption) | exact bk_4 (by assumption) | exact bk_5 (by assumption) | exact bk_6 (by assumption) | exact bk_7 (by assumption) | exact bk_8 (by assumption) | exact sh_ring _ (by first | assumption | omega) | exact sh_imgs _ (by first | assumption | omega)) (by assumption) ?_
  refine v_iload_1 dX11_worn_5 ?_
  refine u_callV_1 dX11_worn_6 ml_X11_99 mv_X0_hasPerson (by first | assumption | rfl | exact led_1 (by assumption) | exact led_2 (by assumption) | exact bk_m (by assumption) (by first | assumption | omega) | exact bk_p (by assumption) (by first | assumption | omega) | exact bk_o (by assumption) (by first | assumption | omega) | exact bk_s (by assumption) (by first | assumption | omega) | exact bk_1 (by assumption) | exact bk_2 (by assumption) | exact bk_3 (by assumption) | exact bk_4 (by assumption) | exact bk_5 (by assumption) | exact bk_6 (by assumption) | exact bk_7 (by assumption) | exact bk_8 (by assumption) | exact sh_ring _ (by first | assumption | omega) | exact sh_imgs _ (by first | assumption | omega)) (by decide) rfl (by decide) (Nat.le_of_ble_eq_true rfl) (c_X0_hasPerson hB hF ?_)
  refine v_aload_0 dX11_worn_9 ?_
  refine u_getR dX11_worn_10 gf_X11_29 (by first | assumption | rfl | exact led_1 (by assumption) | exact led_2 (by assumption) | exact bk_m (by assumption) (by first | assumption | omega) | exact bk_p (by assumption) (by first | assumption | omega) | exact bk_o (by assumption) (by first | assumption | omega) | exact bk_s (by assumption) (by first | assumption | omega) | exact bk_1 (by assumption) | exact bk_2 (by assumption) | exact bk_3 (by assumption) | exact bk_4 (by assumption) | exact bk_5 (by assumption) | exact bk_6 (by assumption) | exact bk_7 (by assumption) | exact bk_8 (by assumption) | exact sh_ring _ (by first | assumption | omega) | exact sh_imgs _ (by first | assumption | omega)) (by assumption) ?_
  refine v_iload_2 dX11_worn_13 ?_
  refine u_callV_1 dX11_worn_14 ml_X11_110 mv_X0_hasDay (by first | assumption | rfl | exact led_1 (by assumption) | exact led_2 (by assumption) | exact bk_m (by assumption) (by first | assumption | omega) | exact bk_p (by assumption) (by first | assumption | omega) | exact bk_o (by assumption) (by first | assumption | omega) | exact bk_s (by assumption) (by first | assumption | omega) | exact bk_1 (by assumption) | exact bk_2 (by assumption) | exact bk_3 (by assumption) | exact bk_4 (by assumption) | exact bk_5 (by assumption) | exact bk_6 (by assumption) | exact bk_7 (by assumption) | exact bk_8 (by assumption) | exact sh_ring _ (by first | assumption | omega) | exact sh_imgs _ (by first | assumption | omega)) (by decide) rfl (by decide) (Nat.le_of_ble_eq_true rfl) (c_X0_hasDay hB hF ?_)
  refine u_callV_2 dX11_worn_17 ml_X11_68 mv_X11_admit (by first | assumption | rfl | exact led_1 (by assumption) | exact led_2 (by assumption) | exact bk_m (by assumption) (by first | assumption | omega) | exact bk_p (by assumption) (by first | assumption | omega) | exact bk_o (by assumption) (by first | assumption | omega) | exact bk_s (by assumption) (by first | assumption | omega) | exact bk_1 (by assumption) | exact bk_2 (by assumption) | exact bk_3 (by assumption) | exact bk_4 (by assumption) | exact bk_5 (by assumption) | exact bk_6 (by assumption) | exact bk_7 (by assumption) | exact bk_8 (by assumption) | exact sh_ring _ (by first | assumption | omega) | exact sh_imgs _ (by first | assumption | omega)) (by decide) rfl (by decide) (Nat.le_of_ble_eq_true rfl) (c_X11_admit (p := inb x (F 3)) (q := ind y (F 0)) ?_)
  have hh : Hi I (ui I 0 2 (nI (trc (inb x (F 3)) (ind y (F 0))))) L L R R := hi_ui (by decide)
  have h := cb_tr (v := trc (inb x (F 3)) (ind y (F 0))) h (trc_lt _ _).1 (trc_lt _ _).2
  have hF := cb_F h
  have h1 := cb_1 h
  have hL := cb_L h
  refine v_if_ne (tgt := 25) dX11_worn_20 (by decide) (fun hc20 => ?_) (fun hc20 => ?_)
  · (first | rw [bI_0, Bool.not_eq_false] at hc20 | rw [bI_0] at hc20 | rw [show (0 : Int32) = nI 0 from rfl, nI_eq (by omega) (by omega)] at hc20 | skip)
    have hA := hc20
    rw [Bool.and_eq_true] at hA
    obtain ⟨hA1, hA2⟩ := hA
    obtain ⟨p, rfl, hp⟩ := inb_ex (by omega) hA1
    have ep : tN (nI p) = p := tN_nI (by omega)
    obtain ⟨d, rfl, hd1, hd⟩ := ind_ex (by omega) hA2
    have ed : tN (nI d) = d := tN_nI (by omega)
    refine v_aload_0 dX11_worn_25 ?_
    refine u_getR dX11_worn_26 gf_X11_46 (by first | assumption | rfl | exact led_1 (by assumption) | exact led_2 (by assumption) | exact bk_m (by assumption) (by first | assumption | omega) | exact bk_p (by assumption) (by first | assumption | omega) | exact bk_o (by assumption) (by first | assumption | omega) | exact bk_s (by assumption) (by first | assumption | omega) | exact bk_1 (by assumption) | exact bk_2 (by assumption) | exact bk_3 (by assumption) | exact bk_4 (by assumption) | exact bk_5 (by assumption) | exact bk_6 (by assumption) | exact bk_7 (by assumption) | exact bk_8 (by assumption) | exact sh_ring _ (by first | assumption | omega) | exact sh_imgs _ (by first | assumption | omega)) (ro_X11_8 (by assumption)) ?_
    refine u_callV_0 dX11_worn_29 ml_X11_113 mv_X1_now (by first | assumption | rfl | exact led_1 (by assumption) | exact led_2 (by assumption) | exact bk_m (by assumption) (by first | assumption | omega) | exact bk_p (by assumption) (by first | assumption | omega) | exact bk_o (by assumption) (by first | assumption | omega) | exact bk_s (by assumption) (by first | assumption | omega) | exact bk_1 (by assumption) | exact bk_2 (by assumption) | exact bk_3 (by assumption) | exact bk_4 (by assumption) | exact bk_5 (by assumption) | exact bk_6 (by assumption) | exact bk_7 (by assumption) | exact bk_8 (by assumption) | exact sh_ring _ (by first | assumption | omega) | exact sh_imgs _ (by first | assumption | omega)) (by decide) rfl (by decide) (Nat.le_of_ble_eq_true rfl) (c_X1_now hR h1 ht ?_)
    refine v_iload_1 dX11_worn_32 ?_
    refine v_iload_2 dX11_worn_33 ?_
    refine u_callV_2 dX11_worn_34 ml_X11_123 mv_X2_maskOf (by first | assumption | rfl | exact led_1 (by assumption) | exact led_2 (by assumption) | exact bk_m (by assumption) (by first | assumption | omega) | exact bk_p (by assumption) (by first | assumption | omega) | exact bk_o (by assumption) (by first | assumption | omega) | exact bk_s (by assumption) (by first | assumption | omega) | exact bk_1 (by assumption) | exact bk_2 (by assumption) | exact bk_3 (by assumption) | exact bk_4 (by assumption) | exact bk_5 (by assumption) | exact bk_6 (by assumption) | exact bk_7 (by assumption) | exact bk_8 (by assumption) | exact sh_ring _ (by first | assumption | omega) | exact sh_imgs _ (by first | assumption | omega)) (by decide) rfl (by decide) (Nat.le_of_ble_eq_true rfl) (c_X2_maskOf hR hS hL.1 (by omega) (by omega) ?_)
    refine v_iret dX11_worn_37 rfl rfl rfl rfl ?_
    exact hQ.fin h (hi_ui (by decide)) rfl (by simp only [a_worn, hc20, ep, ed, if_true])
  · (first | rw [bI_0, Bool.not_eq_false] at hc20 | rw [bI_0] at hc20 | rw [show (0 : Int32) = nI 0 from rfl, nI_eq (by omega) (by omega)] at hc20 | skip)
    refine v_iconst (v := -1) dX11_worn_23 (by decide) ?_
    refine v_iret dX11_worn_24 rfl rfl rfl rfl ?_
    exact hQ.fin h (hi_ui (by decide)) (by first | rfl | simp only [t_worn, hc20, if_true, Bool.false_eq_true, if_false]) (by simp only [a_worn, hc20, Bool.false_eq_true, if_false])
def a_owes (F : bkF) (s : LSt) (x : Int32) : Int32 := if ((inb x (F 4)) && true) = true then eP (owe F s.1 s.2.1 (tN x)) else -1
def t_owes (F : bkF) (s : LSt) (x : Int32) : Nat := trc (inb x (F 4)) (true)
theorem c_X11_owes {x : Int32} (h : ClsB I L R B B2 t tp nt tr fa pl F S u r im ic) (hQ : XQ I L R tp nt (t_owes F (S 0) x) fa pl F S u r im ic (a_owes F (S 0) x) Q) : KK 12 mX11_owes b ad [.ref (b + 0), .int x] I L R Q := by
  have hR := cb_R h
  have hb := cb_b h
  have hB := cb_B h
  have hF := cb_F h
  have hO := cb_O h
  have o0 := hO.1
  have o1 := hO.2.1
  have o2 := hO.2.2.1
  have o3 := hO.2.2.2.1
  have o4 := hO.2.2.2.2.1
  have o5 := hO.2.2.2.2.2.1
  have o6 := hO.2.2.2.2.2.2.1
  have h1 := cb_1 h
  have ht := cb_t h
  have hS := sh_ring t ht
  have hL := cb_L h
  have hK := cb_K h
  have hps := hK.pers
  refine K.of (M := mX11_owes) (lv := [some (.ref (b + 0)), some (.int x)]) (by decide) (Nat.le_of_ble_eq_true rfl) rfl ?_
  refine v_aload_0 dX11_owes_0 ?_
  refine v_aload_0 dX11_owes_1 ?_
  refine u_getR dX11_owes_2 gf_X11_29 (by first | assumption | rfl | exact led_1 (by assumption) | exact led_2 (by assumption) | exact bk_m (by assumption) (by first | assumption | omega) | exact bk_p (by assumption) (by first | assumption | omega) | exact bk_o (by assumption) (by first | assumption | omega) | exact bk_s (by assumption) (by first | assumption | omega) | exact bk_1 (by assumption) | exact bk_2 (by assumption) | exact bk_3 (by assumption) | exact bk_4 (by assumption) | exact bk_5 (by assumption) | exact bk_6 (by assumption) | exact bk_7 (by assumption) | exact bk_8 (by assumption) | exact sh_ring _ (by first | assumption | omega) | exact sh_imgs _ (by first | assumption | omega)) (by assumption) ?_
  refine v_iload_1 dX11_owes_5 ?_
  refine u_callV_1 dX11_owes_6 ml_X11_126 mv_X0_hasPromise (by first | assumption | rfl | exact led_1 (by assumption) | exact led_2 (by assumption) | exact bk_m (by assumption) (by first | assumption | omega) | exact bk_p (by assumption) (by first | assumption | omega) | exact bk_o (by assumption) (by first | assumption | omega) | exact bk_s (by assumption) (by first | assumption | omega) | exact bk_1 (by assumption) | exact bk_2 (by assumption) | exact bk_3 (by assumption) | exact bk_4 (by assumption) | exact bk_5 (by assumption) | exact bk_6 (by assumption) | exact bk_7 (by assumption) | exact bk_8 (by assumption) | exact sh_ring _ (by first | assumption | omega) | exact sh_imgs _ (by first | assumption | omega)) (by decide) rfl (by decide) (Nat.le_of_ble_eq_true rfl) (c_X0_hasPromise hB hF ?_)
  refine v_iconst (v := nI 1) dX11_owes_9 (by decide) ?_
  refine u_callV_2 dX11_owes_10 ml_X11_68 mv_X11_admit (by first | assumption | rfl | exact led_1 (by assumption) | exact led_2 (by assumption) | exact bk_m (by assumption) (by first | assumption | omega) | exact bk_p (by assumption) (by first | assumption | omega) | exact bk_o (by assumption) (by first | assumption | omega) | exact bk_s (by assumption) (by first | assumption | omega) | exact bk_1 (by assumption) | exact bk_2 (by assumption) | exact bk_3 (by assumption) | exact bk_4 (by assumption) | exact bk_5 (by assumption) | exact bk_6 (by assumption) | exact bk_7 (by assumption) | exact bk_8 (by assumption) | exact sh_ring _ (by first | assumption | omega) | exact sh_imgs _ (by first | assumption | omega)) (by decide) rfl (by decide) (Nat.le_of_ble_eq_true rfl) (c_X11_admit (p := inb x (F 4)) (q := true) ?_)
  have hh : Hi I (ui I 0 2 (nI (trc (inb x (F 4)) (true)))) L L R R := hi_ui (by decide)
  have h := cb_tr (v := trc (inb x (F 4)) (true)) h (trc_lt _ _).1 (trc_lt _ _).2
  have hF := cb_F h
  have h1 := cb_1 h
  have hL := cb_L h
  refine v_if_ne (tgt := 18) dX11_owes_13 (by decide) (fun hc13 => ?_) (fun hc13 => ?_)
  · (first | rw [bI_0, Bool.not_eq_false] at hc13 | rw [bI_0] at hc13 | rw [show (0 : Int32) = nI 0 from rfl, nI_eq (by omega) (by omega)] at hc13 | skip)
    have hA := hc13
    rw [Bool.and_eq_true] at hA
    obtain ⟨hA1, hA2⟩ := hA
    obtain ⟨o, rfl, ho⟩ := inb_ex (by omega) hA1
    have eo : tN (nI o) = o := tN_nI (by omega)
    refine v_aload_0 dX11_owes_18 ?_
    refine u_getR dX11_owes_19 gf_X11_29 (by first | assumption | rfl | exact led_1 (by assumption) | exact led_2 (by assumption) | exact bk_m (by assumption) (by first | assumption | omega) | exact bk_p (by assumption) (by first | assumption | omega) | exact bk_o (by assumption) (by first | assumption | omega) | exact bk_s (by assumption) (by first | assumption | omega) | exact bk_1 (by assumption) | exact bk_2 (by assumption) | exact bk_3 (by assumption) | exact bk_4 (by assumption) | exact bk_5 (by assumption) | exact bk_6 (by assumption) | exact bk_7 (by assumption) | exact bk_8 (by assumption) | exact sh_ring _ (by first | assumption | omega) | exact sh_imgs _ (by first | assumption | omega)) (by assumption) ?_
    refine v_iload_1 dX11_owes_22 ?_
    refine v_aload_0 dX11_owes_23 ?_
    refine u_getR dX11_owes_24 gf_X11_46 (by first | assumption | rfl | exact led_1 (by assumption) | exact led_2 (by assumption) | exact bk_m (by assumption) (by first | assumption | omega) | exact bk_p (by assumption) (by first | assumption | omega) | exact bk_o (by assumption) (by first | assumption | omega) | exact bk_s (by assumption) (by first | assumption | omega) | exact bk_1 (by assumption) | exact bk_2 (by assumption) | exact bk_3 (by assumption) | exact bk_4 (by assumption) | exact bk_5 (by assumption) | exact bk_6 (by assumption) | exact bk_7 (by assumption) | exact bk_8 (by assumption) | exact sh_ring _ (by first | assumption | omega) | exact sh_imgs _ (by first | assumption | omega)) (ro_X11_8 (by assumption)) ?_
    refine u_callV_0 dX11_owes_27 ml_X11_113 mv_X1_now (by first | assumption | rfl | exact led_1 (by assumption) | exact led_2 (by assumption) | exact bk_m (by assumption) (by first | assumption | omega) | exact bk_p (by assumption) (by first | assumption | omega) | exact bk_o (by assumption) (by first | assumption | omega) | exact bk_s (by assumption) (by first | assumption | omega) | exact bk_1 (by assumption) | exact bk_2 (by assumption) | exact bk_3 (by assumption) | exact bk_4 (by assumption) | exact bk_5 (by assumption) | exact bk_6 (by assumption) | exact bk_7 (by assumption) | exact bk_8 (by assumption) | exact sh_ring _ (by first | assumption | omega) | exact sh_imgs _ (by first | assumption | omega)) (by decide) rfl (by decide) (Nat.le_of_ble_eq_true rfl) (c_X1_now hR h1 ht ?_)
    refine u_callV_2 dX11_owes_30 ml_X11_129 mv_X0_debtorOf (by first | assumption | rfl | exact led_1 (by assumption) | exact led_2 (by assumption) | exact bk_m (by assumption) (by first | assumption | omega) | exact bk_p (by assumption) (by first | assumption | omega) | exact bk_o (by assumption) (by first | assumption | omega) | exact bk_s (by assumption) (by first | assumption | omega) | exact bk_1 (by assumption) | exact bk_2 (by assumption) | exact bk_3 (by assumption) | exact bk_4 (by assumption) | exact bk_5 (by assumption) | exact bk_6 (by assumption) | exact bk_7 (by assumption) | exact bk_8 (by assumption) | exact sh_ring _ (by first | assumption | omega) | exact sh_imgs _ (by first | assumption | omega)) (by decide) rfl (by decide) (Nat.le_of_ble_eq_true rfl) (c_X0_debtorOf hR hB hF hO hS hL.1 hps ho ?_)
    refine v_iret dX11_owes_33 rfl rfl rfl rfl ?_
    exact hQ.fin h (hi_ui (by decide)) rfl (by simp only [a_owes, hc13, eo, if_true])
  · (first | rw [bI_0, Bool.not_eq_false] at hc13 | rw [bI_0] at hc13 | rw [show (0 : Int32) = nI 0 from rfl, nI_eq (by omega) (by omega)] at hc13 | skip)
    refine v_iconst (v := -1) dX11_owes_16 (by decide) ?_
    refine v_iret dX11_owes_17 rfl rfl rfl rfl ?_
    exact hQ.fin h (hi_ui (by decide)) (by first | rfl | simp only [t_owes, hc13, if_true, Bool.false_eq_true, if_false]) (by simp only [a_owes, hc13, Bool.false_eq_true, if_false])
def a_done (F : bkF) (s : LSt) (x : Int32) : Int32 := if ((inb x (F 4)) && true) = true then bI (doneV F s.1 s.2.1 s.2.2 (tN x)) else -1
def t_done (F : bkF) (s : LSt) (x : Int32) : Nat := trc (inb x (F 4)) (true)
theorem c_X11_done {x : Int32} (h : ClsB I L R B B2 t tp nt tr fa pl F S u r im ic) (hQ : XQ I L R tp nt (t_done F (S 0) x) fa pl F S u r im ic (a_done F (S 0) x) Q) : KK 12 mX11_done b ad [.ref (b + 0), .int x] I L R Q := by
  have hR := cb_R h
  have hb := cb_b h
  have hB := cb_B h
  have hF := cb_F h
  have hO := cb_O h
  have o0 := hO.1
  have o1 := hO.2.1
  have o2 := hO.2.2.1
  have o3 := hO.2.2.2.1
  have o4 := hO.2.2.2.2.1
  have o5 := hO.2.2.2.2.2.1
  have o6 := hO.2.2.2.2.2.2.1
  have h1 := cb_1 h
  have ht := cb_t h
  have hS := sh_ring t ht
  have hL := cb_L h
  have hK := cb_K h
  have hps := hK.pers
  refine K.of (M := mX11_done) (lv := [some (.ref (b + 0)), some (.int x)]) (by decide) (Nat.le_of_ble_eq_true rfl) rfl ?_
  refine v_aload_0 dX11_done_0 ?_
  refine v_aload_0 dX11_done_1 ?_
  refine u_getR dX11_done_2 gf_X11_29 (by first | assumption | rfl | exact led_1 (by assumption) | exact led_2 (by assumption) | exact bk_m (by assumption) (by first | assumption | omega) | exact bk_p (by assumption) (by first | assumption | omega) | exact bk_o (by assumption) (by first | assumption | omega) | exact bk_s (by assumption) (by first | assumption | omega) | exact bk_1 (by assumption) | exact bk_2 (by assumption) | exact bk_3 (by assumption) | exact bk_4 (by assumption) | exact bk_5 (by assumption) | exact bk_6 (by assumption) | exact bk_7 (by assumption) | exact bk_8 (by assumption) | exact sh_ring _ (by first | assumption | omega) | exact sh_imgs _ (by first | assumption | omega)) (by assumption) ?_
  refine v_iload_1 dX11_done_5 ?_
  refine u_callV_1 dX11_done_6 ml_X11_126 mv_X0_hasPromise (by first | assumption | rfl | exact led_1 (by assumption) | exact led_2 (by assumption) | exact bk_m (by assumption) (by first | assumption | omega) | exact bk_p (by assumption) (by first | assumption | omega) | exact bk_o (by assumption) (by first | assumption | omega) | exact bk_s (by assumption) (by first | assumption | omega) | exact bk_1 (by assumption) | exact bk_2 (by assumption) | exact bk_3 (by assumption) | exact bk_4 (by assumption) | exact bk_5 (by assumption) | exact bk_6 (by assumption) | exact bk_7 (by assumption) | exact bk_8 (by assumption) | exact sh_ring _ (by first | assumption | omega) | exact sh_imgs _ (by first | assumption | omega)) (by decide) rfl (by decide) (Nat.le_of_ble_eq_true rfl) (c_X0_hasPromise hB hF ?_)
  refine v_iconst (v := nI 1) dX11_done_9 (by decide) ?_
  refine u_callV_2 dX11_done_10 ml_X11_68 mv_X11_admit (by first | assumption | rfl | exact led_1 (by assumption) | exact led_2 (by assumption) | exact bk_m (by assumption) (by first | assumption | omega) | exact bk_p (by assumption) (by first | assumption | omega) | exact bk_o (by assumption) (by first | assumption | omega) | exact bk_s (by assumption) (by first | assumption | omega) | exact bk_1 (by assumption) | exact bk_2 (by assumption) | exact bk_3 (by assumption) | exact bk_4 (by assumption) | exact bk_5 (by assumption) | exact bk_6 (by assumption) | exact bk_7 (by assumption) | exact bk_8 (by assumption) | exact sh_ring _ (by first | assumption | omega) | exact sh_imgs _ (by first | assumption | omega)) (by decide) rfl (by decide) (Nat.le_of_ble_eq_true rfl) (c_X11_admit (p := inb x (F 4)) (q := true) ?_)
  have hh : Hi I (ui I 0 2 (nI (trc (inb x (F 4)) (true)))) L L R R := hi_ui (by decide)
  have h := cb_tr (v := trc (inb x (F 4)) (true)) h (trc_lt _ _).1 (trc_lt _ _).2
  have hF := cb_F h
  have h1 := cb_1 h
  have hL := cb_L h
  refine v_if_ne (tgt := 18) dX11_done_13 (by decide) (fun hc13 => ?_) (fun hc13 => ?_)
  · (first | rw [bI_0, Bool.not_eq_false] at hc13 | rw [bI_0] at hc13 | rw [show (0 : Int32) = nI 0 from rfl, nI_eq (by omega) (by omega)] at hc13 | skip)
    have hA := hc13
    rw [Bool.and_eq_true] at hA
    obtain ⟨hA1, hA2⟩ := hA
    obtain ⟨o, rfl, ho⟩ := inb_ex (by omega) hA1
    have eo : tN (nI o) = o := tN_nI (by omega)
    refine v_aload_0 dX11_done_18 ?_
    refine u_getR dX11_done_19 gf_X11_29 (by first | assumption | rfl | exact led_1 (by assumption) | exact led_2 (by assumption) | exact bk_m (by assumption) (by first | assumption | omega) | exact bk_p (by assumption) (by first | assumption | omega) | exact bk_o (by assumption) (by first | assumption | omega) | exact bk_s (by assumption) (by first | assumption | omega) | exact bk_1 (by assumption) | exact bk_2 (by assumption) | exact bk_3 (by assumption) | exact bk_4 (by assumption) | exact bk_5 (by assumption) | exact bk_6 (by assumption) | exact bk_7 (by assumption) | exact bk_8 (by assumption) | exact sh_ring _ (by first | assumption | omega) | exact sh_imgs _ (by first | assumption | omega)) (by assumption) ?_
    refine v_iload_1 dX11_done_22 ?_
    refine v_aload_0 dX11_done_23 ?_
    refine u_getR dX11_done_24 gf_X11_46 (by first | assumption | rfl | exact led_1 (by assumption) | exact led_2 (by assumption) | exact bk_m (by assumption) (by first | assumption | omega) | exact bk_p (by assumption) (by first | assumption | omega) | exact bk_o (by assumption) (by first | assumption | omega) | exact bk_s (by assumption) (by first | assumption | omega) | exact bk_1 (by assumption) | exact bk_2 (by assumption) | exact bk_3 (by assumption) | exact bk_4 (by assumption) | exact bk_5 (by assumption) | exact bk_6 (by assumption) | exact bk_7 (by assumption) | exact bk_8 (by assumption) | exact sh_ring _ (by first | assumption | omega) | exact sh_imgs _ (by first | assumption | omega)) (ro_X11_8 (by assumption)) ?_
    refine u_callV_0 dX11_done_27 ml_X11_113 mv_X1_now (by first | assumption | rfl | exact led_1 (by assumption) | exact led_2 (by assumption) | exact bk_m (by assumption) (by first | assumption | omega) | exact bk_p (by assumption) (by first | assumption | omega) | exact bk_o (by assumption) (by first | assumption | omega) | exact bk_s (by assumption) (by first | assumption | omega) | exact bk_1 (by assumption) | exact bk_2 (by assumption) | exact bk_3 (by assumption) | exact bk_4 (by assumption) | exact bk_5 (by assumption) | exact bk_6 (by assumption) | exact bk_7 (by assumption) | exact bk_8 (by assumption) | exact sh_ring _ (by first | assumption | omega) | exact sh_imgs _ (by first | assumption | omega)) (by decide) rfl (by decide) (Nat.le_of_ble_eq_true rfl) (c_X1_now hR h1 ht ?_)
    refine u_callV_2 dX11_done_30 ml_X11_133 mv_X0_isDone (by first | assumption | rfl | exact led_1 (by assumption) | exact led_2 (by assumption) | exact bk_m (by assumption) (by first | assumption | omega) | exact bk_p (by assumption) (by first | assumption | omega) | exact bk_o (by assumption) (by first | assumption | omega) | exact bk_s (by assumption) (by first | assumption | omega) | exact bk_1 (by assumption) | exact bk_2 (by assumption) | exact bk_3 (by assumption) | exact bk_4 (by assumption) | exact bk_5 (by assumption) | exact bk_6 (by assumption) | exact bk_7 (by assumption) | exact bk_8 (by assumption) | exact sh_ring _ (by first | assumption | omega) | exact sh_imgs _ (by first | assumption | omega)) (by decide) rfl (by decide) (Nat.le_of_ble_eq_true rfl) (c_X0_isDone hR hB hF hO hS hL.1 hL.2 hps ho ?_)
    refine u_callS_1 dX11_done_33 ml_X11_106 ms_X11_asNumber (by decide) (Nat.le_of_ble_eq_true rfl) (c_X11_asNumber ?_)
    refine v_iret dX11_done_36 rfl rfl rfl rfl ?_
    exact hQ.fin h (hi_ui (by decide)) rfl (by simp only [a_done, hc13, eo, if_true])
  · (first | rw [bI_0, Bool.not_eq_false] at hc13 | rw [bI_0] at hc13 | rw [show (0 : Int32) = nI 0 from rfl, nI_eq (by omega) (by omega)] at hc13 | skip)
    refine v_iconst (v := -1) dX11_done_16 (by decide) ?_
    refine v_iret dX11_done_17 rfl rfl rfl rfl ?_
    exact hQ.fin h (hi_ui (by decide)) (by first | rfl | simp only [t_done, hc13, if_true, Bool.false_eq_true, if_false]) (by simp only [a_done, hc13, Bool.false_eq_true, if_false])
def a_credit (F : bkF) (s : LSt) (x : Int32) (y : Int32) : Int32 := if ((inb x (F 2)) && indn y (F 0)) = true then nI (crd F s.1 s.2.1 s.2.2 (tN x) 1 (tN y) (F (20 + tN x))) else -1
def t_credit (F : bkF) (s : LSt) (x : Int32) (y : Int32) : Nat := trc (inb x (F 2)) (indn y (F 0))
theorem c_X11_credit {x y : Int32} (h : ClsB I L R B B2 t tp nt tr fa pl F S u r im ic) (hQ : XQ I L R tp nt (t_credit F (S 0) x y) fa pl F S u r im ic (a_credit F (S 0) x y) Q) : KK 12 mX11_credit b ad [.ref (b + 0), .int x, .int y] I L R Q := by
  have hR := cb_R h
  have hb := cb_b h
  have hB := cb_B h
  have hF := cb_F h
  have hO := cb_O h
  have o0 := hO.1
  have o1 := hO.2.1
  have o2 := hO.2.2.1
  have o3 := hO.2.2.2.1
  have o4 := hO.2.2.2.2.1
  have o5 := hO.2.2.2.2.2.1
  have o6 := hO.2.2.2.2.2.2.1
  have h1 := cb_1 h
  have ht := cb_t h
  have hS := sh_ring t ht
  have hL := cb_L h
  have hK := cb_K h
  have hps := hK.pers
  refine K.of (M := mX11_credit) (lv := [some (.ref (b + 0)), some (.int x), some (.int y)]) (by decide) (Nat.le_of_ble_eq_true rfl) rfl ?_
  refine v_aload_0 dX11_credit_0 ?_
  refine v_aload_0 dX11_credit_1 ?_
  refine u_getR dX11_credit_2 gf_X11_29 (by first | assumption | rfl | exact led_1 (by assumption) | exact led_2 (by assumption) | exact bk_m (by assumption) (by first | assumption | omega) | exact bk_p (by assumption) (by first | assumption | omega) | exact bk_o (by assumption) (by first | assumption | omega) | exact bk_s (by assumption) (by first | assumption | omega) | exact bk_1 (by assumption) | exact bk_2 (by assumption) | exact bk_3 (by assumption) | exact bk_4 (by assumption) | exact bk_5 (by assumption) | exact bk_6 (by assumption) | exact bk_7 (by assumption) | exact bk_8 (by assumption) | exact sh_ring _ (by first | assumption | omega) | exact sh_imgs _ (by first | assumption | omega)) (by assumption) ?_
  refine v_iload_1 dX11_credit_5 ?_
  refine u_callV_1 dX11_credit_6 ml_X11_96 mv_X0_hasMask (by first | assumption | rfl | exact led_1 (by assumption) | exact led_2 (by assumption) | exact bk_m (by assumption) (by first | assumption | omega) | exact bk_p (by assumption) (by first | assumption | omega) | exact bk_o (by assumption) (by first | assumption | omega) | exact bk_s (by assumption) (by first | assumption | omega) | exact bk_1 (by assumption) | exact bk_2 (by assumption) | exact bk_3 (by assumption) | exact bk_4 (by assumption) | exact bk_5 (by assumption) | exact bk_6 (by assumption) | exact bk_7 (by assumption) | exact bk_8 (by assumption) | exact sh_ring _ (by first | assumption | omega) | exact sh_imgs _ (by first | assumption | omega)) (by decide) rfl (by decide) (Nat.le_of_ble_eq_true rfl) (c_X0_hasMask hB hF ?_)
  refine v_aload_0 dX11_credit_9 ?_
  refine u_getR dX11_credit_10 gf_X11_29 (by first | assumption | rfl | exact led_1 (by assumption) | exact led_2 (by assumption) | exact bk_m (by assumption) (by first | assumption | omega) | exact bk_p (by assumption) (by first | assumption | omega) | exact bk_o (by assumption) (by first | assumption | omega) | exact bk_s (by assumption) (by first | assumption | omega) | exact bk_1 (by assumption) | exact bk_2 (by assumption) | exact bk_3 (by assumption) | exact bk_4 (by assumption) | exact bk_5 (by assumption) | exact bk_6 (by assumption) | exact bk_7 (by assumption) | exact bk_8 (by assumption) | exact sh_ring _ (by first | assumption | omega) | exact sh_imgs _ (by first | assumption | omega)) (by assumption) ?_
  refine v_iload_2 dX11_credit_13 ?_
  refine u_callV_1 dX11_credit_14 ml_X11_137 mv_X0_hasDayOrNone (by first | assumption | rfl | exact led_1 (by assumption) | exact led_2 (by assumption) | exact bk_m (by assumption) (by first | assumption | omega) | exact bk_p (by assumption) (by first | assumption | omega) | exact bk_o (by assumption) (by first | assumption | omega) | exact bk_s (by assumption) (by first | assumption | omega) | exact bk_1 (by assumption) | exact bk_2 (by assumption) | exact bk_3 (by assumption) | exact bk_4 (by assumption) | exact bk_5 (by assumption) | exact bk_6 (by assumption) | exact bk_7 (by assumption) | exact bk_8 (by assumption) | exact sh_ring _ (by first | assumption | omega) | exact sh_imgs _ (by first | assumption | omega)) (by decide) rfl (by decide) (Nat.le_of_ble_eq_true rfl) (c_X0_hasDayOrNone hB hF ?_)
  refine u_callV_2 dX11_credit_17 ml_X11_68 mv_X11_admit (by first | assumption | rfl | exact led_1 (by assumption) | exact led_2 (by assumption) | exact bk_m (by assumption) (by first | assumption | omega) | exact bk_p (by assumption) (by first | assumption | omega) | exact bk_o (by assumption) (by first | assumption | omega) | exact bk_s (by assumption) (by first | assumption | omega) | exact bk_1 (by assumption) | exact bk_2 (by assumption) | exact bk_3 (by assumption) | exact bk_4 (by assumption) | exact bk_5 (by assumption) | exact bk_6 (by assumption) | exact bk_7 (by assumption) | exact bk_8 (by assumption) | exact sh_ring _ (by first | assumption | omega) | exact sh_imgs _ (by first | assumption | omega)) (by decide) rfl (by decide) (Nat.le_of_ble_eq_true rfl) (c_X11_admit (p := inb x (F 2)) (q := indn y (F 0)) ?_)
  have hh : Hi I (ui I 0 2 (nI (trc (inb x (F 2)) (indn y (F 0))))) L L R R := hi_ui (by decide)
  have h := cb_tr (v := trc (inb x (F 2)) (indn y (F 0))) h (trc_lt _ _).1 (trc_lt _ _).2
  have hF := cb_F h
  have h1 := cb_1 h
  have hL := cb_L h
  refine v_if_ne (tgt := 25) dX11_credit_20 (by decide) (fun hc20 => ?_) (fun hc20 => ?_)
  · (first | rw [bI_0, Bool.not_eq_false] at hc20 | rw [bI_0] at hc20 | rw [show (0 : Int32) = nI 0 from rfl, nI_eq (by omega) (by omega)] at hc20 | skip)
    have hA := hc20
    rw [Bool.and_eq_true] at hA
    obtain ⟨hA1, hA2⟩ := hA
    obtain ⟨m, rfl, hm⟩ := inb_ex (by omega) hA1
    have em : tN (nI m) = m := tN_nI (by omega)
    obtain ⟨d, rfl, hd⟩ := indn_ex (by omega) hA2
    have ed : tN (nI d) = d := tN_nI (by omega)
    refine v_aload_0 dX11_credit_25 ?_
    refine u_getR dX11_credit_26 gf_X11_29 (by first | assumption | rfl | exact led_1 (by assumption) | exact led_2 (by assumption) | exact bk_m (by assumption) (by first | assumption | omega) | exact bk_p (by assumption) (by first | assumption | omega) | exact bk_o (by assumption) (by first | assumption | omega) | exact bk_s (by assumption) (by first | assumption | omega) | exact bk_1 (by assumption) | exact bk_2 (by assumption) | exact bk_3 (by assumption) | exact bk_4 (by assumption) | exact bk_5 (by assumption) | exact bk_6 (by assumption) | exact bk_7 (by assumption) | exact bk_8 (by assumption) | exact sh_ring _ (by first | assumption | omega) | exact sh_imgs _ (by first | assumption | omega)) (by assumption) ?_
    refine v_iload_1 dX11_credit_29 ?_
    refine v_iload_2 dX11_credit_30 ?_
    refine v_aload_0 dX11_credit_31 ?_
    refine u_getR dX11_credit_32 gf_X11_46 (by first | assumption | rfl | exact led_1 (by assumption) | exact led_2 (by assumption) | exact bk_m (by assumption) (by first | assumption | omega) | exact bk_p (by assumption) (by first | assumption | omega) | exact bk_o (by assumption) (by first | assumption | omega) | exact bk_s (by assumption) (by first | assumption | omega) | exact bk_1 (by assumption) | exact bk_2 (by assumption) | exact bk_3 (by assumption) | exact bk_4 (by assumption) | exact bk_5 (by assumption) | exact bk_6 (by assumption) | exact bk_7 (by assumption) | exact bk_8 (by assumption) | exact sh_ring _ (by first | assumption | omega) | exact sh_imgs _ (by first | assumption | omega)) (ro_X11_8 (by assumption)) ?_
    refine u_callV_0 dX11_credit_35 ml_X11_113 mv_X1_now (by first | assumption | rfl | exact led_1 (by assumption) | exact led_2 (by assumption) | exact bk_m (by assumption) (by first | assumption | omega) | exact bk_p (by assumption) (by first | assumption | omega) | exact bk_o (by assumption) (by first | assumption | omega) | exact bk_s (by assumption) (by first | assumption | omega) | exact bk_1 (by assumption) | exact bk_2 (by assumption) | exact bk_3 (by assumption) | exact bk_4 (by assumption) | exact bk_5 (by assumption) | exact bk_6 (by assumption) | exact bk_7 (by assumption) | exact bk_8 (by assumption) | exact sh_ring _ (by first | assumption | omega) | exact sh_imgs _ (by first | assumption | omega)) (by decide) rfl (by decide) (Nat.le_of_ble_eq_true rfl) (c_X1_now hR h1 ht ?_)
    refine u_callV_3 dX11_credit_38 ml_X11_140 mv_X0_creditBehind (by first | assumption | rfl | exact led_1 (by assumption) | exact led_2 (by assumption) | exact bk_m (by assumption) (by first | assumption | omega) | exact bk_p (by assumption) (by first | assumption | omega) | exact bk_o (by assumption) (by first | assumption | omega) | exact bk_s (by assumption) (by first | assumption | omega) | exact bk_1 (by assumption) | exact bk_2 (by assumption) | exact bk_3 (by assumption) | exact bk_4 (by assumption) | exact bk_5 (by assumption) | exact bk_6 (by assumption) | exact bk_7 (by assumption) | exact bk_8 (by assumption) | exact sh_ring _ (by first | assumption | omega) | exact sh_imgs _ (by first | assumption | omega)) (by decide) rfl (by decide) (Nat.le_of_ble_eq_true rfl) (c_X0_creditBehind hR hB hF hO hS hL.1 hL.2 hps hm (by omega) ?_)
    refine v_iret dX11_credit_41 rfl rfl rfl rfl ?_
    exact hQ.fin h (hi_ui (by decide)) rfl (by simp only [a_credit, hc20, em, ed, if_true])
  · (first | rw [bI_0, Bool.not_eq_false] at hc20 | rw [bI_0] at hc20 | rw [show (0 : Int32) = nI 0 from rfl, nI_eq (by omega) (by omega)] at hc20 | skip)
    refine v_iconst (v := -1) dX11_credit_23 (by decide) ?_
    refine v_iret dX11_credit_24 rfl rfl rfl rfl ?_
    exact hQ.fin h (hi_ui (by decide)) (by first | rfl | simp only [t_credit, hc20, if_true, Bool.false_eq_true, if_false]) (by simp only [a_credit, hc20, Bool.false_eq_true, if_false])
def a_debt (F : bkF) (s : LSt) (x : Int32) (y : Int32) : Int32 := if ((inb x (F 3)) && indn y (F 0)) = true then sui (finesf F s.1 s.2.1 s.2.2 (some (tN x)) (tN y)) 0 (F 4) 0 else -1
def t_debt (F : bkF) (s : LSt) (x : Int32) (y : Int32) : Nat := trc (inb x (F 3)) (indn y (F 0))
theorem c_X11_debt {x y : Int32} (h : ClsB I L R B B2 t tp nt tr fa pl F S u r im ic) (hQ : XQ I L R tp nt (t_debt F (S 0) x y) fa pl F S u r im ic (a_debt F (S 0) x y) Q) : KK 12 mX11_debt b ad [.ref (b + 0), .int x, .int y] I L R Q := by
  have hR := cb_R h
  have hb := cb_b h
  have hB := cb_B h
  have hF := cb_F h
  have hO := cb_O h
  have o0 := hO.1
  have o1 := hO.2.1
  have o2 := hO.2.2.1
  have o3 := hO.2.2.2.1
  have o4 := hO.2.2.2.2.1
  have o5 := hO.2.2.2.2.2.1
  have o6 := hO.2.2.2.2.2.2.1
  have h1 := cb_1 h
  have ht := cb_t h
  have hS := sh_ring t ht
  have hL := cb_L h
  have hK := cb_K h
  have hps := hK.pers
  refine K.of (M := mX11_debt) (lv := [some (.ref (b + 0)), some (.int x), some (.int y)]) (by decide) (Nat.le_of_ble_eq_true rfl) rfl ?_
  refine v_aload_0 dX11_debt_0 ?_
  refine v_aload_0 dX11_debt_1 ?_
  refine u_getR dX11_debt_2 gf_X11_29 (by first | assumption | rfl | exact led_1 (by assumption) | exact led_2 (by assumption) | exact bk_m (by assumption) (by first | assumption | omega) | exact bk_p (by assumption) (by first | assumption | omega) | exact bk_o (by assumption) (by first | assumption | omega) | exact bk_s (by assumption) (by first | assumption | omega) | exact bk_1 (by assumption) | exact bk_2 (by assumption) | exact bk_3 (by assumption) | exact bk_4 (by assumption) | exact bk_5 (by assumption) | exact bk_6 (by assumption) | exact bk_7 (by assumption) | exact bk_8 (by assumption) | exact sh_ring _ (by first | assumption | omega) | exact sh_imgs _ (by first | assumption | omega)) (by assumption) ?_
  refine v_iload_1 dX11_debt_5 ?_
  refine u_callV_1 dX11_debt_6 ml_X11_99 mv_X0_hasPerson (by first | assumption | rfl | exact led_1 (by assumption) | exact led_2 (by assumption) | exact bk_m (by assumption) (by first | assumption | omega) | exact bk_p (by assumption) (by first | assumption | omega) | exact bk_o (by assumption) (by first | assumption | omega) | exact bk_s (by assumption) (by first | assumption | omega) | exact bk_1 (by assumption) | exact bk_2 (by assumption) | exact bk_3 (by assumption) | exact bk_4 (by assumption) | exact bk_5 (by assumption) | exact bk_6 (by assumption) | exact bk_7 (by assumption) | exact bk_8 (by assumption) | exact sh_ring _ (by first | assumption | omega) | exact sh_imgs _ (by first | assumption | omega)) (by decide) rfl (by decide) (Nat.le_of_ble_eq_true rfl) (c_X0_hasPerson hB hF ?_)
  refine v_aload_0 dX11_debt_9 ?_
  refine u_getR dX11_debt_10 gf_X11_29 (by first | assumption | rfl | exact led_1 (by assumption) | exact led_2 (by assumption) | exact bk_m (by assumption) (by first | assumption | omega) | exact bk_p (by assumption) (by first | assumption | omega) | exact bk_o (by assumption) (by first | assumption | omega) | exact bk_s (by assumption) (by first | assumption | omega) | exact bk_1 (by assumption) | exact bk_2 (by assumption) | exact bk_3 (by assumption) | exact bk_4 (by assumption) | exact bk_5 (by assumption) | exact bk_6 (by assumption) | exact bk_7 (by assumption) | exact bk_8 (by assumption) | exact sh_ring _ (by first | assumption | omega) | exact sh_imgs _ (by first | assumption | omega)) (by assumption) ?_
  refine v_iload_2 dX11_debt_13 ?_
  refine u_callV_1 dX11_debt_14 ml_X11_137 mv_X0_hasDayOrNone (by first | assumption | rfl | exact led_1 (by assumption) | exact led_2 (by assumption) | exact bk_m (by assumption) (by first | assumption | omega) | exact bk_p (by assumption) (by first | assumption | omega) | exact bk_o (by assumption) (by first | assumption | omega) | exact bk_s (by assumption) (by first | assumption | omega) | exact bk_1 (by assumption) | exact bk_2 (by assumption) | exact bk_3 (by assumption) | exact bk_4 (by assumption) | exact bk_5 (by assumption) | exact bk_6 (by assumption) | exact bk_7 (by assumption) | exact bk_8 (by assumption) | exact sh_ring _ (by first | assumption | omega) | exact sh_imgs _ (by first | assumption | omega)) (by decide) rfl (by decide) (Nat.le_of_ble_eq_true rfl) (c_X0_hasDayOrNone hB hF ?_)
  refine u_callV_2 dX11_debt_17 ml_X11_68 mv_X11_admit (by first | assumption | rfl | exact led_1 (by assumption) | exact led_2 (by assumption) | exact bk_m (by assumption) (by first | assumption | omega) | exact bk_p (by assumption) (by first | assumption | omega) | exact bk_o (by assumption) (by first | assumption | omega) | exact bk_s (by assumption) (by first | assumption | omega) | exact bk_1 (by assumption) | exact bk_2 (by assumption) | exact bk_3 (by assumption) | exact bk_4 (by assumption) | exact bk_5 (by assumption) | exact bk_6 (by assumption) | exact bk_7 (by assumption) | exact bk_8 (by assumption) | exact sh_ring _ (by first | assumption | omega) | exact sh_imgs _ (by first | assumption | omega)) (by decide) rfl (by decide) (Nat.le_of_ble_eq_true rfl) (c_X11_admit (p := inb x (F 3)) (q := indn y (F 0)) ?_)
  have hh : Hi I (ui I 0 2 (nI (trc (inb x (F 3)) (indn y (F 0))))) L L R R := hi_ui (by decide)
  have h := cb_tr (v := trc (inb x (F 3)) (indn y (F 0))) h (trc_lt _ _).1 (trc_lt _ _).2
  have hF := cb_F h
  have h1 := cb_1 h
  have hL := cb_L h
  refine v_if_ne (tgt := 25) dX11_debt_20 (by decide) (fun hc20 => ?_) (fun hc20 => ?_)
  · (first | rw [bI_0, Bool.not_eq_false] at hc20 | rw [bI_0] at hc20 | rw [show (0 : Int32) = nI 0 from rfl, nI_eq (by omega) (by omega)] at hc20 | skip)
    have hA := hc20
    rw [Bool.and_eq_true] at hA
    obtain ⟨hA1, hA2⟩ := hA
    obtain ⟨p, rfl, hp⟩ := inb_ex (by omega) hA1
    have ep : tN (nI p) = p := tN_nI (by omega)
    obtain ⟨d, rfl, hd⟩ := indn_ex (by omega) hA2
    have ed : tN (nI d) = d := tN_nI (by omega)
    refine v_aload_0 dX11_debt_25 ?_
    refine u_getR dX11_debt_26 gf_X11_29 (by first | assumption | rfl | exact led_1 (by assumption) | exact led_2 (by assumption) | exact bk_m (by assumption) (by first | assumption | omega) | exact bk_p (by assumption) (by first | assumption | omega) | exact bk_o (by assumption) (by first | assumption | omega) | exact bk_s (by assumption) (by first | assumption | omega) | exact bk_1 (by assumption) | exact bk_2 (by assumption) | exact bk_3 (by assumption) | exact bk_4 (by assumption) | exact bk_5 (by assumption) | exact bk_6 (by assumption) | exact bk_7 (by assumption) | exact bk_8 (by assumption) | exact sh_ring _ (by first | assumption | omega) | exact sh_imgs _ (by first | assumption | omega)) (by assumption) ?_
    refine v_iload_1 dX11_debt_29 ?_
    refine v_iload_2 dX11_debt_30 ?_
    refine v_aload_0 dX11_debt_31 ?_
    refine u_getR dX11_debt_32 gf_X11_46 (by first | assumption | rfl | exact led_1 (by assumption) | exact led_2 (by assumption) | exact bk_m (by assumption) (by first | assumption | omega) | exact bk_p (by assumption) (by first | assumption | omega) | exact bk_o (by assumption) (by first | assumption | omega) | exact bk_s (by assumption) (by first | assumption | omega) | exact bk_1 (by assumption) | exact bk_2 (by assumption) | exact bk_3 (by assumption) | exact bk_4 (by assumption) | exact bk_5 (by assumption) | exact bk_6 (by assumption) | exact bk_7 (by assumption) | exact bk_8 (by assumption) | exact sh_ring _ (by first | assumption | omega) | exact sh_imgs _ (by first | assumption | omega)) (ro_X11_8 (by assumption)) ?_
    refine u_callV_0 dX11_debt_35 ml_X11_113 mv_X1_now (by first | assumption | rfl | exact led_1 (by assumption) | exact led_2 (by assumption) | exact bk_m (by assumption) (by first | assumption | omega) | exact bk_p (by assumption) (by first | assumption | omega) | exact bk_o (by assumption) (by first | assumption | omega) | exact bk_s (by assumption) (by first | assumption | omega) | exact bk_1 (by assumption) | exact bk_2 (by assumption) | exact bk_3 (by assumption) | exact bk_4 (by assumption) | exact bk_5 (by assumption) | exact bk_6 (by assumption) | exact bk_7 (by assumption) | exact bk_8 (by assumption) | exact sh_ring _ (by first | assumption | omega) | exact sh_imgs _ (by first | assumption | omega)) (by decide) rfl (by decide) (Nat.le_of_ble_eq_true rfl) (c_X1_now hR h1 ht ?_)
    refine u_callV_3 dX11_debt_38 ml_X11_144 mv_X0_finesOf (by first | assumption | rfl | exact led_1 (by assumption) | exact led_2 (by assumption) | exact bk_m (by assumption) (by first | assumption | omega) | exact bk_p (by assumption) (by first | assumption | omega) | exact bk_o (by assumption) (by first | assumption | omega) | exact bk_s (by assumption) (by first | assumption | omega) | exact bk_1 (by assumption) | exact bk_2 (by assumption) | exact bk_3 (by assumption) | exact bk_4 (by assumption) | exact bk_5 (by assumption) | exact bk_6 (by assumption) | exact bk_7 (by assumption) | exact bk_8 (by assumption) | exact sh_ring _ (by first | assumption | omega) | exact sh_imgs _ (by first | assumption | omega)) (by decide) rfl (by decide) (Nat.le_of_ble_eq_true rfl) (c_X0_finesOf (od := some p) hR hB hF hO hS hL.1 hL.2 hps (fun z e => by cases e; exact hp) (by omega) ?_)
    refine v_iret dX11_debt_41 rfl rfl rfl rfl ?_
    exact hQ.fin h (hi_ui (by decide)) rfl (by simp only [a_debt, hc20, ep, ed, if_true])
  · (first | rw [bI_0, Bool.not_eq_false] at hc20 | rw [bI_0] at hc20 | rw [show (0 : Int32) = nI 0 from rfl, nI_eq (by omega) (by omega)] at hc20 | skip)
    refine v_iconst (v := -1) dX11_debt_23 (by decide) ?_
    refine v_iret dX11_debt_24 rfl rfl rfl rfl ?_
    exact hQ.fin h (hi_ui (by decide)) (by first | rfl | simp only [t_debt, hc20, if_true, Bool.false_eq_true, if_false]) (by simp only [a_debt, hc20, Bool.false_eq_true, if_false])
def a_gain (F : bkF) (s : LSt) (x : Int32) (y : Int32) : Int32 := if ((inb x (F 3)) && indn y (F 0)) = true then sui (earnf F s.1 s.2.1 s.2.2 (some (tN x)) (tN y)) 0 (F 4) 0 - sui (finesf F s.1 s.2.1 s.2.2 (some (tN x)) (tN y)) 0 (F 4) 0 else -10000
def t_gain (F : bkF) (s : LSt) (x : Int32) (y : Int32) : Nat := trc (inb x (F 3)) (indn y (F 0))
theorem c_X11_gain {x y : Int32} (h : ClsB I L R B B2 t tp nt tr fa pl F S u r im ic) (hQ : XQ I L R tp nt (t_gain F (S 0) x y) fa pl F S u r im ic (a_gain F (S 0) x y) Q) : KK 12 mX11_gain b ad [.ref (b + 0), .int x, .int y] I L R Q := by
  have hR := cb_R h
  have hb := cb_b h
  have hB := cb_B h
  have hF := cb_F h
  have hO := cb_O h
  have o0 := hO.1
  have o1 := hO.2.1
  have o2 := hO.2.2.1
  have o3 := hO.2.2.2.1
  have o4 := hO.2.2.2.2.1
  have o5 := hO.2.2.2.2.2.1
  have o6 := hO.2.2.2.2.2.2.1
  have h1 := cb_1 h
  have ht := cb_t h
  have hS := sh_ring t ht
  have hL := cb_L h
  have hK := cb_K h
  have hps := hK.pers
  refine K.of (M := mX11_gain) (lv := [some (.ref (b + 0)), some (.int x), some (.int y)]) (by decide) (Nat.le_of_ble_eq_true rfl) rfl ?_
  refine v_aload_0 dX11_gain_0 ?_
  refine v_aload_0 dX11_gain_1 ?_
  refine u_getR dX11_gain_2 gf_X11_29 (by first | assumption | rfl | exact led_1 (by assumption) | exact led_2 (by assumption) | exact bk_m (by assumption) (by first | assumption | omega) | exact bk_p (by assumption) (by first | assumption | omega) | exact bk_o (by assumption) (by first | assumption | omega) | exact bk_s (by assumption) (by first | assumption | omega) | exact bk_1 (by assumption) | exact bk_2 (by assumption) | exact bk_3 (by assumption) | exact bk_4 (by assumption) | exact bk_5 (by assumption) | exact bk_6 (by assumption) | exact bk_7 (by assumption) | exact bk_8 (by assumption) | exact sh_ring _ (by first | assumption | omega) | exact sh_imgs _ (by first | assumption | omega)) (by assumption) ?_
  refine v_iload_1 dX11_gain_5 ?_
  refine u_callV_1 dX11_gain_6 ml_X11_99 mv_X0_hasPerson (by first | assumption | rfl | exact led_1 (by assumption) | exact led_2 (by assumption) | exact bk_m (by assumption) (by first | assumption | omega) | exact bk_p (by assumption) (by first | assumption | omega) | exact bk_o (by assumption) (by first | assumption | omega) | exact bk_s (by assumption) (by first | assumption | omega) | exact bk_1 (by assumption) | exact bk_2 (by assumption) | exact bk_3 (by assumption) | exact bk_4 (by assumption) | exact bk_5 (by assumption) | exact bk_6 (by assumption) | exact bk_7 (by assumption) | exact bk_8 (by assumption) | exact sh_ring _ (by first | assumption | omega) | exact sh_imgs _ (by first | assumption | omega)) (by decide) rfl (by decide) (Nat.le_of_ble_eq_true rfl) (c_X0_hasPerson hB hF ?_)
  refine v_aload_0 dX11_gain_9 ?_
  refine u_getR dX11_gain_10 gf_X11_29 (by first | assumption | rfl | exact led_1 (by assumption) | exact led_2 (by assumption) | exact bk_m (by assumption) (by first | assumption | omega) | exact bk_p (by assumption) (by first | assumption | omega) | exact bk_o (by assumption) (by first | assumption | omega) | exact bk_s (by assumption) (by first | assumption | omega) | exact bk_1 (by assumption) | exact bk_2 (by assumption) | exact bk_3 (by assumption) | exact bk_4 (by assumption) | exact bk_5 (by assumption) | exact bk_6 (by assumption) | exact bk_7 (by assumption) | exact bk_8 (by assumption) | exact sh_ring _ (by first | assumption | omega) | exact sh_imgs _ (by first | assumption | omega)) (by assumption) ?_
  refine v_iload_2 dX11_gain_13 ?_
  refine u_callV_1 dX11_gain_14 ml_X11_137 mv_X0_hasDayOrNone (by first | assumption | rfl | exact led_1 (by assumption) | exact led_2 (by assumption) | exact bk_m (by assumption) (by first | assumption | omega) | exact bk_p (by assumption) (by first | assumption | omega) | exact bk_o (by assumption) (by first | assumption | omega) | exact bk_s (by assumption) (by first | assumption | omega) | exact bk_1 (by assumption) | exact bk_2 (by assumption) | exact bk_3 (by assumption) | exact bk_4 (by assumption) | exact bk_5 (by assumption) | exact bk_6 (by assumption) | exact bk_7 (by assumption) | exact bk_8 (by assumption) | exact sh_ring _ (by first | assumption | omega) | exact sh_imgs _ (by first | assumption | omega)) (by decide) rfl (by decide) (Nat.le_of_ble_eq_true rfl) (c_X0_hasDayOrNone hB hF ?_)
  refine u_callV_2 dX11_gain_17 ml_X11_68 mv_X11_admit (by first | assumption | rfl | exact led_1 (by assumption) | exact led_2 (by assumption) | exact bk_m (by assumption) (by first | assumption | omega) | exact bk_p (by assumption) (by first | assumption | omega) | exact bk_o (by assumption) (by first | assumption | omega) | exact bk_s (by assumption) (by first | assumption | omega) | exact bk_1 (by assumption) | exact bk_2 (by assumption) | exact bk_3 (by assumption) | exact bk_4 (by assumption) | exact bk_5 (by assumption) | exact bk_6 (by assumption) | exact bk_7 (by assumption) | exact bk_8 (by assumption) | exact sh_ring _ (by first | assumption | omega) | exact sh_imgs _ (by first | assumption | omega)) (by decide) rfl (by decide) (Nat.le_of_ble_eq_true rfl) (c_X11_admit (p := inb x (F 3)) (q := indn y (F 0)) ?_)
  have hh : Hi I (ui I 0 2 (nI (trc (inb x (F 3)) (indn y (F 0))))) L L R R := hi_ui (by decide)
  have h := cb_tr (v := trc (inb x (F 3)) (indn y (F 0))) h (trc_lt _ _).1 (trc_lt _ _).2
  have hF := cb_F h
  have h1 := cb_1 h
  have hL := cb_L h
  refine v_if_ne (tgt := 27) dX11_gain_20 (by decide) (fun hc20 => ?_) (fun hc20 => ?_)
  · (first | rw [bI_0, Bool.not_eq_false] at hc20 | rw [bI_0] at hc20 | rw [show (0 : Int32) = nI 0 from rfl, nI_eq (by omega) (by omega)] at hc20 | skip)
    have hA := hc20
    rw [Bool.and_eq_true] at hA
    obtain ⟨hA1, hA2⟩ := hA
    obtain ⟨p, rfl, hp⟩ := inb_ex (by omega) hA1
    have ep : tN (nI p) = p := tN_nI (by omega)
    obtain ⟨d, rfl, hd⟩ := indn_ex (by omega) hA2
    have ed : tN (nI d) = d := tN_nI (by omega)
    refine v_aload_0 dX11_gain_27 ?_
    refine u_getR dX11_gain_28 gf_X11_29 (by first | assumption | rfl | exact led_1 (by assumption) | exact led_2 (by assumption) | exact bk_m (by assumption) (by first | assumption | omega) | exact bk_p (by assumption) (by first | assumption | omega) | exact bk_o (by assumption) (by first | assumption | omega) | exact bk_s (by assumption) (by first | assumption | omega) | exact bk_1 (by assumption) | exact bk_2 (by assumption) | exact bk_3 (by assumption) | exact bk_4 (by assumption) | exact bk_5 (by assumption) | exact bk_6 (by assumption) | exact bk_7 (by assumption) | exact bk_8 (by assumption) | exact sh_ring _ (by first | assumption | omega) | exact sh_imgs _ (by first | assumption | omega)) (by assumption) ?_
    refine v_iload_1 dX11_gain_31 ?_
    refine v_iload_2 dX11_gain_32 ?_
    refine v_aload_0 dX11_gain_33 ?_
    refine u_getR dX11_gain_34 gf_X11_46 (by first | assumption | rfl | exact led_1 (by assumption) | exact led_2 (by assumption) | exact bk_m (by assumption) (by first | assumption | omega) | exact bk_p (by assumption) (by first | assumption | omega) | exact bk_o (by assumption) (by first | assumption | omega) | exact bk_s (by assumption) (by first | assumption | omega) | exact bk_1 (by assumption) | exact bk_2 (by assumption) | exact bk_3 (by assumption) | exact bk_4 (by assumption) | exact bk_5 (by assumption) | exact bk_6 (by assumption) | exact bk_7 (by assumption) | exact bk_8 (by assumption) | exact sh_ring _ (by first | assumption | omega) | exact sh_imgs _ (by first | assumption | omega)) (ro_X11_8 (by assumption)) ?_
    refine u_callV_0 dX11_gain_37 ml_X11_113 mv_X1_now (by first | assumption | rfl | exact led_1 (by assumption) | exact led_2 (by assumption) | exact bk_m (by assumption) (by first | assumption | omega) | exact bk_p (by assumption) (by first | assumption | omega) | exact bk_o (by assumption) (by first | assumption | omega) | exact bk_s (by assumption) (by first | assumption | omega) | exact bk_1 (by assumption) | exact bk_2 (by assumption) | exact bk_3 (by assumption) | exact bk_4 (by assumption) | exact bk_5 (by assumption) | exact bk_6 (by assumption) | exact bk_7 (by assumption) | exact bk_8 (by assumption) | exact sh_ring _ (by first | assumption | omega) | exact sh_imgs _ (by first | assumption | omega)) (by decide) rfl (by decide) (Nat.le_of_ble_eq_true rfl) (c_X1_now hR h1 ht ?_)
    refine u_callV_3 dX11_gain_40 ml_X11_147 mv_X0_earningsOf (by first | assumption | rfl | exact led_1 (by assumption) | exact led_2 (by assumption) | exact bk_m (by assumption) (by first | assumption | omega) | exact bk_p (by assumption) (by first | assumption | omega) | exact bk_o (by assumption) (by first | assumption | omega) | exact bk_s (by assumption) (by first | assumption | omega) | exact bk_1 (by assumption) | exact bk_2 (by assumption) | exact bk_3 (by assumption) | exact bk_4 (by assumption) | exact bk_5 (by assumption) | exact bk_6 (by assumption) | exact bk_7 (by assumption) | exact bk_8 (by assumption) | exact sh_ring _ (by first | assumption | omega) | exact sh_imgs _ (by first | assumption | omega)) (by decide) rfl (by decide) (Nat.le_of_ble_eq_true rfl) (c_X0_earningsOf (od := some p) hR hB hF hO hS hL.1 hL.2 hps (fun z e => by cases e; exact hp) (by omega) ?_)
    refine v_aload_0 dX11_gain_43 ?_
    refine u_getR dX11_gain_44 gf_X11_29 (by first | assumption | rfl | exact led_1 (by assumption) | exact led_2 (by assumption) | exact bk_m (by assumption) (by first | assumption | omega) | exact bk_p (by assumption) (by first | assumption | omega) | exact bk_o (by assumption) (by first | assumption | omega) | exact bk_s (by assumption) (by first | assumption | omega) | exact bk_1 (by assumption) | exact bk_2 (by assumption) | exact bk_3 (by assumption) | exact bk_4 (by assumption) | exact bk_5 (by assumption) | exact bk_6 (by assumption) | exact bk_7 (by assumption) | exact bk_8 (by assumption) | exact sh_ring _ (by first | assumption | omega) | exact sh_imgs _ (by first | assumption | omega)) (by assumption) ?_
    refine v_iload_1 dX11_gain_47 ?_
    refine v_iload_2 dX11_gain_48 ?_
    refine v_aload_0 dX11_gain_49 ?_
    refine u_getR dX11_gain_50 gf_X11_46 (by first | assumption | rfl | exact led_1 (by assumption) | exact led_2 (by assumption) | exact bk_m (by assumption) (by first | assumption | omega) | exact bk_p (by assumption) (by first | assumption | omega) | exact bk_o (by assumption) (by first | assumption | omega) | exact bk_s (by assumption) (by first | assumption | omega) | exact bk_1 (by assumption) | exact bk_2 (by assumption) | exact bk_3 (by assumption) | exact bk_4 (by assumption) | exact bk_5 (by assumption) | exact bk_6 (by assumption) | exact bk_7 (by assumption) | exact bk_8 (by assumption) | exact sh_ring _ (by first | assumption | omega) | exact sh_imgs _ (by first | assumption | omega)) (ro_X11_8 (by assumption)) ?_
    refine u_callV_0 dX11_gain_53 ml_X11_113 mv_X1_now (by first | assumption | rfl | exact led_1 (by assumption) | exact led_2 (by assumption) | exact bk_m (by assumption) (by first | assumption | omega) | exact bk_p (by assumption) (by first | assumption | omega) | exact bk_o (by assumption) (by first | assumption | omega) | exact bk_s (by assumption) (by first | assumption | omega) | exact bk_1 (by assumption) | exact bk_2 (by assumption) | exact bk_3 (by assumption) | exact bk_4 (by assumption) | exact bk_5 (by assumption) | exact bk_6 (by assumption) | exact bk_7 (by assumption) | exact bk_8 (by assumption) | exact sh_ring _ (by first | assumption | omega) | exact sh_imgs _ (by first | assumption | omega)) (by decide) rfl (by decide) (Nat.le_of_ble_eq_true rfl) (c_X1_now hR h1 ht ?_)
    refine u_callV_3 dX11_gain_56 ml_X11_144 mv_X0_finesOf (by first | assumption | rfl | exact led_1 (by assumption) | exact led_2 (by assumption) | exact bk_m (by assumption) (by first | assumption | omega) | exact bk_p (by assumption) (by first | assumption | omega) | exact bk_o (by assumption) (by first | assumption | omega) | exact bk_s (by assumption) (by first | assumption | omega) | exact bk_1 (by assumption) | exact bk_2 (by assumption) | exact bk_3 (by assumption) | exact bk_4 (by assumption) | exact bk_5 (by assumption) | exact bk_6 (by assumption) | exact bk_7 (by assumption) | exact bk_8 (by assumption) | exact sh_ring _ (by first | assumption | omega) | exact sh_imgs _ (by first | assumption | omega)) (by decide) rfl (by decide) (Nat.le_of_ble_eq_true rfl) (c_X0_finesOf (od := some p) hR hB hF hO hS hL.1 hL.2 hps (fun z e => by cases e; exact hp) (by omega) ?_)
    refine v_isub dX11_gain_59 ?_
    refine v_iret dX11_gain_60 rfl rfl rfl rfl ?_
    exact hQ.fin h (hi_ui (by decide)) rfl (by simp only [a_gain, hc20, ep, ed, if_true])
  · (first | rw [bI_0, Bool.not_eq_false] at hc20 | rw [bI_0] at hc20 | rw [show (0 : Int32) = nI 0 from rfl, nI_eq (by omega) (by omega)] at hc20 | skip)
    refine v_sipush (v := -10000) dX11_gain_23 (by decide) ?_
    refine v_iret dX11_gain_26 rfl rfl rfl rfl ?_
    exact hQ.fin h (hi_ui (by decide)) (by first | rfl | simp only [t_gain, hc20, if_true, Bool.false_eq_true, if_false]) (by simp only [a_gain, hc20, Bool.false_eq_true, if_false])
def a_guild (F : bkF) (s : LSt)  : Int32 := if ((decide (0 < F 0)) && true) = true then sui (finesf F s.1 s.2.1 s.2.2 none (F 0)) 0 (F 4) 0 else -1
def t_guild (F : bkF) (s : LSt)  : Nat := trc (decide (0 < F 0)) (true)
theorem c_X11_guild  (h : ClsB I L R B B2 t tp nt tr fa pl F S u r im ic) (hQ : XQ I L R tp nt (t_guild F (S 0) ) fa pl F S u r im ic (a_guild F (S 0) ) Q) : KK 12 mX11_guild b ad [.ref (b + 0)] I L R Q := by
  have hR := cb_R h
  have hb := cb_b h
  have hB := cb_B h
  have hF := cb_F h
  have hO := cb_O h
  have o0 := hO.1
  have o1 := hO.2.1
  have o2 := hO.2.2.1
  have o3 := hO.2.2.2.1
  have o4 := hO.2.2.2.2.1
  have o5 := hO.2.2.2.2.2.1
  have o6 := hO.2.2.2.2.2.2.1
  have h1 := cb_1 h
  have ht := cb_t h
  have hS := sh_ring t ht
  have hL := cb_L h
  have hK := cb_K h
  have hps := hK.pers
  refine K.of (M := mX11_guild) (lv := [some (.ref (b + 0))]) (by decide) (Nat.le_of_ble_eq_true rfl) rfl ?_
  refine v_aload_0 dX11_guild_0 ?_
  refine v_aload_0 dX11_guild_1 ?_
  refine u_getR dX11_guild_2 gf_X11_29 (by first | assumption | rfl | exact led_1 (by assumption) | exact led_2 (by assumption) | exact bk_m (by assumption) (by first | assumption | omega) | exact bk_p (by assumption) (by first | assumption | omega) | exact bk_o (by assumption) (by first | assumption | omega) | exact bk_s (by assumption) (by first | assumption | omega) | exact bk_1 (by assumption) | exact bk_2 (by assumption) | exact bk_3 (by assumption) | exact bk_4 (by assumption) | exact bk_5 (by assumption) | exact bk_6 (by assumption) | exact bk_7 (by assumption) | exact bk_8 (by assumption) | exact sh_ring _ (by first | assumption | omega) | exact sh_imgs _ (by first | assumption | omega)) (by assumption) ?_
  refine u_callV_0 dX11_guild_5 ml_X11_150 mv_X0_isTold (by first | assumption | rfl | exact led_1 (by assumption) | exact led_2 (by assumption) | exact bk_m (by assumption) (by first | assumption | omega) | exact bk_p (by assumption) (by first | assumption | omega) | exact bk_o (by assumption) (by first | assumption | omega) | exact bk_s (by assumption) (by first | assumption | omega) | exact bk_1 (by assumption) | exact bk_2 (by assumption) | exact bk_3 (by assumption) | exact bk_4 (by assumption) | exact bk_5 (by assumption) | exact bk_6 (by assumption) | exact bk_7 (by assumption) | exact bk_8 (by assumption) | exact sh_ring _ (by first | assumption | omega) | exact sh_imgs _ (by first | assumption | omega)) (by decide) rfl (by decide) (Nat.le_of_ble_eq_true rfl) (c_X0_isTold hB hF hO ?_)
  refine v_iconst (v := nI 1) dX11_guild_8 (by decide) ?_
  refine u_callV_2 dX11_guild_9 ml_X11_68 mv_X11_admit (by first | assumption | rfl | exact led_1 (by assumption) | exact led_2 (by assumption) | exact bk_m (by assumption) (by first | assumption | omega) | exact bk_p (by assumption) (by first | assumption | omega) | exact bk_o (by assumption) (by first | assumption | omega) | exact bk_s (by assumption) (by first | assumption | omega) | exact bk_1 (by assumption) | exact bk_2 (by assumption) | exact bk_3 (by assumption) | exact bk_4 (by assumption) | exact bk_5 (by assumption) | exact bk_6 (by assumption) | exact bk_7 (by assumption) | exact bk_8 (by assumption) | exact sh_ring _ (by first | assumption | omega) | exact sh_imgs _ (by first | assumption | omega)) (by decide) rfl (by decide) (Nat.le_of_ble_eq_true rfl) (c_X11_admit (p := decide (0 < F 0)) (q := true) ?_)
  have hh : Hi I (ui I 0 2 (nI (trc (decide (0 < F 0)) (true)))) L L R R := hi_ui (by decide)
  have h := cb_tr (v := trc (decide (0 < F 0)) (true)) h (trc_lt _ _).1 (trc_lt _ _).2
  have hF := cb_F h
  have h1 := cb_1 h
  have hL := cb_L h
  refine v_if_ne (tgt := 17) dX11_guild_12 (by decide) (fun hc12 => ?_) (fun hc12 => ?_)
  · (first | rw [bI_0, Bool.not_eq_false] at hc12 | rw [bI_0] at hc12 | rw [show (0 : Int32) = nI 0 from rfl, nI_eq (by omega) (by omega)] at hc12 | skip)
    have hA := hc12
    rw [Bool.and_eq_true] at hA
    obtain ⟨hA1, hA2⟩ := hA
    refine v_aload_0 dX11_guild_17 ?_
    refine u_getR dX11_guild_18 gf_X11_29 (by first | assumption | rfl | exact led_1 (by assumption) | exact led_2 (by assumption) | exact bk_m (by assumption) (by first | assumption | omega) | exact bk_p (by assumption) (by first | assumption | omega) | exact bk_o (by assumption) (by first | assumption | omega) | exact bk_s (by assumption) (by first | assumption | omega) | exact bk_1 (by assumption) | exact bk_2 (by assumption) | exact bk_3 (by assumption) | exact bk_4 (by assumption) | exact bk_5 (by assumption) | exact bk_6 (by assumption) | exact bk_7 (by assumption) | exact bk_8 (by assumption) | exact sh_ring _ (by first | assumption | omega) | exact sh_imgs _ (by first | assumption | omega)) (by assumption) ?_
    refine v_bipush (v := -2) dX11_guild_21 (by decide) ?_
    refine v_aload_0 dX11_guild_23 ?_
    refine u_getR dX11_guild_24 gf_X11_29 (by first | assumption | rfl | exact led_1 (by assumption) | exact led_2 (by assumption) | exact bk_m (by assumption) (by first | assumption | omega) | exact bk_p (by assumption) (by first | assumption | omega) | exact bk_o (by assumption) (by first | assumption | omega) | exact bk_s (by assumption) (by first | assumption | omega) | exact bk_1 (by assumption) | exact bk_2 (by assumption) | exact bk_3 (by assumption) | exact bk_4 (by assumption) | exact bk_5 (by assumption) | exact bk_6 (by assumption) | exact bk_7 (by assumption) | exact bk_8 (by assumption) | exact sh_ring _ (by first | assumption | omega) | exact sh_imgs _ (by first | assumption | omega)) (by assumption) ?_
    refine u_getI dX11_guild_27 gf_X11_154 (by first | assumption | rfl | exact led_1 (by assumption) | exact led_2 (by assumption) | exact bk_m (by assumption) (by first | assumption | omega) | exact bk_p (by assumption) (by first | assumption | omega) | exact bk_o (by assumption) (by first | assumption | omega) | exact bk_s (by assumption) (by first | assumption | omega) | exact bk_1 (by assumption) | exact bk_2 (by assumption) | exact bk_3 (by assumption) | exact bk_4 (by assumption) | exact bk_5 (by assumption) | exact bk_6 (by assumption) | exact bk_7 (by assumption) | exact bk_8 (by assumption) | exact sh_ring _ (by first | assumption | omega) | exact sh_imgs _ (by first | assumption | omega)) ?_
    (try rw [bx0 hF])
    refine v_aload_0 dX11_guild_30 ?_
    refine u_getR dX11_guild_31 gf_X11_46 (by first | assumption | rfl | exact led_1 (by assumption) | exact led_2 (by assumption) | exact bk_m (by assumption) (by first | assumption | omega) | exact bk_p (by assumption) (by first | assumption | omega) | exact bk_o (by assumption) (by first | assumption | omega) | exact bk_s (by assumption) (by first | assumption | omega) | exact bk_1 (by assumption) | exact bk_2 (by assumption) | exact bk_3 (by assumption) | exact bk_4 (by assumption) | exact bk_5 (by assumption) | exact bk_6 (by assumption) | exact bk_7 (by assumption) | exact bk_8 (by assumption) | exact sh_ring _ (by first | assumption | omega) | exact sh_imgs _ (by first | assumption | omega)) (ro_X11_8 (by assumption)) ?_
    refine u_callV_0 dX11_guild_34 ml_X11_113 mv_X1_now (by first | assumption | rfl | exact led_1 (by assumption) | exact led_2 (by assumption) | exact bk_m (by assumption) (by first | assumption | omega) | exact bk_p (by assumption) (by first | assumption | omega) | exact bk_o (by assumption) (by first | assumption | omega) | exact bk_s (by assumption) (by first | assumption | omega) | exact bk_1 (by assumption) | exact bk_2 (by assumption) | exact bk_3 (by assumption) | exact bk_4 (by assumption) | exact bk_5 (by assumption) | exact bk_6 (by assumption) | exact bk_7 (by assumption) | exact bk_8 (by assumption) | exact sh_ring _ (by first | assumption | omega) | exact sh_imgs _ (by first | assumption | omega)) (by decide) rfl (by decide) (Nat.le_of_ble_eq_true rfl) (c_X1_now hR h1 ht ?_)
    refine u_callV_3 dX11_guild_37 ml_X11_144 mv_X0_finesOf (by first | assumption | rfl | exact led_1 (by assumption) | exact led_2 (by assumption) | exact bk_m (by assumption) (by first | assumption | omega) | exact bk_p (by assumption) (by first | assumption | omega) | exact bk_o (by assumption) (by first | assumption | omega) | exact bk_s (by assumption) (by first | assumption | omega) | exact bk_1 (by assumption) | exact bk_2 (by assumption) | exact bk_3 (by assumption) | exact bk_4 (by assumption) | exact bk_5 (by assumption) | exact bk_6 (by assumption) | exact bk_7 (by assumption) | exact bk_8 (by assumption) | exact sh_ring _ (by first | assumption | omega) | exact sh_imgs _ (by first | assumption | omega)) (by decide) rfl (by decide) (Nat.le_of_ble_eq_true rfl) (c_X0_finesOf (od := none) hR hB hF hO hS hL.1 hL.2 hps (fun z e => by cases e) (by omega) ?_)
    refine v_iret dX11_guild_40 rfl rfl rfl rfl ?_
    exact hQ.fin h (hi_ui (by decide)) rfl (by simp only [a_guild, hc12, if_true])
  · (first | rw [bI_0, Bool.not_eq_false] at hc12 | rw [bI_0] at hc12 | rw [show (0 : Int32) = nI 0 from rfl, nI_eq (by omega) (by omega)] at hc12 | skip)
    refine v_iconst (v := -1) dX11_guild_15 (by decide) ?_
    refine v_iret dX11_guild_16 rfl rfl rfl rfl ?_
    exact hQ.fin h (hi_ui (by decide)) (by first | rfl | simp only [t_guild, hc12, if_true, Bool.false_eq_true, if_false]) (by simp only [a_guild, hc12, Bool.false_eq_true, if_false])
def a_breaks (F : bkF) (s : LSt) (x : Int32) (y : Int32) : Int32 := if ((inb x (F 3)) && ind y (F 0)) = true then bI ((s.2.2 (tN x)).testBit (tN y)) else -1
def t_breaks (F : bkF) (s : LSt) (x : Int32) (y : Int32) : Nat := trc (inb x (F 3)) (ind y (F 0))
theorem c_X11_breaks {x y : Int32} (h : ClsB I L R B B2 t tp nt tr fa pl F S u r im ic) (hQ : XQ I L R tp nt (t_breaks F (S 0) x y) fa pl F S u r im ic (a_breaks F (S 0) x y) Q) : KK 12 mX11_breaks b ad [.ref (b + 0), .int x, .int y] I L R Q := by
  have hR := cb_R h
  have hb := cb_b h
  have hB := cb_B h
  have hF := cb_F h
  have hO := cb_O h
  have o0 := hO.1
  have o1 := hO.2.1
  have o2 := hO.2.2.1
  have o3 := hO.2.2.2.1
  have o4 := hO.2.2.2.2.1
  have o5 := hO.2.2.2.2.2.1
  have o6 := hO.2.2.2.2.2.2.1
  have h1 := cb_1 h
  have ht := cb_t h
  have hS := sh_ring t ht
  have hL := cb_L h
  have hK := cb_K h
  have hps := hK.pers
  refine K.of (M := mX11_breaks) (lv := [some (.ref (b + 0)), some (.int x), some (.int y)]) (by decide) (Nat.le_of_ble_eq_true rfl) rfl ?_
  refine v_aload_0 dX11_breaks_0 ?_
  refine v_aload_0 dX11_breaks_1 ?_
  refine u_getR dX11_breaks_2 gf_X11_29 (by first | assumption | rfl | exact led_1 (by assumption) | exact led_2 (by assumption) | exact bk_m (by assumption) (by first | assumption | omega) | exact bk_p (by assumption) (by first | assumption | omega) | exact bk_o (by assumption) (by first | assumption | omega) | exact bk_s (by assumption) (by first | assumption | omega) | exact bk_1 (by assumption) | exact bk_2 (by assumption) | exact bk_3 (by assumption) | exact bk_4 (by assumption) | exact bk_5 (by assumption) | exact bk_6 (by assumption) | exact bk_7 (by assumption) | exact bk_8 (by assumption) | exact sh_ring _ (by first | assumption | omega) | exact sh_imgs _ (by first | assumption | omega)) (by assumption) ?_
  refine v_iload_1 dX11_breaks_5 ?_
  refine u_callV_1 dX11_breaks_6 ml_X11_99 mv_X0_hasPerson (by first | assumption | rfl | exact led_1 (by assumption) | exact led_2 (by assumption) | exact bk_m (by assumption) (by first | assumption | omega) | exact bk_p (by assumption) (by first | assumption | omega) | exact bk_o (by assumption) (by first | assumption | omega) | exact bk_s (by assumption) (by first | assumption | omega) | exact bk_1 (by assumption) | exact bk_2 (by assumption) | exact bk_3 (by assumption) | exact bk_4 (by assumption) | exact bk_5 (by assumption) | exact bk_6 (by assumption) | exact bk_7 (by assumption) | exact bk_8 (by assumption) | exact sh_ring _ (by first | assumption | omega) | exact sh_imgs _ (by first | assumption | omega)) (by decide) rfl (by decide) (Nat.le_of_ble_eq_true rfl) (c_X0_hasPerson hB hF ?_)
  refine v_aload_0 dX11_breaks_9 ?_
  refine u_getR dX11_breaks_10 gf_X11_29 (by first | assumption | rfl | exact led_1 (by assumption) | exact led_2 (by assumption) | exact bk_m (by assumption) (by first | assumption | omega) | exact bk_p (by assumption) (by first | assumption | omega) | exact bk_o (by assumption) (by first | assumption | omega) | exact bk_s (by assumption) (by first | assumption | omega) | exact bk_1 (by assumption) | exact bk_2 (by assumption) | exact bk_3 (by assumption) | exact bk_4 (by assumption) | exact bk_5 (by assumption) | exact bk_6 (by assumption) | exact bk_7 (by assumption) | exact bk_8 (by assumption) | exact sh_ring _ (by first | assumption | omega) | exact sh_imgs _ (by first | assumption | omega)) (by assumption) ?_
  refine v_iload_2 dX11_breaks_13 ?_
  refine u_callV_1 dX11_breaks_14 ml_X11_110 mv_X0_hasDay (by first | assumption | rfl | exact led_1 (by assumption) | exact led_2 (by assumption) | exact bk_m (by assumption) (by first | assumption | omega) | exact bk_p (by assumption) (by first | assumption | omega) | exact bk_o (by assumption) (by first | assumption | omega) | exact bk_s (by assumption) (by first | assumption | omega) | exact bk_1 (by assumption) | exact bk_2 (by assumption) | exact bk_3 (by assumption) | exact bk_4 (by assumption) | exact bk_5 (by assumption) | exact bk_6 (by assumption) | exact bk_7 (by assumption) | exact bk_8 (by assumption) | exact sh_ring _ (by first | assumption | omega) | exact sh_imgs _ (by first | assumption | omega)) (by decide) rfl (by decide) (Nat.le_of_ble_eq_true rfl) (c_X0_hasDay hB hF ?_)
  refine u_callV_2 dX11_breaks_17 ml_X11_68 mv_X11_admit (by first | assumption | rfl | exact led_1 (by assumption) | exact led_2 (by assumption) | exact bk_m (by assumption) (by first | assumption | omega) | exact bk_p (by assumption) (by first | assumption | omega) | exact bk_o (by assumption) (by first | assumption | omega) | exact bk_s (by assumption) (by first | assumption | omega) | exact bk_1 (by assumption) | exact bk_2 (by assumption) | exact bk_3 (by assumption) | exact bk_4 (by assumption) | exact bk_5 (by assumption) | exact bk_6 (by assumption) | exact bk_7 (by assumption) | exact bk_8 (by assumption) | exact sh_ring _ (by first | assumption | omega) | exact sh_imgs _ (by first | assumption | omega)) (by decide) rfl (by decide) (Nat.le_of_ble_eq_true rfl) (c_X11_admit (p := inb x (F 3)) (q := ind y (F 0)) ?_)
  have hh : Hi I (ui I 0 2 (nI (trc (inb x (F 3)) (ind y (F 0))))) L L R R := hi_ui (by decide)
  have h := cb_tr (v := trc (inb x (F 3)) (ind y (F 0))) h (trc_lt _ _).1 (trc_lt _ _).2
  have hF := cb_F h
  have h1 := cb_1 h
  have hL := cb_L h
  refine v_if_ne (tgt := 25) dX11_breaks_20 (by decide) (fun hc20 => ?_) (fun hc20 => ?_)
  · (first | rw [bI_0, Bool.not_eq_false] at hc20 | rw [bI_0] at hc20 | rw [show (0 : Int32) = nI 0 from rfl, nI_eq (by omega) (by omega)] at hc20 | skip)
    have hA := hc20
    rw [Bool.and_eq_true] at hA
    obtain ⟨hA1, hA2⟩ := hA
    obtain ⟨p, rfl, hp⟩ := inb_ex (by omega) hA1
    have ep : tN (nI p) = p := tN_nI (by omega)
    obtain ⟨d, rfl, hd1, hd⟩ := ind_ex (by omega) hA2
    have ed : tN (nI d) = d := tN_nI (by omega)
    refine v_aload_0 dX11_breaks_25 ?_
    refine u_getR dX11_breaks_26 gf_X11_46 (by first | assumption | rfl | exact led_1 (by assumption) | exact led_2 (by assumption) | exact bk_m (by assumption) (by first | assumption | omega) | exact bk_p (by assumption) (by first | assumption | omega) | exact bk_o (by assumption) (by first | assumption | omega) | exact bk_s (by assumption) (by first | assumption | omega) | exact bk_1 (by assumption) | exact bk_2 (by assumption) | exact bk_3 (by assumption) | exact bk_4 (by assumption) | exact bk_5 (by assumption) | exact bk_6 (by assumption) | exact bk_7 (by assumption) | exact bk_8 (by assumption) | exact sh_ring _ (by first | assumption | omega) | exact sh_imgs _ (by first | assumption | omega)) (ro_X11_8 (by assumption)) ?_
    refine u_callV_0 dX11_breaks_29 ml_X11_113 mv_X1_now (by first | assumption | rfl | exact led_1 (by assumption) | exact led_2 (by assumption) | exact bk_m (by assumption) (by first | assumption | omega) | exact bk_p (by assumption) (by first | assumption | omega) | exact bk_o (by assumption) (by first | assumption | omega) | exact bk_s (by assumption) (by first | assumption | omega) | exact bk_1 (by assumption) | exact bk_2 (by assumption) | exact bk_3 (by assumption) | exact bk_4 (by assumption) | exact bk_5 (by assumption) | exact bk_6 (by assumption) | exact bk_7 (by assumption) | exact bk_8 (by assumption) | exact sh_ring _ (by first | assumption | omega) | exact sh_imgs _ (by first | assumption | omega)) (by decide) rfl (by decide) (Nat.le_of_ble_eq_true rfl) (c_X1_now hR h1 ht ?_)
    refine v_iload_1 dX11_breaks_32 ?_
    refine v_iload_2 dX11_breaks_33 ?_
    refine u_callV_2 dX11_breaks_34 ml_X11_157 mv_X2_isBreaking (by first | assumption | rfl | exact led_1 (by assumption) | exact led_2 (by assumption) | exact bk_m (by assumption) (by first | assumption | omega) | exact bk_p (by assumption) (by first | assumption | omega) | exact bk_o (by assumption) (by first | assumption | omega) | exact bk_s (by assumption) (by first | assumption | omega) | exact bk_1 (by assumption) | exact bk_2 (by assumption) | exact bk_3 (by assumption) | exact bk_4 (by assumption) | exact bk_5 (by assumption) | exact bk_6 (by assumption) | exact bk_7 (by assumption) | exact bk_8 (by assumption) | exact sh_ring _ (by first | assumption | omega) | exact sh_imgs _ (by first | assumption | omega)) (by decide) rfl (by decide) (Nat.le_of_ble_eq_true rfl) (c_X2_isBreaking hR hS (by omega) (by omega) (hL.2 p (by omega)) ?_)
    refine u_callS_1 dX11_breaks_37 ml_X11_106 ms_X11_asNumber (by decide) (Nat.le_of_ble_eq_true rfl) (c_X11_asNumber ?_)
    refine v_iret dX11_breaks_40 rfl rfl rfl rfl ?_
    exact hQ.fin h (hi_ui (by decide)) rfl (by simp only [a_breaks, hc20, ep, ed, if_true])
  · (first | rw [bI_0, Bool.not_eq_false] at hc20 | rw [bI_0] at hc20 | rw [show (0 : Int32) = nI 0 from rfl, nI_eq (by omega) (by omega)] at hc20 | skip)
    refine v_iconst (v := -1) dX11_breaks_23 (by decide) ?_
    refine v_iret dX11_breaks_24 rfl rfl rfl rfl ?_
    exact hQ.fin h (hi_ui (by decide)) (by first | rfl | simp only [t_breaks, hc20, if_true, Bool.false_eq_true, if_false]) (by simp only [a_breaks, hc20, Bool.false_eq_true, if_false])
def a_real (F : bkF) (s : LSt) (x : Int32) : Int32 := if ((decide (0 < F 0)) && ind x (F 0)) = true then sui (balonf F s.1 s.2.1 s.2.2 (tN x)) 0 (F 4) 0 else -10000
def t_real (F : bkF) (s : LSt) (x : Int32) : Nat := trc (decide (0 < F 0)) (ind x (F 0))
theorem c_X11_real {x : Int32} (h : ClsB I L R B B2 t tp nt tr fa pl F S u r im ic) (hQ : XQ I L R tp nt (t_real F (S 0) x) fa pl F S u r im ic (a_real F (S 0) x) Q) : KK 12 mX11_real b ad [.ref (b + 0), .int x] I L R Q := by
  have hR := cb_R h
  have hb := cb_b h
  have hB := cb_B h
  have hF := cb_F h
  have hO := cb_O h
  have o0 := hO.1
  have o1 := hO.2.1
  have o2 := hO.2.2.1
  have o3 := hO.2.2.2.1
  have o4 := hO.2.2.2.2.1
  have o5 := hO.2.2.2.2.2.1
  have o6 := hO.2.2.2.2.2.2.1
  have h1 := cb_1 h
  have ht := cb_t h
  have hS := sh_ring t ht
  have hL := cb_L h
  have hK := cb_K h
  have hps := hK.pers
  refine K.of (M := mX11_real) (lv := [some (.ref (b + 0)), some (.int x)]) (by decide) (Nat.le_of_ble_eq_true rfl) rfl ?_
  refine v_aload_0 dX11_real_0 ?_
  refine v_aload_0 dX11_real_1 ?_
  refine u_getR dX11_real_2 gf_X11_29 (by first | assumption | rfl | exact led_1 (by assumption) | exact led_2 (by assumption) | exact bk_m (by assumption) (by first | assumption | omega) | exact bk_p (by assumption) (by first | assumption | omega) | exact bk_o (by assumption) (by first | assumption | omega) | exact bk_s (by assumption) (by first | assumption | omega) | exact bk_1 (by assumption) | exact bk_2 (by assumption) | exact bk_3 (by assumption) | exact bk_4 (by assumption) | exact bk_5 (by assumption) | exact bk_6 (by assumption) | exact bk_7 (by assumption) | exact bk_8 (by assumption) | exact sh_ring _ (by first | assumption | omega) | exact sh_imgs _ (by first | assumption | omega)) (by assumption) ?_
  refine u_callV_0 dX11_real_5 ml_X11_150 mv_X0_isTold (by first | assumption | rfl | exact led_1 (by assumption) | exact led_2 (by assumption) | exact bk_m (by assumption) (by first | assumption | omega) | exact bk_p (by assumption) (by first | assumption | omega) | exact bk_o (by assumption) (by first | assumption | omega) | exact bk_s (by assumption) (by first | assumption | omega) | exact bk_1 (by assumption) | exact bk_2 (by assumption) | exact bk_3 (by assumption) | exact bk_4 (by assumption) | exact bk_5 (by assumption) | exact bk_6 (by assumption) | exact bk_7 (by assumption) | exact bk_8 (by assumption) | exact sh_ring _ (by first | assumption | omega) | exact sh_imgs _ (by first | assumption | omega)) (by decide) rfl (by decide) (Nat.le_of_ble_eq_true rfl) (c_X0_isTold hB hF hO ?_)
  refine v_aload_0 dX11_real_8 ?_
  refine u_getR dX11_real_9 gf_X11_29 (by first | assumption | rfl | exact led_1 (by assumption) | exact led_2 (by assumption) | exact bk_m (by assumption) (by first | assumption | omega) | exact bk_p (by assumption) (by first | assumption | omega) | exact bk_o (by assumption) (by first | assumption | omega) | exact bk_s (by assumption) (by first | assumption | omega) | exact bk_1 (by assumption) | exact bk_2 (by assumption) | exact bk_3 (by assumption) | exact bk_4 (by assumption) | exact bk_5 (by assumption) | exact bk_6 (by assumption) | exact bk_7 (by assumption) | exact bk_8 (by assumption) | exact sh_ring _ (by first | assumption | omega) | exact sh_imgs _ (by first | assumption | omega)) (by assumption) ?_
  refine v_iload_1 dX11_real_12 ?_
  refine u_callV_1 dX11_real_13 ml_X11_110 mv_X0_hasDay (by first | assumption | rfl | exact led_1 (by assumption) | exact led_2 (by assumption) | exact bk_m (by assumption) (by first | assumption | omega) | exact bk_p (by assumption) (by first | assumption | omega) | exact bk_o (by assumption) (by first | assumption | omega) | exact bk_s (by assumption) (by first | assumption | omega) | exact bk_1 (by assumption) | exact bk_2 (by assumption) | exact bk_3 (by assumption) | exact bk_4 (by assumption) | exact bk_5 (by assumption) | exact bk_6 (by assumption) | exact bk_7 (by assumption) | exact bk_8 (by assumption) | exact sh_ring _ (by first | assumption | omega) | exact sh_imgs _ (by first | assumption | omega)) (by decide) rfl (by decide) (Nat.le_of_ble_eq_true rfl) (c_X0_hasDay hB hF ?_)
  refine u_callV_2 dX11_real_16 ml_X11_68 mv_X11_admit (by first | assumption | rfl | exact led_1 (by assumption) | exact led_2 (by assumption) | exact bk_m (by assumption) (by first | assumption | omega) | exact bk_p (by assumption) (by first | assumption | omega) | exact bk_o (by assumption) (by first | assumption | omega) | exact bk_s (by assumption) (by first | assumption | omega) | exact bk_1 (by assumption) | exact bk_2 (by assumption) | exact bk_3 (by assumption) | exact bk_4 (by assumption) | exact bk_5 (by assumption) | exact bk_6 (by assumption) | exact bk_7 (by assumption) | exact bk_8 (by assumption) | exact sh_ring _ (by first | assumption | omega) | exact sh_imgs _ (by first | assumption | omega)) (by decide) rfl (by decide) (Nat.le_of_ble_eq_true rfl) (c_X11_admit (p := decide (0 < F 0)) (q := ind x (F 0)) ?_)
  have hh : Hi I (ui I 0 2 (nI (trc (decide (0 < F 0)) (ind x (F 0))))) L L R R := hi_ui (by decide)
  have h := cb_tr (v := trc (decide (0 < F 0)) (ind x (F 0))) h (trc_lt _ _).1 (trc_lt _ _).2
  have hF := cb_F h
  have h1 := cb_1 h
  have hL := cb_L h
  refine v_if_ne (tgt := 26) dX11_real_19 (by decide) (fun hc19 => ?_) (fun hc19 => ?_)
  · (first | rw [bI_0, Bool.not_eq_false] at hc19 | rw [bI_0] at hc19 | rw [show (0 : Int32) = nI 0 from rfl, nI_eq (by omega) (by omega)] at hc19 | skip)
    have hA := hc19
    rw [Bool.and_eq_true] at hA
    obtain ⟨hA1, hA2⟩ := hA
    obtain ⟨d, rfl, hd1, hd⟩ := ind_ex (by omega) hA2
    have ed : tN (nI d) = d := tN_nI (by omega)
    refine v_aload_0 dX11_real_26 ?_
    refine u_getR dX11_real_27 gf_X11_29 (by first | assumption | rfl | exact led_1 (by assumption) | exact led_2 (by assumption) | exact bk_m (by assumption) (by first | assumption | omega) | exact bk_p (by assumption) (by first | assumption | omega) | exact bk_o (by assumption) (by first | assumption | omega) | exact bk_s (by assumption) (by first | assumption | omega) | exact bk_1 (by assumption) | exact bk_2 (by assumption) | exact bk_3 (by assumption) | exact bk_4 (by assumption) | exact bk_5 (by assumption) | exact bk_6 (by assumption) | exact bk_7 (by assumption) | exact bk_8 (by assumption) | exact sh_ring _ (by first | assumption | omega) | exact sh_imgs _ (by first | assumption | omega)) (by assumption) ?_
    refine v_iload_1 dX11_real_30 ?_
    refine v_aload_0 dX11_real_31 ?_
    refine u_getR dX11_real_32 gf_X11_46 (by first | assumption | rfl | exact led_1 (by assumption) | exact led_2 (by assumption) | exact bk_m (by assumption) (by first | assumption | omega) | exact bk_p (by assumption) (by first | assumption | omega) | exact bk_o (by assumption) (by first | assumption | omega) | exact bk_s (by assumption) (by first | assumption | omega) | exact bk_1 (by assumption) | exact bk_2 (by assumption) | exact bk_3 (by assumption) | exact bk_4 (by assumption) | exact bk_5 (by assumption) | exact bk_6 (by assumption) | exact bk_7 (by assumption) | exact bk_8 (by assumption) | exact sh_ring _ (by first | assumption | omega) | exact sh_imgs _ (by first | assumption | omega)) (ro_X11_8 (by assumption)) ?_
    refine u_callV_0 dX11_real_35 ml_X11_113 mv_X1_now (by first | assumption | rfl | exact led_1 (by assumption) | exact led_2 (by assumption) | exact bk_m (by assumption) (by first | assumption | omega) | exact bk_p (by assumption) (by first | assumption | omega) | exact bk_o (by assumption) (by first | assumption | omega) | exact bk_s (by assumption) (by first | assumption | omega) | exact bk_1 (by assumption) | exact bk_2 (by assumption) | exact bk_3 (by assumption) | exact bk_4 (by assumption) | exact bk_5 (by assumption) | exact bk_6 (by assumption) | exact bk_7 (by assumption) | exact bk_8 (by assumption) | exact sh_ring _ (by first | assumption | omega) | exact sh_imgs _ (by first | assumption | omega)) (by decide) rfl (by decide) (Nat.le_of_ble_eq_true rfl) (c_X1_now hR h1 ht ?_)
    refine u_callV_2 dX11_real_38 ml_X11_172 mv_X0_balanceOn (by first | assumption | rfl | exact led_1 (by assumption) | exact led_2 (by assumption) | exact bk_m (by assumption) (by first | assumption | omega) | exact bk_p (by assumption) (by first | assumption | omega) | exact bk_o (by assumption) (by first | assumption | omega) | exact bk_s (by assumption) (by first | assumption | omega) | exact bk_1 (by assumption) | exact bk_2 (by assumption) | exact bk_3 (by assumption) | exact bk_4 (by assumption) | exact bk_5 (by assumption) | exact bk_6 (by assumption) | exact bk_7 (by assumption) | exact bk_8 (by assumption) | exact sh_ring _ (by first | assumption | omega) | exact sh_imgs _ (by first | assumption | omega)) (by decide) rfl (by decide) (Nat.le_of_ble_eq_true rfl) (c_X0_balanceOn hR hB hF hO hS hL.1 hL.2 hps (by omega) ?_)
    refine v_iret dX11_real_41 rfl rfl rfl rfl ?_
    exact hQ.fin h (hi_ui (by decide)) rfl (by simp only [a_real, hc19, ed, if_true])
  · (first | rw [bI_0, Bool.not_eq_false] at hc19 | rw [bI_0] at hc19 | rw [show (0 : Int32) = nI 0 from rfl, nI_eq (by omega) (by omega)] at hc19 | skip)
    refine v_sipush (v := -10000) dX11_real_22 (by decide) ?_
    refine v_iret dX11_real_25 rfl rfl rfl rfl ?_
    exact hQ.fin h (hi_ui (by decide)) (by first | rfl | simp only [t_real, hc19, if_true, Bool.false_eq_true, if_false]) (by simp only [a_real, hc19, Bool.false_eq_true, if_false])
def a_terms (F : bkF) (s : LSt)  : Int32 := if ((decide (0 < F 0)) && true) = true then ldp F s.1 s.2.1 0 (F 4) 0 else -1
def t_terms (F : bkF) (s : LSt)  : Nat := trc (decide (0 < F 0)) (true)
theorem c_X11_terms  (h : ClsB I L R B B2 t tp nt tr fa pl F S u r im ic) (hQ : XQ I L R tp nt (t_terms F (S 0) ) fa pl F S u r im ic (a_terms F (S 0) ) Q) : KK 12 mX11_terms b ad [.ref (b + 0)] I L R Q := by
  have hR := cb_R h
  have hb := cb_b h
  have hB := cb_B h
  have hF := cb_F h
  have hO := cb_O h
  have o0 := hO.1
  have o1 := hO.2.1
  have o2 := hO.2.2.1
  have o3 := hO.2.2.2.1
  have o4 := hO.2.2.2.2.1
  have o5 := hO.2.2.2.2.2.1
  have o6 := hO.2.2.2.2.2.2.1
  have h1 := cb_1 h
  have ht := cb_t h
  have hS := sh_ring t ht
  have hL := cb_L h
  have hK := cb_K h
  have hps := hK.pers
  refine K.of (M := mX11_terms) (lv := [some (.ref (b + 0))]) (by decide) (Nat.le_of_ble_eq_true rfl) rfl ?_
  refine v_aload_0 dX11_terms_0 ?_
  refine v_aload_0 dX11_terms_1 ?_
  refine u_getR dX11_terms_2 gf_X11_29 (by first | assumption | rfl | exact led_1 (by assumption) | exact led_2 (by assumption) | exact bk_m (by assumption) (by first | assumption | omega) | exact bk_p (by assumption) (by first | assumption | omega) | exact bk_o (by assumption) (by first | assumption | omega) | exact bk_s (by assumption) (by first | assumption | omega) | exact bk_1 (by assumption) | exact bk_2 (by assumption) | exact bk_3 (by assumption) | exact bk_4 (by assumption) | exact bk_5 (by assumption) | exact bk_6 (by assumption) | exact bk_7 (by assumption) | exact bk_8 (by assumption) | exact sh_ring _ (by first | assumption | omega) | exact sh_imgs _ (by first | assumption | omega)) (by assumption) ?_
  refine u_callV_0 dX11_terms_5 ml_X11_150 mv_X0_isTold (by first | assumption | rfl | exact led_1 (by assumption) | exact led_2 (by assumption) | exact bk_m (by assumption) (by first | assumption | omega) | exact bk_p (by assumption) (by first | assumption | omega) | exact bk_o (by assumption) (by first | assumption | omega) | exact bk_s (by assumption) (by first | assumption | omega) | exact bk_1 (by assumption) | exact bk_2 (by assumption) | exact bk_3 (by assumption) | exact bk_4 (by assumption) | exact bk_5 (by assumption) | exact bk_6 (by assumption) | exact bk_7 (by assumption) | exact bk_8 (by assumption) | exact sh_ring _ (by first | assumption | omega) | exact sh_imgs _ (by first | assumption | omega)) (by decide) rfl (by decide) (Nat.le_of_ble_eq_true rfl) (c_X0_isTold hB hF hO ?_)
  refine v_iconst (v := nI 1) dX11_terms_8 (by decide) ?_
  refine u_callV_2 dX11_terms_9 ml_X11_68 mv_X11_admit (by first | assumption | rfl | exact led_1 (by assumption) | exact led_2 (by assumption) | exact bk_m (by assumption) (by first | assumption | omega) | exact bk_p (by assumption) (by first | assumption | omega) | exact bk_o (by assumption) (by first | assumption | omega) | exact bk_s (by assumption) (by first | assumption | omega) | exact bk_1 (by assumption) | exact bk_2 (by assumption) | exact bk_3 (by assumption) | exact bk_4 (by assumption) | exact bk_5 (by assumption) | exact bk_6 (by assumption) | exact bk_7 (by assumption) | exact bk_8 (by assumption) | exact sh_ring _ (by first | assumption | omega) | exact sh_imgs _ (by first | assumption | omega)) (by decide) rfl (by decide) (Nat.le_of_ble_eq_true rfl) (c_X11_admit (p := decide (0 < F 0)) (q := true) ?_)
  have hh : Hi I (ui I 0 2 (nI (trc (decide (0 < F 0)) (true)))) L L R R := hi_ui (by decide)
  have h := cb_tr (v := trc (decide (0 < F 0)) (true)) h (trc_lt _ _).1 (trc_lt _ _).2
  have hF := cb_F h
  have h1 := cb_1 h
  have hL := cb_L h
  refine v_if_ne (tgt := 17) dX11_terms_12 (by decide) (fun hc12 => ?_) (fun hc12 => ?_)
  · (first | rw [bI_0, Bool.not_eq_false] at hc12 | rw [bI_0] at hc12 | rw [show (0 : Int32) = nI 0 from rfl, nI_eq (by omega) (by omega)] at hc12 | skip)
    have hA := hc12
    rw [Bool.and_eq_true] at hA
    obtain ⟨hA1, hA2⟩ := hA
    refine v_aload_0 dX11_terms_17 ?_
    refine u_getR dX11_terms_18 gf_X11_29 (by first | assumption | rfl | exact led_1 (by assumption) | exact led_2 (by assumption) | exact bk_m (by assumption) (by first | assumption | omega) | exact bk_p (by assumption) (by first | assumption | omega) | exact bk_o (by assumption) (by first | assumption | omega) | exact bk_s (by assumption) (by first | assumption | omega) | exact bk_1 (by assumption) | exact bk_2 (by assumption) | exact bk_3 (by assumption) | exact bk_4 (by assumption) | exact bk_5 (by assumption) | exact bk_6 (by assumption) | exact bk_7 (by assumption) | exact bk_8 (by assumption) | exact sh_ring _ (by first | assumption | omega) | exact sh_imgs _ (by first | assumption | omega)) (by assumption) ?_
    refine v_aload_0 dX11_terms_21 ?_
    refine u_getR dX11_terms_22 gf_X11_46 (by first | assumption | rfl | exact led_1 (by assumption) | exact led_2 (by assumption) | exact bk_m (by assumption) (by first | assumption | omega) | exact bk_p (by assumption) (by first | assumption | omega) | exact bk_o (by assumption) (by first | assumption | omega) | exact bk_s (by assumption) (by first | assumption | omega) | exact bk_1 (by assumption) | exact bk_2 (by assumption) | exact bk_3 (by assumption) | exact bk_4 (by assumption) | exact bk_5 (by assumption) | exact bk_6 (by assumption) | exact bk_7 (by assumption) | exact bk_8 (by assumption) | exact sh_ring _ (by first | assumption | omega) | exact sh_imgs _ (by first | assumption | omega)) (ro_X11_8 (by assumption)) ?_
    refine u_callV_0 dX11_terms_25 ml_X11_113 mv_X1_now (by first | assumption | rfl | exact led_1 (by assumption) | exact led_2 (by assumption) | exact bk_m (by assumption) (by first | assumption | omega) | exact bk_p (by assumption) (by first | assumption | omega) | exact bk_o (by assumption) (by first | assumption | omega) | exact bk_s (by assumption) (by first | assumption | omega) | exact bk_1 (by assumption) | exact bk_2 (by assumption) | exact bk_3 (by assumption) | exact bk_4 (by assumption) | exact bk_5 (by assumption) | exact bk_6 (by assumption) | exact bk_7 (by assumption) | exact bk_8 (by assumption) | exact sh_ring _ (by first | assumption | omega) | exact sh_imgs _ (by first | assumption | omega)) (by decide) rfl (by decide) (Nat.le_of_ble_eq_true rfl) (c_X1_now hR h1 ht ?_)
    refine u_callV_1 dX11_terms_28 ml_X11_175 mv_X0_leastDeposit (by first | assumption | rfl | exact led_1 (by assumption) | exact led_2 (by assumption) | exact bk_m (by assumption) (by first | assumption | omega) | exact bk_p (by assumption) (by first | assumption | omega) | exact bk_o (by assumption) (by first | assumption | omega) | exact bk_s (by assumption) (by first | assumption | omega) | exact bk_1 (by assumption) | exact bk_2 (by assumption) | exact bk_3 (by assumption) | exact bk_4 (by assumption) | exact bk_5 (by assumption) | exact bk_6 (by assumption) | exact bk_7 (by assumption) | exact bk_8 (by assumption) | exact sh_ring _ (by first | assumption | omega) | exact sh_imgs _ (by first | assumption | omega)) (by decide) rfl (by decide) (Nat.le_of_ble_eq_true rfl) (c_X0_leastDeposit hR hB hF hO hS hL.1 hps ?_)
    refine v_iret dX11_terms_31 rfl rfl rfl rfl ?_
    exact hQ.fin h (hi_ui (by decide)) rfl (by simp only [a_terms, hc12, if_true])
  · (first | rw [bI_0, Bool.not_eq_false] at hc12 | rw [bI_0] at hc12 | rw [show (0 : Int32) = nI 0 from rfl, nI_eq (by omega) (by omega)] at hc12 | skip)
    refine v_iconst (v := -1) dX11_terms_15 (by decide) ?_
    refine v_iret dX11_terms_16 rfl rfl rfl rfl ?_
    exact hQ.fin h (hi_ui (by decide)) (by first | rfl | simp only [t_terms, hc12, if_true, Bool.false_eq_true, if_false]) (by simp only [a_terms, hc12, Bool.false_eq_true, if_false])
end
