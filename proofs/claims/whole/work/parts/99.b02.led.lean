def NSE : String := "java/util/NoSuchElementException"
def nms : List String := ["java/lang/RuntimeException", "java/lang/Exception"]
/-- words that a throw needs and that are not good -/
def nxw : List Cond := [.castable NSE NSE, .declares (Bundle.init0 "java/lang/RuntimeException"), .declares (Bundle.init0 "java/lang/Exception"), .declares (Bundle.init0 Bundle.tN)]
def thrS : List Cond := (lw_tbl.drop 1352).take 62
theorem thr_ok : (vx_at0 "LentMasks" 329 NSE nms).all (fun w => goodWord w || decide (w ∈ nxw)) = true := by decide +kernel
theorem thr_in : (vx_at0 "LentMasks" 329 NSE nms).all (fun w => thrS.any (fun v => decide (v = w)) || decide (w = .initialized Bundle.tN) || decide (w = .instanceMethod objectInit) || decide (w = .code objectInit ⟨#[0xb1]⟩ 1 none)) = true := by decide +kernel
theorem thr_ot : (Cond.classLink "LentMasks" 327 NSE :: Cond.initialized NSE :: vx_at0 "LentMasks" 329 NSE nms).all (fun w => vx_ot w) = true := by decide +kernel
def NX (s : State) : Prop := ∀ w ∈ nxw, va_Nw w s
theorem nxw_on : ∀ w ∈ nxw, w.onTables = true := by decide
theorem NX.go {s U : State} (h : NX s) (hW : s.WarmedH U.vm) : NX U := by
  intro w hw
  have h1 := h w hw
  simp only [nxw, List.mem_cons, List.not_mem_nil, or_false] at hw
  rcases hw with rfl | rfl | rfl | rfl
  · exact va_Nw.warmC hW h1
  · exact va_Nw.warmD hW h1
  · exact va_Nw.warmD hW h1
  · exact va_Nw.warmD hW h1
theorem thr_at {args : Array Value} {s : State} (hU : ∀ w ∈ UU, w.before args s = true) (hN : NX s) : ∀ w ∈ vx_at0 "LentMasks" 329 NSE nms, w.before args s = true := by
  intro w hw
  have a := List.all_eq_true.mp thr_ok w hw
  have c := List.all_eq_true.mp thr_in w hw
  rw [Bool.or_eq_true] at a
  rcases a with a | a
  · refine hU w (List.mem_filter.mpr ⟨?_, a⟩)
    simp only [Bool.or_eq_true, decide_eq_true_eq, List.any_eq_true] at c
    rcases c with ((⟨v, hv, rfl⟩ | rfl) | rfl) | rfl
    · exact List.mem_of_mem_drop (List.mem_of_mem_take hv)
    · exact List.mem_of_getElem? (i := 132) (by decide +kernel)
    · exact List.mem_of_getElem? (i := 142) (by decide +kernel)
    · exact List.mem_of_getElem? (i := 143) (by decide +kernel)
  · rw [decide_eq_true_eq] at a
    exact va_Nw.use (nxw_on w a) (hN w a)
/-- where led has thrown -/
def XL (b : Nat) (D : va_G) (dA : Nat → ClassId) (P : Prop) (I : HI) (L : HL) (R : HR) : String → State → State → Prop := fun E st t => E = NSE ∧ P ∧ va_P D xcl (wld b dA NN SH I L R) t.heap ∧ va_F (fun q => b ≤ q) st t
def PL (b : Nat) (Q : QT) (P : Prop) (I : HI) (L : HL) (R : HR) : PQT := fun _ l _ s _ args below _ c D dA t => (l.stackTraces = false ∧ (∀ x ∈ c.exceptionTable.toList, False) ∧ NX s) → vx_MQ below (Qo b D dA NN Q) (XL b D dA P I L R) args s 1 6 (fun q => b ≤ q) t
section
variable {b : Nat} {ad : Nat → Nat} {I : HI} {L : HL} {R : HR} {Q : QT} {P : Prop} {lv : List (Option Value)} {pc : Nat}
theorem g_retL {v : Int32} (hd : decode cX11_led pc = .ok (.ireturn, 1)) (hq : Q (some (.int v)) SH I L R) : VG yX11_led cX11_led 5 (some .int) (rmo 6 1 6) (PL b Q P I L R) b ad false 0 0 pc lv [.int v] NN SH I L R := by
  intro p l e s m args below meth c H locs D dA ls hc T hT X
  obtain ⟨h1, h2, h3, h4, h5, h6, h7, h8, h9, h10, h11, h12, h13, h14, h15⟩ := id hc
  have w := W.widen (Nat.zero_le 1) (Nat.zero_le 6) ((v_iret (k := 6) (mc := 1) (ms := 6) (NF := NN) (cu := 1) (su := 6) (N := NN) (y := yX11_led) (nL := 5) (b := b) (ad := ad) (x0 := false) (lv := lv) hd rfl rfl rfl rfl hq) p l e s m args below meth c H locs D dA ls ⟨h1, h2, h3, h4, h5, h6, h7, h8, h9, h10, h11, (fun q => by cases q), h13, h14, h15⟩)
  obtain ⟨t, a1, o, b1, b2, b3, b4⟩ := w T hT X
  exact ⟨t, a1, fun _ => ⟨o, b1, b2, Or.inl ⟨b3, b4⟩⟩⟩
theorem g_thrL (d0 : decode cX11_led pc = .ok (.new 327, 3)) (d3 : decode cX11_led (pc + 3) = .ok (.dup, 1)) (d4 : decode cX11_led (pc + 4) = .ok (.invokespecial 329, 3)) (d7 : decode cX11_led (pc + 7) = .ok (.athrow, 1)) (hP : P) : VG yX11_led cX11_led 5 (some .int) (rmo 6 1 6) (PL b Q P I L R) b ad false 0 0 pc lv [] NN SH I L R := by
  intro p l e s m args below meth c H locs D dA ls hc T hT X
  obtain ⟨h1, h2, h3, h4, h5, h6, h7, h8, h9, h10, h11, h12, h13, h14, h15⟩ := id hc
  by_cases hy : l.stackTraces = false ∧ (∀ x ∈ c.exceptionTable.toList, False) ∧ NX s
  · obtain ⟨y1, y2, y3⟩ := hy
    have w : W p l e (rmo 6 1 6) s m args below meth c H locs 0 0 (vx_MQ below (Qo b D dA NN Q) (XL b D dA P I L R) args s 1 6 (fun q => b ≤ q)) (F0 m pc ls []) := by
      refine vx_throw0 (cc := cX11_led) (own := "LentMasks") (cls := NSE) (names := nms) (ik := 327) (ic := 329) (A := fun q => b ≤ q) h1 h2 y1 h7 (by decide) (by decide) (h8 _ (uu (i := 1352) (by decide +kernel) rfl)) (h8 _ (uu (i := 135) (by decide +kernel) rfl)) (thr_at h8 y3) (fun w hw => List.all_eq_true.mp thr_ot w hw) h13.2.2.2.2.1 h13.2.2.2.2.2.1 h11 (h15.1.1.trans h3.symm) d0 d3 d4 d7 (fun x hx => (y2 x hx).elim) (by decide) (by decide) (by decide) (by decide) h5 ?_ h11.2.2 (by decide) (by decide)
      intro t ht hz hk
      exact ⟨rfl, hP, h10.kept (fun k q hq => hk q.1 (h10 k q hq).lt), Nat.le_trans h11.1 hz, fun q q1 q2 => (hk q (Nat.lt_of_lt_of_le q1 h11.1)).trans (h11.2.1 q q1 q2)⟩
    obtain ⟨t, a1, a2⟩ := w T hT X
    exact ⟨t, a1, fun _ => a2⟩
  · exact ⟨_, Steps.refl _, fun q => absurd q hy⟩
end
theorem lvi_neg {f : Nat → Bool} {z : Int32} (hz : ¬ 0 ≤ z) : ∀ (j q c : Nat), c + j < 2 ^ 30 → lvS (lvi f z q j c) = none
  | 0, _, _, _ => rfl
  | j + 1, q, c, h => by
    simp only [lvi]
    rw [if_neg (show ¬ nI c = z from fun e => hz (by rw [← e]; exact nI_pos2 (by omega)))]
    split
    · exact lvi_neg hz j (q + 1) (c + 1) (by omega)
    · exact lvi_neg hz j (q + 1) c (by omega)
theorem eO_ge {o : Option Nat} (h : ∀ i, o = some i → i < 2 ^ 30) : (0 : Int32) ≤ eO o ↔ o.isNone = false := by
  cases o with
  | none => exact ⟨fun q => absurd q (by decide), fun q => by cases q⟩
  | some i => exact ⟨fun _ => rfl, fun _ => nI_pos2 (by have := h i rfl; omega)⟩
section
variable {b : Nat} {ad : Nat → Nat} {I J : HI} {L M : HL} {R : HR} {Q : QT} {B B2 t : Nat} {tp : Nat → Nat} {nt tr fa pl : Nat} {F : bkF} {S : Nat → LSt} {u r : Nat} {im : Nat → LSt} {ic : Nat}
theorem l_led {x z : Int32} (h : ClsB I L R B B2 t tp nt tr fa pl F S u r im ic) (hQ : ∀ q, ledO F (S 0) x z = some q → Q (some (.int (nI q))) SH I L R) : VG yX11_led cX11_led 5 (some .int) (rmo 6 1 6) (PL b Q (ledO F (S 0) x z = none) I L R) b ad false 0 0 0 [some (.ref (b + 0)), some (.int x), some (.int z), none, none] [] NN SH I L R := by
  have hR := cb_R h
  have hb := cb_b h
  have hB := cb_B h
  have hF := cb_F h
  have hO := cb_O h
  have o0 := hO.1
  have o1 := hO.2.1
  have o2 := hO.2.2.1
  have o3 := hO.2.2.2.1
  have o4 := hO.2.2.2.2.1
  have o5 := hO.2.2.2.2.2.1
  have o6 := hO.2.2.2.2.2.2.1
  have h1 := cb_1 h
  have ht := cb_t h
  have hS := sh_ring t ht
  have hL := cb_L h
  have hK := cb_K h
  have hps := hK.pers
  have hB88 := (cb_R5 h).2
  have hfl : ∀ d m i, fup (hitm (S 0).2.1 m d d) 0 (S 0).1 = some i → i < 2 ^ 30 := fun d m i q => by have := fup_some q; have := hK.1; omega
  refine g_aload_0 dX11_led_0 ?_
  refine g_getR dX11_led_1 gf_X11_29 (by first | assumption | rfl | exact led_1 (by assumption) | exact led_2 (by assumption) | exact bk_m (by assumption) (by first | assumption | omega) | exact bk_p (by assumption) (by first | assumption | omega) | exact bk_o (by assumption) (by first | assumption | omega) | exact bk_s (by assumption) (by first | assumption | omega) | exact bk_1 (by assumption) | exact bk_2 (by assumption) | exact bk_3 (by assumption) | exact bk_4 (by assumption) | exact bk_5 (by assumption) | exact bk_6 (by assumption) | exact bk_7 (by assumption) | exact bk_8 (by assumption) | exact sh_ring _ (by first | assumption | omega) | exact sh_imgs _ (by first | assumption | omega)) (by first | decide | (show _ < 172; omega)) (by assumption) ?_
  refine g_iload_1 dX11_led_4 ?_
  refine g_callV_1 dX11_led_5 ml_X11_110 mv_X0_hasDay (by first | assumption | rfl | exact led_1 (by assumption) | exact led_2 (by assumption) | exact bk_m (by assumption) (by first | assumption | omega) | exact bk_p (by assumption) (by first | assumption | omega) | exact bk_o (by assumption) (by first | assumption | omega) | exact bk_s (by assumption) (by first | assumption | omega) | exact bk_1 (by assumption) | exact bk_2 (by assumption) | exact bk_3 (by assumption) | exact bk_4 (by assumption) | exact bk_5 (by assumption) | exact bk_6 (by assumption) | exact bk_7 (by assumption) | exact bk_8 (by assumption) | exact sh_ring _ (by first | assumption | omega) | exact sh_imgs _ (by first | assumption | omega)) (by first | decide | (show _ < 172; omega)) (by decide) rfl (by decide) (by decide) (by decide) (by decide) (Nat.le_of_ble_eq_true rfl) (fun h => h) (c_X0_hasDay hB hF ?_)
  refine g_if_eq (tgt := 15) dX11_led_8 (by decide) (fun hc8 => ?_) (fun hc8 => ?_)
  · (first | rw [bI_0, Bool.not_eq_false] at hc8 | rw [bI_0] at hc8 | rw [show (0 : Int32) = nI 0 from rfl, nI_eq (by omega) (by omega)] at hc8 | skip)
    first
      | (exact g_thrL dX11_led_15 dX11_led_18 dX11_led_19 dX11_led_22 (by unfold ledO; rw [if_neg (by rw [hc8]; decide)]))
      | (exact g_thrL dX11_led_15 dX11_led_18 dX11_led_19 dX11_led_22 (by unfold ledO; rw [if_pos hc8]; exact lvi_neg hc12 _ _ _ (by omega)))
  · (first | rw [bI_0, Bool.not_eq_false] at hc8 | rw [bI_0] at hc8 | rw [show (0 : Int32) = nI 0 from rfl, nI_eq (by omega) (by omega)] at hc8 | skip)
    refine g_iload_2 dX11_led_11 ?_
    refine g_if_ge (tgt := 23) dX11_led_12 (by decide) (fun hc12 => ?_) (fun hc12 => ?_)
    · skip
      obtain ⟨d, rfl, hd1, hd⟩ := ind_ex (by omega) hc8
      have ed : tN (nI d) = d := tN_nI (by omega)
      obtain ⟨ez, hz⟩ := nI_tN hc12
      generalize tN z = i at ez hz
      subst ez
      have eL : ledO F (S 0) (nI d) (nI i) = lvS (lvi (fre (S 0) d) (nI i) 0 (F 2) 0) := by unfold ledO; rw [if_pos hc8, ed]
      have loop : ∀ (j m c : Nat), m + j = F 2 → c ≤ i → lvS (lvi (fre (S 0) d) (nI i) m j c) = ledO F (S 0) (nI d) (nI i) → VG yX11_led cX11_led 5 (some .int) (rmo 6 1 6) (PL b Q (ledO F (S 0) (nI d) (nI i) = none) I L R) b ad false 0 0 28 [some (.ref (b + 0)), some (.int (nI d)), some (.int (nI i)), some (.int (nI (i - c))), some (.int (nI m))] [] NN SH I L R := by
        intro j
        induction j with
        | zero =>
          intro m c hm hc he
          refine g_iload_4 dX11_led_28 ?_
          refine g_aload_0 dX11_led_30 ?_
          refine g_getR dX11_led_31 gf_X11_29 (by first | assumption | rfl | exact led_1 (by assumption) | exact led_2 (by assumption) | exact bk_m (by assumption) (by first | assumption | omega) | exact bk_p (by assumption) (by first | assumption | omega) | exact bk_o (by assumption) (by first | assumption | omega) | exact bk_s (by assumption) (by first | assumption | omega) | exact bk_1 (by assumption) | exact bk_2 (by assumption) | exact bk_3 (by assumption) | exact bk_4 (by assumption) | exact bk_5 (by assumption) | exact bk_6 (by assumption) | exact bk_7 (by assumption) | exact bk_8 (by assumption) | exact sh_ring _ (by first | assumption | omega) | exact sh_imgs _ (by first | assumption | omega)) (by first | decide | (show _ < 172; omega)) (by assumption) ?_
          refine g_getI dX11_led_34 gf_X11_93 (by first | assumption | rfl | exact led_1 (by assumption) | exact led_2 (by assumption) | exact bk_m (by assumption) (by first | assumption | omega) | exact bk_p (by assumption) (by first | assumption | omega) | exact bk_o (by assumption) (by first | assumption | omega) | exact bk_s (by assumption) (by first | assumption | omega) | exact bk_1 (by assumption) | exact bk_2 (by assumption) | exact bk_3 (by assumption) | exact bk_4 (by assumption) | exact bk_5 (by assumption) | exact bk_6 (by assumption) | exact bk_7 (by assumption) | exact bk_8 (by assumption) | exact sh_ring _ (by first | assumption | omega) | exact sh_imgs _ (by first | assumption | omega)) (by first | decide | (show _ < 172; omega)) ?_
          (try rw [bx2 hF])
          refine g_icmp_ge (tgt := 72) dX11_led_37 (by decide) (fun hc37 => ?_) (fun hc37 => ?_)
          · (try rw [nI_leI (by omega) (by omega)] at hc37)
            exact g_thrL dX11_led_72 dX11_led_75 dX11_led_76 dX11_led_79 (he.symm)
          · exact absurd (nI_le (by omega) (by omega)) hc37
        | succ j ih =>
          intro m c hm hc he
          simp only [lvi] at he
          refine g_iload_4 dX11_led_28 ?_
          refine g_aload_0 dX11_led_30 ?_
          refine g_getR dX11_led_31 gf_X11_29 (by first | assumption | rfl | exact led_1 (by assumption) | exact led_2 (by assumption) | exact bk_m (by assumption) (by first | assumption | omega) | exact bk_p (by assumption) (by first | assumption | omega) | exact bk_o (by assumption) (by first | assumption | omega) | exact bk_s (by assumption) (by first | assumption | omega) | exact bk_1 (by assumption) | exact bk_2 (by assumption) | exact bk_3 (by assumption) | exact bk_4 (by assumption) | exact bk_5 (by assumption) | exact bk_6 (by assumption) | exact bk_7 (by assumption) | exact bk_8 (by assumption) | exact sh_ring _ (by first | assumption | omega) | exact sh_imgs _ (by first | assumption | omega)) (by first | decide | (show _ < 172; omega)) (by assumption) ?_
          refine g_getI dX11_led_34 gf_X11_93 (by first | assumption | rfl | exact led_1 (by assumption) | exact led_2 (by assumption) | exact bk_m (by assumption) (by first | assumption | omega) | exact bk_p (by assumption) (by first | assumption | omega) | exact bk_o (by assumption) (by first | assumption | omega) | exact bk_s (by assumption) (by first | assumption | omega) | exact bk_1 (by assumption) | exact bk_2 (by assumption) | exact bk_3 (by assumption) | exact bk_4 (by assumption) | exact bk_5 (by assumption) | exact bk_6 (by assumption) | exact bk_7 (by assumption) | exact bk_8 (by assumption) | exact sh_ring _ (by first | assumption | omega) | exact sh_imgs _ (by first | assumption | omega)) (by first | decide | (show _ < 172; omega)) ?_
          (try rw [bx2 hF])
          refine g_icmp_ge (tgt := 72) dX11_led_37 (by decide) (fun hc37 => ?_) (fun hc37 => ?_)
          · exact absurd hc37 (nI_ge (by omega) (by omega))
          · (try rw [nI_leI (by omega) (by omega)] at hc37)
            refine g_aload_0 dX11_led_40 ?_
            refine g_getR dX11_led_41 gf_X11_46 (by first | assumption | rfl | exact led_1 (by assumption) | exact led_2 (by assumption) | exact bk_m (by assumption) (by first | assumption | omega) | exact bk_p (by assumption) (by first | assumption | omega) | exact bk_o (by assumption) (by first | assumption | omega) | exact bk_s (by assumption) (by first | assumption | omega) | exact bk_1 (by assumption) | exact bk_2 (by assumption) | exact bk_3 (by assumption) | exact bk_4 (by assumption) | exact bk_5 (by assumption) | exact bk_6 (by assumption) | exact bk_7 (by assumption) | exact bk_8 (by assumption) | exact sh_ring _ (by first | assumption | omega) | exact sh_imgs _ (by first | assumption | omega)) (by first | decide | (show _ < 172; omega)) (ro_X11_8 (by assumption)) ?_
            refine g_callV_0 dX11_led_44 ml_X11_113 mv_X1_now (by first | assumption | rfl | exact led_1 (by assumption) | exact led_2 (by assumption) | exact bk_m (by assumption) (by first | assumption | omega) | exact bk_p (by assumption) (by first | assumption | omega) | exact bk_o (by assumption) (by first | assumption | omega) | exact bk_s (by assumption) (by first | assumption | omega) | exact bk_1 (by assumption) | exact bk_2 (by assumption) | exact bk_3 (by assumption) | exact bk_4 (by assumption) | exact bk_5 (by assumption) | exact bk_6 (by assumption) | exact bk_7 (by assumption) | exact bk_8 (by assumption) | exact sh_ring _ (by first | assumption | omega) | exact sh_imgs _ (by first | assumption | omega)) (by first | decide | (show _ < 172; omega)) (by decide) rfl (by decide) (by decide) (by decide) (by decide) (Nat.le_of_ble_eq_true rfl) (fun h => h) (c_X1_now hR h1 ht ?_)
            refine g_iload_4 dX11_led_47 ?_
            refine g_iload_1 dX11_led_49 ?_
            refine g_callV_2 dX11_led_50 ml_X11_254 mv_X2_find (by first | assumption | rfl | exact led_1 (by assumption) | exact led_2 (by assumption) | exact bk_m (by assumption) (by first | assumption | omega) | exact bk_p (by assumption) (by first | assumption | omega) | exact bk_o (by assumption) (by first | assumption | omega) | exact bk_s (by assumption) (by first | assumption | omega) | exact bk_1 (by assumption) | exact bk_2 (by assumption) | exact bk_3 (by assumption) | exact bk_4 (by assumption) | exact bk_5 (by assumption) | exact bk_6 (by assumption) | exact bk_7 (by assumption) | exact bk_8 (by assumption) | exact sh_ring _ (by first | assumption | omega) | exact sh_imgs _ (by first | assumption | omega)) (by first | decide | (show _ < 172; omega)) (by decide) rfl (by decide) (by decide) (by decide) (by decide) (Nat.le_of_ble_eq_true rfl) (fun h => h) (c_X2_find hR hS hL.1 (by omega) (by omega) ?_)
            refine g_if_ge (tgt := 66) dX11_led_53 (by decide) (fun hc53 => ?_) (fun hc53 => ?_)
            · skip
              refine g_iinc_4 (v := 1) rfl dX11_led_66 (by decide) ?_
              rw [show nI m + 1 = nI (m + 1) from nI_1 m]
              refine g_goto (tgt := 28) dX11_led_69 (by decide) ?_
              first
                | (rw [show fre (S 0) d m = false from (eO_ge (hfl d m)).mp hc53, if_neg (by decide)] at he; exact ih (m + 1) c (by omega) hc he)
                | (rw [nI_eq (by omega) (by decide)] at hc57; rw [show fre (S 0) d m = true by (unfold fre; cases w : (fup (hitm (S 0).2.1 m d d) 0 (S 0).1).isNone with | true => rfl | false => exact absurd ((eO_ge (hfl d m)).mpr w) hc53), if_pos rfl, if_neg (fun w => hc57 (by have := nI_inj2 (by omega) hz w; omega))] at he; rw [show nI (i - c) + -1 = nI (i - (c + 1)) by rw [nI_dn, zI_nat]; congr 1; omega]; exact ih (m + 1) (c + 1) (by omega) (by omega) he)
            · skip
              refine g_iload_3 dX11_led_56 ?_
              refine g_if_ne (tgt := 63) dX11_led_57 (by decide) (fun hc57 => ?_) (fun hc57 => ?_)
              · rw [show (0 : Int32) = nI 0 from rfl] at hc57
                refine g_iinc_3 (v := -1) rfl dX11_led_63 (by decide) ?_
                refine g_iinc_4 (v := 1) rfl dX11_led_66 (by decide) ?_
                rw [show nI m + 1 = nI (m + 1) from nI_1 m]
                refine g_goto (tgt := 28) dX11_led_69 (by decide) ?_
                first
                  | (rw [show fre (S 0) d m = false from (eO_ge (hfl d m)).mp hc53, if_neg (by decide)] at he; exact ih (m + 1) c (by omega) hc he)
                  | (rw [nI_eq (by omega) (by decide)] at hc57; rw [show fre (S 0) d m = true by (unfold fre; cases w : (fup (hitm (S 0).2.1 m d d) 0 (S 0).1).isNone with | true => rfl | false => exact absurd ((eO_ge (hfl d m)).mpr w) hc53), if_pos rfl, if_neg (fun w => hc57 (by have := nI_inj2 (by omega) hz w; omega))] at he; rw [show nI (i - c) + -1 = nI (i - (c + 1)) by rw [nI_dn, zI_nat]; congr 1; omega]; exact ih (m + 1) (c + 1) (by omega) (by omega) he)
              · rw [show (0 : Int32) = nI 0 from rfl] at hc57
                refine g_iload_4 dX11_led_60 ?_
                rw [nI_eq (by omega) (by decide)] at hc57
                rw [show fre (S 0) d m = true by (unfold fre; cases w : (fup (hitm (S 0).2.1 m d d) 0 (S 0).1).isNone with | true => rfl | false => exact absurd ((eO_ge (hfl d m)).mpr w) hc53), if_pos rfl, if_pos (show nI c = nI i by rw [show c = i by omega])] at he
                exact g_retL dX11_led_62 (hQ m he.symm)
      refine g_iload_2 dX11_led_23 ?_
      refine g_istore_3 rfl dX11_led_24 ?_
      refine g_iconst (v := nI 0) dX11_led_25 (by decide) ?_
      refine g_istore_4 rfl dX11_led_26 ?_
      exact loop (F 2) 0 0 (by omega) (Nat.zero_le _) eL.symm
    · skip
      first
        | (exact g_thrL dX11_led_15 dX11_led_18 dX11_led_19 dX11_led_22 (by unfold ledO; rw [if_neg (by rw [hc8]; decide)]))
        | (exact g_thrL dX11_led_15 dX11_led_18 dX11_led_19 dX11_led_22 (by unfold ledO; rw [if_pos hc8]; exact lvi_neg hc12 _ _ _ (by omega)))
end
