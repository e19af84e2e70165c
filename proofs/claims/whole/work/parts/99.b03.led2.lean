theorem dL_led_0 : decode cL_led 0 = .ok (.aload_n 3, 1) := by decide +kernel
theorem dL_led_1 : decode cL_led 1 = .ok (.iconst 0, 1) := by decide +kernel
theorem dL_led_2 : decode cL_led 2 = .ok (.aload_n 0, 1) := by decide +kernel
theorem dL_led_3 : decode cL_led 3 = .ok (.iload_n 1, 1) := by decide +kernel
theorem dL_led_4 : decode cL_led 4 = .ok (.iload_n 2, 1) := by decide +kernel
theorem dL_led_5 : decode cL_led 5 = .ok (.invokevirtual 7, 3) := by decide +kernel
theorem dL_led_8 : decode cL_led 8 = .ok (.i2l, 1) := by decide +kernel
theorem dL_led_9 : decode cL_led 9 = .ok (.lastore, 1) := by decide +kernel
theorem dL_led_10 : decode cL_led 10 = .ok (.goto 7, 3) := by decide +kernel
theorem dL_led_13 : decode cL_led 13 = .ok (.astore 4, 2) := by decide +kernel
theorem dL_led_15 : decode cL_led 15 = .ok (.iconst 1, 1) := by decide +kernel
theorem dL_led_16 : decode cL_led 16 = .ok (.ireturn, 1) := by decide +kernel
theorem dL_led_17 : decode cL_led 17 = .ok (.iconst 0, 1) := by decide +kernel
theorem dL_led_18 : decode cL_led 18 = .ok (.ireturn, 1) := by decide +kernel
/-- what a method that may throw, or calls one, asks of its start -/
def PcN (b : Nat) (ad : Nat → Nat) (D : va_G) (dA : Nat → ClassId) (av : List Value) (I : HI) (L : HL) (R : HR) : Array Value → State → Prop := va_Pc av (fun U => NX U ∧ b ≤ U.heap.size ∧ va_P D xcl (wld b dA NN SH I L R) U.heap ∧ va_K D xcl (tysl dA) U ∧ SX b ad U U.heap)
theorem NX.same {u U : State} (h : u.vm = U.vm) (q : NX u) : NX U := fun w hw => va_Nw.same (nxw_on w hw) h (q w hw)
theorem pcn_blind {b : Nat} {ad : Nat → Nat} {D : va_G} {dA : Nat → ClassId} {av : List Value} {I : HI} {L : HL} {R : HR} : FrameBlind (PcN b ad D dA av I L R) := by
  intro a U g mk q
  obtain ⟨q0, q1, q2, q3, q4, q5⟩ := q
  exact ⟨q0, NX.same (u := U) (U := U.calling g mk a) rfl q1, q2, q3, va_K.moved (u := U) (U := U.calling g mk a) (Vm.Alike.refl U.vm) q4, SX.same (u := U) (U := U.calling g mk a) rfl q5⟩
section
variable {b : Nat} {ad : Nat → Nat} {I J : HI} {L M : HL} {R : HR} {Q : QT} {B B2 t : Nat} {tp : Nat → Nat} {nt tr fa pl : Nat} {F : bkF} {S : Nat → LSt} {u r : Nat} {im : Nat → LSt} {ic : Nat}
theorem c_X11_led {x z : Int32} (h : ClsB I L R B B2 t tp nt tr fa pl F S u r im ic) (hQ : ∀ q, ledO F (S 0) x z = some q → Q (some (.int (nI q))) SH I L R) (l : Launch) (hl : l.stackTraces = false) (D : va_G) (dA : Nat → ClassId) : vx_Met l yX11_led (.code yX11_led cX11_led 5 (some .int) :: UU) (rmo 6 1 6) (PcN b ad D dA [.ref (b + 0), .int x, .int z] I L R) (Qo b D dA NN Q) (XL b D dA (ledO F (S 0) x z = none) I L R) 1 6 (fun q => b ≤ q) := by
  refine vx_ofW (cc := cX11_led) (maxL := 5) (ret := some .int) (by decide) rfl ?_
  intro p e s m args below meth c s₁ B' hml hno hv
  obtain ⟨rfl, hN, hbs, hP, hK, hX⟩ := hv
  have hts := atoms_spec (ws := .code yX11_led cX11_led 5 (some .int) :: UU) B'.pre
  rw [lg_entry_eq]
  have w := l_led (b := b) (ad := ad) (Q := Q) (x := x) (z := z) h hQ p l e s m _ below meth c s.heap [] D dA ((lg_sl [.ref (b + 0), .int x, .int z] ++ List.replicate (5 - (lg_sl [.ref (b + 0), .int x, .int z]).length) Slot.unset).toArray) ⟨B'.exec, B'.bytes, hml, B'.returns, B'.notSynchronized, (name_of_methodNamed B'.named B'.method).1, findClass_of_methodNamed B'.named, fun w hw => hts w (List.mem_cons_of_mem _ hw), hK, hP, va_S.rf, (fun q => by cases q), hX, hbs, lvE_ok (av := [.ref (b + 0), .int x, .int z]) (nL := 5) (Nat.le_of_ble_eq_true rfl)⟩
  intro T hT X
  obtain ⟨t, a1, a2⟩ := w T hT X
  exact ⟨t, a1, a2 ⟨hl, hno, hN⟩⟩
def hhL : List (Nat × Nat × Nat × Nat) := [(0, 10, 13, 13)]
def PLL (b : Nat) (Q : QT) : PQT := fun _ l _ s _ args below _ c D dA t => (l.stackTraces = false ∧ c.exceptionTable.toList = tableOf hhL ∧ NX s) → vx_MQ below (Qo b D dA NN Q) (fun _ _ _ => False) args s 1 6 (fun q => b ≤ q) t
theorem g_retLL {v : Int32} {lv : List (Option Value)} {pc : Nat} (hd : decode cL_led pc = .ok (.ireturn, 1)) (hq : Q (some (.int v)) SH I L R) : VG yL_led cL_led 5 (some .int) (rmo 7 1 6) (PLL b Q) b ad false 1 6 pc lv [.int v] NN SH I L R := by
  intro p l e s m args below meth c H locs D dA ls hc T hT X
  have w := (v_iret (k := 7) (mc := 1) (ms := 6) (NF := NN) (cu := 1) (su := 6) (N := NN) (y := yL_led) (nL := 5) (b := b) (ad := ad) (x0 := false) (lv := lv) hd rfl rfl rfl rfl hq) p l e s m args below meth c H locs D dA ls hc
  obtain ⟨t, a1, o, b1, b2, b3, b4⟩ := w T hT X
  exact ⟨t, a1, fun _ => ⟨o, b1, b2, Or.inl ⟨b3, b4⟩⟩⟩
theorem g_callLed {x z : Int32} {lv : List (Option Value)} {rest : List Value} (h : ClsB I L R B B2 t tp nt tr fa pl F S u r im ic) (hd : decode cL_led 5 = .ok (.invokevirtual 7, 3)) (hst : (rest.map fun v => v.category).sum ≤ 8)
    (kN : ∀ q, ledO F (S 0) x z = some q → VG yL_led cL_led 5 (some .int) (rmo 7 1 6) (PLL b Q) b ad false 1 6 8 lv (.int (nI q) :: rest) NN SH I L R) (kT : ledO F (S 0) x z = none → ∀ a : Nat, VG yL_led cL_led 5 (some .int) (rmo 7 1 6) (PLL b Q) b ad false 1 6 13 lv [.ref a] NN SH I L R) : VG yL_led cL_led 5 (some .int) (rmo 7 1 6) (PLL b Q) b ad false 0 0 5 lv (.int z :: .int x :: .ref (b + 0) :: rest) NN SH I L R := by
  intro p l e s m args below meth c0 H locs D dA ls hc T hT X
  obtain ⟨h1, h2, h3, h4, h5, h6, h7, h8, h9, h10, h11, h12, h13, h14, h15⟩ := id hc
  by_cases hy : l.stackTraces = false ∧ c0.exceptionTable.toList = tableOf hhL ∧ NX s
  case neg => exact ⟨_, Steps.refl _, fun q => absurd q hy⟩
  obtain ⟨y1, y2, y3⟩ := id hy
  obtain ⟨m1, m2, m3, m4, m5, m6⟩ := mv_X11_led
  obtain ⟨g1, g2, g3, g4, g5⟩ := clf 11 (by decide)
  have hM := c_X11_led (b := b) (ad := ad) (x := x) (z := z) (Q := fun r sh I' L' R' => ∃ q, ledO F (S 0) x z = some q ∧ r = some (.int (nI q)) ∧ sh = SH ∧ I' = I ∧ L' = L ∧ R' = R) h (fun q hq => ⟨q, hq, rfl, rfl, rfl, rfl, rfl⟩) l y1 D dA
  have hrun := vx_runV (p := p) (e := e) (below := below) (meth := meth) (H := H) (locs := locs) (cells := 0) (slots := 0) (R := rmo 7 1 6) (g := F0 m 5 ls (.int z :: .int x :: .ref (b + 0) :: rest)) (As := [.int x, .int z]) (b := b + 0) (C := yX11_led.cls) (rest := rest) ⟨h1, h2, h3, h7, h8⟩ hM (cwV 2 h8 (goodV ml_L_7 m1 m2 m3 m4) rfl rfl rfl ⟨rfl, m5⟩ ⟨by decide, by decide⟩) ⟨pcn_blind, (va_recv h9 h10 g1 (by rw [wld_at (k := 0) (by decide), cel_o (show SH 0 = .inl 11 from rfl)])), fun U hU hW => ⟨rfl, y3.go hW, by rw [hU]; exact Nat.le_trans h14 h11.1, by rw [hU]; exact h10, va_K.moved hW.alike h9, h13.go hW (fun q q1 q2 => by rw [hU]; exact h11.2.1 q q1 q2)⟩⟩ rfl rfl h15.1.1 rfl (lv_room hst) hd ⟨by decide, by decide⟩
  rcases hrun T hT X with ⟨v, st₀, t, T', L', k0, X', kL, e1, e2, ⟨r, sh', I', L2, R', hv, ⟨q, hq, hr, rfl, rfl, rfl, rfl⟩, hP, hz, hk⟩, st⟩ | ⟨q, st₀, t, T', L', E, ce, k0, X', kL, e1, e2, ⟨rfl, hq, hP, hz, hk⟩, hce, hcv, hcl, st⟩
  · cases hv
    subst hr
    rw [k0] at hz hk
    obtain ⟨t2, a1, b1⟩ := kN q hq p l e s m args below meth c0 T'.heap (locs ++ L') D dA ls ⟨h1, h2, h3, h4, h5, h6, h7, h8, h9, by rw [e1]; exact hP, ⟨Nat.le_trans h11.1 (by rw [e1]; exact hz), fun q h1 h2 => by rw [e1, hk q (Nat.lt_of_lt_of_le h1 h11.1) h2]; exact h11.2.1 q h1 h2, fun q hq => by
      rcases List.mem_append.mp hq with h | h
      · exact h11.2.2 q h
      · exact kL q h⟩, (fun q => by cases q), h13, h14, h15⟩ T' rfl X'
    exact ⟨t2, st t2 a1, b1⟩
  · rw [k0] at hz hk
    have w : vx_W p l e (rmo 7 1 6) s m args below meth c0 T'.heap (locs ++ L') (0 + 1) (0 + 6) (PLL b Q p l e s m args below meth c0 D dA) (F0 m 5 ls rest) q := by
      refine vx_catch (own := RL) (name := NSE) (E := NSE) (ce := ce) h7 [] ⟨0, 10, 13, 13⟩ [] y2 (fun z hz => by cases hz) rfl (by decide) (h8 _ (uu (i := 1347) (by decide +kernel) rfl)) (va_Nw.use rfl (y3 _ List.mem_cons_self)) (by rw [e1]; exact hce) hcv hcl ?_
      exact kT hq q p l e s m args below meth c0 T'.heap (locs ++ L') D dA ls ⟨h1, h2, h3, h4, h5, h6, h7, h8, h9, by rw [e1]; exact hP, ⟨Nat.le_trans h11.1 (by rw [e1]; exact hz), fun q h1 h2 => by rw [e1, hk q (Nat.lt_of_lt_of_le h1 h11.1) h2]; exact h11.2.1 q h1 h2, fun q hq => by
        rcases List.mem_append.mp hq with h | h
        · exact h11.2.2 q h
        · exact kL q h⟩, (fun q => by cases q), h13, h14, h15⟩
    obtain ⟨t2, a1, b1⟩ := w T' rfl X'
    exact ⟨t2, st.trans a1, b1⟩
theorem l_Lled {x z : Int32} (h : ClsB I L R B B2 t tp nt tr fa pl F S u r im ic) (hQ0 : ∀ q, ledO F (S 0) x z = some q → Q (some (.int (nI 0))) SH I (ul L 171 0 (nI q).toInt64) R) (hQ1 : ledO F (S 0) x z = none → Q (some (.int (nI 1))) SH I L R) : VG yL_led cL_led 5 (some .int) (rmo 7 1 6) (PLL b Q) b ad false 0 0 0 [some (.ref (b + 0)), some (.int x), some (.int z), some (.ref (b + 171)), none] [] NN SH I L R := by
  refine g_aload_3 dL_led_0 ?_
  refine g_iconst (v := nI 0) dL_led_1 (by decide) ?_
  refine g_aload_0 dL_led_2 ?_
  refine g_iload_1 dL_led_3 ?_
  refine g_iload_2 dL_led_4 ?_
  refine g_callLed h dL_led_5 (Nat.le_of_ble_eq_true rfl) (fun q hq => ?_) (fun hq a => ?_)
  · refine g_i2l dL_led_8 ?_
    refine g_last dL_led_9 (show SH 171 = .inr (1, 1) from rfl) (by decide) (vp_in_nI (by decide) (by decide)) ?_
    refine g_goto (tgt := 17) dL_led_10 (by decide) ?_
    refine g_iconst (v := nI 0) dL_led_17 (by decide) ?_
    exact g_retLL dL_led_18 (hQ0 q hq)
  · refine g_astore_4 rfl dL_led_13 ?_
    refine g_iconst (v := nI 1) dL_led_15 (by decide) ?_
    exact g_retLL dL_led_16 (hQ1 hq)
theorem c_L_led {x z : Int32} (h : ClsB I L R B B2 t tp nt tr fa pl F S u r im ic) (hQ0 : ∀ q, ledO F (S 0) x z = some q → Q (some (.int (nI 0))) SH I (ul L 171 0 (nI q).toInt64) R) (hQ1 : ledO F (S 0) x z = none → Q (some (.int (nI 1))) SH I L R) (l : Launch) (hl : l.stackTraces = false) (D : va_G) (dA : Nat → ClassId) : vx_Met l yL_led (.codeWith yL_led cL_led 5 (some .int) hhL :: UU) (rmo 7 1 6) (PcN b ad D dA [.ref (b + 0), .int x, .int z, .ref (b + 171)] I L R) (Qo b D dA NN Q) (fun _ _ _ => False) 1 6 (fun q => b ≤ q) := by
  refine vx_ofWH (cc := cL_led) (maxL := 5) (ret := some .int) (hh := hhL) (by decide) rfl ?_
  intro p e s m args below meth c s₁ B' hml hv
  obtain ⟨rfl, hN, hbs, hP, hK, hX⟩ := hv
  have hts := atoms_spec (ws := .codeWith yL_led cL_led 5 (some .int) hhL :: UU) B'.pre
  have htb := vx_table (x := yL_led) B' (hts _ List.mem_cons_self)
  rw [lg_entry_eq]
  have w := l_Lled (b := b) (ad := ad) (Q := Q) (x := x) (z := z) h hQ0 hQ1 p l e s m _ below meth c s.heap [] D dA ((lg_sl [.ref (b + 0), .int x, .int z, .ref (b + 171)] ++ List.replicate (5 - (lg_sl [.ref (b + 0), .int x, .int z, .ref (b + 171)]).length) Slot.unset).toArray) ⟨B'.exec, B'.bytes, hml, B'.returns, B'.notSynchronized, (name_of_methodNamed B'.named B'.method).1, findClass_of_methodNamed B'.named, fun w hw => hts w (List.mem_cons_of_mem _ hw), hK, hP, va_S.rf, (fun q => by cases q), hX, hbs, lvE_ok (av := [.ref (b + 0), .int x, .int z, .ref (b + 171)]) (nL := 5) (Nat.le_of_ble_eq_true rfl)⟩
  intro T hT X
  obtain ⟨t, a1, a2⟩ := w T hT X
  exact ⟨t, a1, a2 ⟨hl, htb, hN⟩⟩
end
