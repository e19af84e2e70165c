section
variable {y : MethodName} {cc : ByteArray} {nL : Nat} {ret : Option FieldType} {k mc ms NF : Nat} {Q : QT} {b : Nat} {ad : Nat → Nat} {x0 : Bool} {cu su pc : Nat} {lv tl : List (Option Value)} {st rest : List Value} {N : Nat} {sh : HS} {I : HI} {L : HL} {R : HR} {y' : MethodName} {cc' : ByteArray} {nL' : Nat} {ret' : Option FieldType} {k' mc' ms' : Nat} {x' : Bool}
theorem uu_g {w : Cond} (h : w ∈ UU) : w ∈ UU ∧ ((w.onTables && w.keeps) = true ∨ ∃ ty, w = .arrayClass ty) := uu_good w h
theorem pc_blind {D : va_G} {dA : Nat → ClassId} {av : List Value} : FrameBlind (va_Pc av (fun U => (x' = true → U.heap.size = b + N) ∧ b ≤ U.heap.size ∧ va_P D xcl (wld b dA N sh I L R) U.heap ∧ va_K D xcl (tysl dA) U ∧ SX b ad U U.heap)) := by
  intro a U g mk q
  obtain ⟨q0, q1, q2, q3, q4, q5⟩ := q
  exact ⟨q0, q1, q2, q3, va_K.moved (u := U) (U := U.calling g mk a) (Vm.Alike.refl U.vm) q4, SX.same (u := U) (U := U.calling g mk a) rfl q5⟩
theorem vo_call {p : Program} {l : Launch} {e : Env} {R0 : Room} {s : State} {m : MethodId} {args a : Array Value} {below : List Frame} {meth : Method} {c0 : Code} {H : Heap} {locs : List Loc} {D : va_G} {dA : Nat → ClassId} {ls : Array Slot} {Q0 : State → Prop} {NF' : Nat} {Q' : QT} {st0 : List Value}
    (hr : va_Run p l e R0 s m args below meth c0 H locs cu su mc' ms' (F0 m pc ls st0) rest (Qo b D dA NF' Q' a) (fun q => b ≤ q)) (hS : va_S (fun q => b ≤ q) s.heap H locs)
    (kk : ∀ (r : Option Value) (sh : HS) (I : HI) (L : HL) (R : HR) (H1 : Heap) (locs1 : List Loc), Q' r sh I L R → va_P D xcl (wld b dA NF' sh I L R) H1 → va_S (fun q => b ≤ q) s.heap H1 locs1 → W p l e R0 s m args below meth c0 H1 locs1 (cu + mc') (su + ms') Q0 (F0 m (pc + 3) ls (r.toList ++ rest))) : W p l e R0 s m args below meth c0 H locs cu su Q0 (F0 m pc ls st0) := by
  intro T hT X
  obtain ⟨v, st₀, t, T', L, h0, X', hL, e1, e2, ⟨r, sh', I', L', R', hv, hq, hP, hz, hk⟩, st⟩ := hr T hT X
  cases hv
  rw [h0] at hz hk
  obtain ⟨t2, a1, b1⟩ := kk v sh' I' L' R' T'.heap (locs ++ L) hq (by rw [e1]; exact hP)
    ⟨Nat.le_trans hS.1 (by rw [e1]; exact hz), fun q h1 h2 => by rw [e1, hk q (Nat.lt_of_lt_of_le h1 hS.1) h2]; exact hS.2.1 q h1 h2, fun q hq => by
      rcases List.mem_append.mp hq with h | h
      · exact hS.2.2 q h
      · exact hL q h⟩ T' rfl X'
  exact ⟨t2, st t2 a1, b1⟩
theorem goodV {own : String} {idx : Nat} (h1 : Cond.methodLink own idx y' ∈ UU) (h2 : Cond.instanceMethod y' ∈ UU) (h3 : Cond.selects y'.cls y' y' ∈ UU) (h4 : Cond.initialized y'.cls ∈ UU) (h5 : Cond.code y' cc' nL' ret' ∈ UU) : GoodIn UU (wsV own idx y'.cls y' (.code y' cc' nL' ret' :: UU)) := by
  intro w hw
  simp only [wsV, List.cons_append, List.nil_append, List.mem_cons] at hw
  rcases hw with rfl | rfl | rfl | rfl | rfl | hw
  · exact uu_g h1
  · exact uu_g h2
  · exact uu_g h3
  · exact uu_g h4
  · exact uu_g h5
  · exact uu_g hw
theorem goodB (h5 : Cond.code y' cc' nL' ret' ∈ UU) : GoodIn UU (.code y' cc' nL' ret' :: UU) := by
  intro w hw
  rcases List.mem_cons.mp hw with rfl | hw
  · exact uu_g h5
  · exact uu_g hw
theorem v_callV_0 {a ci idx : Nat} (hd : decode cc pc = .ok (.invokevirtual idx, 3)) (hl : Cond.methodLink y.cls idx y' ∈ UU) (hm : MV y' cc' nL' ret' 0) (hs : sh a = .inl ci) (ha : a < N) (hci : ci < 13) (hcn : (xq ci).1 = y'.cls) (hk : k' < k) (hcu : cu + mc' ≤ mc) (hsu : su + ms' ≤ ms) (hst : (rest.map fun v => v.category).sum ≤ 8) (hx : x' = true → x0 = true)
    (hC : C k' y' cc' nL' ret' mc' ms' b ad x' [.ref (b + a)] N sh I L R (fun r sh' I' L' R' => V y cc nL ret k mc ms NF Q b ad x0 (cu + mc') (su + ms') (pc + 3) lv (r.toList ++ rest) (N + mc') sh' I' L' R')) : V y cc nL ret k mc ms NF Q b ad x0 cu su pc lv (.ref (b + a) :: rest) N sh I L R := by
  intro p l e s m args below meth c0 H locs D dA ls hc
  obtain ⟨h1, h2, h3, h4, h5, h6, h7, h8, h9, h10, h11, h12, h13, h14, h15⟩ := id hc
  obtain ⟨m1, m2, m3, m4, m5, m6⟩ := hm
  obtain ⟨g1, g2, g3, g4, g5⟩ := clf ci hci
  intro T hT X
  have hz := v_len hc hT X
  refine vo_call (va_runV (As := []) (b := b + a) (C := y'.cls) (rest := rest) ⟨h1, h2, h3, h7, h8⟩ (hC l D dA) (cwV 0 h8 (goodV hl m1 m2 m3 m4) rfl rfl rfl ⟨rfl, m5⟩ ⟨by show k' + 1 ≤ k; omega, by show 8 + (nL' + 11) + 100 * k' ≤ 100 * k; omega⟩) ⟨pc_blind, (by rw [← hcn]; exact va_recv h9 h10 g1 (by rw [wld_at ha, cel_o hs])), fun U hU hW => ⟨rfl, fun q => by rw [hU]; exact hz (hx q), by rw [hU]; exact Nat.le_trans h14 h11.1, by rw [hU]; exact h10, va_K.moved hW.alike h9, h13.go hW (fun q q1 q2 => by rw [hU]; exact h11.2.1 q q1 q2)⟩⟩ rfl rfl h15.1.1 rfl (lv_room hst) hd ⟨hcu, hsu⟩) h11 (fun r sh1 I1 L1 R1 H1 locs1 hq hP1 hS1 => hq p l e s m args below meth c0 H1 locs1 D dA ls ⟨h1, h2, h3, h4, h5, h6, h7, h8, h9, hP1, hS1, fun hx => by have := h12 hx; omega, h13, h14, h15⟩) T hT X
theorem v_callV_1 {a ci idx : Nat} {v1 : Value} (hd : decode cc pc = .ok (.invokevirtual idx, 3)) (hl : Cond.methodLink y.cls idx y' ∈ UU) (hm : MV y' cc' nL' ret' 1) (hs : sh a = .inl ci) (ha : a < N) (hci : ci < 13) (hcn : (xq ci).1 = y'.cls) (hk : k' < k) (hcu : cu + mc' ≤ mc) (hsu : su + ms' ≤ ms) (hst : (rest.map fun v => v.category).sum ≤ 8) (hx : x' = true → x0 = true)
    (hC : C k' y' cc' nL' ret' mc' ms' b ad x' [.ref (b + a), v1] N sh I L R (fun r sh' I' L' R' => V y cc nL ret k mc ms NF Q b ad x0 (cu + mc') (su + ms') (pc + 3) lv (r.toList ++ rest) (N + mc') sh' I' L' R')) : V y cc nL ret k mc ms NF Q b ad x0 cu su pc lv (v1 :: .ref (b + a) :: rest) N sh I L R := by
  intro p l e s m args below meth c0 H locs D dA ls hc
  obtain ⟨h1, h2, h3, h4, h5, h6, h7, h8, h9, h10, h11, h12, h13, h14, h15⟩ := id hc
  obtain ⟨m1, m2, m3, m4, m5, m6⟩ := hm
  obtain ⟨g1, g2, g3, g4, g5⟩ := clf ci hci
  intro T hT X
  have hz := v_len hc hT X
  refine vo_call (va_runV (As := [v1]) (b := b + a) (C := y'.cls) (rest := rest) ⟨h1, h2, h3, h7, h8⟩ (hC l D dA) (cwV 1 h8 (goodV hl m1 m2 m3 m4) rfl rfl rfl ⟨rfl, m5⟩ ⟨by show k' + 1 ≤ k; omega, by show 8 + (nL' + 11) + 100 * k' ≤ 100 * k; omega⟩) ⟨pc_blind, (by rw [← hcn]; exact va_recv h9 h10 g1 (by rw [wld_at ha, cel_o hs])), fun U hU hW => ⟨rfl, fun q => by rw [hU]; exact hz (hx q), by rw [hU]; exact Nat.le_trans h14 h11.1, by rw [hU]; exact h10, va_K.moved hW.alike h9, h13.go hW (fun q q1 q2 => by rw [hU]; exact h11.2.1 q q1 q2)⟩⟩ rfl rfl h15.1.1 rfl (lv_room hst) hd ⟨hcu, hsu⟩) h11 (fun r sh1 I1 L1 R1 H1 locs1 hq hP1 hS1 => hq p l e s m args below meth c0 H1 locs1 D dA ls ⟨h1, h2, h3, h4, h5, h6, h7, h8, h9, hP1, hS1, fun hx => by have := h12 hx; omega, h13, h14, h15⟩) T hT X
theorem v_callV_2 {a ci idx : Nat} {v1 v2 : Value} (hd : decode cc pc = .ok (.invokevirtual idx, 3)) (hl : Cond.methodLink y.cls idx y' ∈ UU) (hm : MV y' cc' nL' ret' 2) (hs : sh a = .inl ci) (ha : a < N) (hci : ci < 13) (hcn : (xq ci).1 = y'.cls) (hk : k' < k) (hcu : cu + mc' ≤ mc) (hsu : su + ms' ≤ ms) (hst : (rest.map fun v => v.category).sum ≤ 8) (hx : x' = true → x0 = true)
    (hC : C k' y' cc' nL' ret' mc' ms' b ad x' [.ref (b + a), v1, v2] N sh I L R (fun r sh' I' L' R' => V y cc nL ret k mc ms NF Q b ad x0 (cu + mc') (su + ms') (pc + 3) lv (r.toList ++ rest) (N + mc') sh' I' L' R')) : V y cc nL ret k mc ms NF Q b ad x0 cu su pc lv (v2 :: v1 :: .ref (b + a) :: rest) N sh I L R := by
  intro p l e s m args below meth c0 H locs D dA ls hc
  obtain ⟨h1, h2, h3, h4, h5, h6, h7, h8, h9, h10, h11, h12, h13, h14, h15⟩ := id hc
  obtain ⟨m1, m2, m3, m4, m5, m6⟩ := hm
  obtain ⟨g1, g2, g3, g4, g5⟩ := clf ci hci
  intro T hT X
  have hz := v_len hc hT X
  refine vo_call (va_runV (As := [v1, v2]) (b := b + a) (C := y'.cls) (rest := rest) ⟨h1, h2, h3, h7, h8⟩ (hC l D dA) (cwV 2 h8 (goodV hl m1 m2 m3 m4) rfl rfl rfl ⟨rfl, m5⟩ ⟨by show k' + 1 ≤ k; omega, by show 8 + (nL' + 11) + 100 * k' ≤ 100 * k; omega⟩) ⟨pc_blind, (by rw [← hcn]; exact va_recv h9 h10 g1 (by rw [wld_at ha, cel_o hs])), fun U hU hW => ⟨rfl, fun q => by rw [hU]; exact hz (hx q), by rw [hU]; exact Nat.le_trans h14 h11.1, by rw [hU]; exact h10, va_K.moved hW.alike h9, h13.go hW (fun q q1 q2 => by rw [hU]; exact h11.2.1 q q1 q2)⟩⟩ rfl rfl h15.1.1 rfl (lv_room hst) hd ⟨hcu, hsu⟩) h11 (fun r sh1 I1 L1 R1 H1 locs1 hq hP1 hS1 => hq p l e s m args below meth c0 H1 locs1 D dA ls ⟨h1, h2, h3, h4, h5, h6, h7, h8, h9, hP1, hS1, fun hx => by have := h12 hx; omega, h13, h14, h15⟩) T hT X
theorem v_callV_3 {a ci idx : Nat} {v1 v2 v3 : Value} (hd : decode cc pc = .ok (.invokevirtual idx, 3)) (hl : Cond.methodLink y.cls idx y' ∈ UU) (hm : MV y' cc' nL' ret' 3) (hs : sh a = .inl ci) (ha : a < N) (hci : ci < 13) (hcn : (xq ci).1 = y'.cls) (hk : k' < k) (hcu : cu + mc' ≤ mc) (hsu : su + ms' ≤ ms) (hst : (rest.map fun v => v.category).sum ≤ 8) (hx : x' = true → x0 = true)
    (hC : C k' y' cc' nL' ret' mc' ms' b ad x' [.ref (b + a), v1, v2, v3] N sh I L R (fun r sh' I' L' R' => V y cc nL ret k mc ms NF Q b ad x0 (cu + mc') (su + ms') (pc + 3) lv (r.toList ++ rest) (N + mc') sh' I' L' R')) : V y cc nL ret k mc ms NF Q b ad x0 cu su pc lv (v3 :: v2 :: v1 :: .ref (b + a) :: rest) N sh I L R := by
  intro p l e s m args below meth c0 H locs D dA ls hc
  obtain ⟨h1, h2, h3, h4, h5, h6, h7, h8, h9, h10, h11, h12, h13, h14, h15⟩ := id hc
  obtain ⟨m1, m2, m3, m4, m5, m6⟩ := hm
  obtain ⟨g1, g2, g3, g4, g5⟩ := clf ci hci
  intro T hT X
  have hz := v_len hc hT X
  refine vo_call (va_runV (As := [v1, v2, v3]) (b := b + a) (C := y'.cls) (rest := rest) ⟨h1, h2, h3, h7, h8⟩ (hC l D dA) (cwV 3 h8 (goodV hl m1 m2 m3 m4) rfl rfl rfl ⟨rfl, m5⟩ ⟨by show k' + 1 ≤ k; omega, by show 8 + (nL' + 11) + 100 * k' ≤ 100 * k; omega⟩) ⟨pc_blind, (by rw [← hcn]; exact va_recv h9 h10 g1 (by rw [wld_at ha, cel_o hs])), fun U hU hW => ⟨rfl, fun q => by rw [hU]; exact hz (hx q), by rw [hU]; exact Nat.le_trans h14 h11.1, by rw [hU]; exact h10, va_K.moved hW.alike h9, h13.go hW (fun q q1 q2 => by rw [hU]; exact h11.2.1 q q1 q2)⟩⟩ rfl rfl h15.1.1 rfl (lv_room hst) hd ⟨hcu, hsu⟩) h11 (fun r sh1 I1 L1 R1 H1 locs1 hq hP1 hS1 => hq p l e s m args below meth c0 H1 locs1 D dA ls ⟨h1, h2, h3, h4, h5, h6, h7, h8, h9, hP1, hS1, fun hx => by have := h12 hx; omega, h13, h14, h15⟩) T hT X
theorem v_callV_4 {a ci idx : Nat} {v1 v2 v3 v4 : Value} (hd : decode cc pc = .ok (.invokevirtual idx, 3)) (hl : Cond.methodLink y.cls idx y' ∈ UU) (hm : MV y' cc' nL' ret' 4) (hs : sh a = .inl ci) (ha : a < N) (hci : ci < 13) (hcn : (xq ci).1 = y'.cls) (hk : k' < k) (hcu : cu + mc' ≤ mc) (hsu : su + ms' ≤ ms) (hst : (rest.map fun v => v.category).sum ≤ 8) (hx : x' = true → x0 = true)
    (hC : C k' y' cc' nL' ret' mc' ms' b ad x' [.ref (b + a), v1, v2, v3, v4] N sh I L R (fun r sh' I' L' R' => V y cc nL ret k mc ms NF Q b ad x0 (cu + mc') (su + ms') (pc + 3) lv (r.toList ++ rest) (N + mc') sh' I' L' R')) : V y cc nL ret k mc ms NF Q b ad x0 cu su pc lv (v4 :: v3 :: v2 :: v1 :: .ref (b + a) :: rest) N sh I L R := by
  intro p l e s m args below meth c0 H locs D dA ls hc
  obtain ⟨h1, h2, h3, h4, h5, h6, h7, h8, h9, h10, h11, h12, h13, h14, h15⟩ := id hc
  obtain ⟨m1, m2, m3, m4, m5, m6⟩ := hm
  obtain ⟨g1, g2, g3, g4, g5⟩ := clf ci hci
  intro T hT X
  have hz := v_len hc hT X
  refine vo_call (va_runV (As := [v1, v2, v3, v4]) (b := b + a) (C := y'.cls) (rest := rest) ⟨h1, h2, h3, h7, h8⟩ (hC l D dA) (cwV 4 h8 (goodV hl m1 m2 m3 m4) rfl rfl rfl ⟨rfl, m5⟩ ⟨by show k' + 1 ≤ k; omega, by show 8 + (nL' + 11) + 100 * k' ≤ 100 * k; omega⟩) ⟨pc_blind, (by rw [← hcn]; exact va_recv h9 h10 g1 (by rw [wld_at ha, cel_o hs])), fun U hU hW => ⟨rfl, fun q => by rw [hU]; exact hz (hx q), by rw [hU]; exact Nat.le_trans h14 h11.1, by rw [hU]; exact h10, va_K.moved hW.alike h9, h13.go hW (fun q q1 q2 => by rw [hU]; exact h11.2.1 q q1 q2)⟩⟩ rfl rfl h15.1.1 rfl (lv_room hst) hd ⟨hcu, hsu⟩) h11 (fun r sh1 I1 L1 R1 H1 locs1 hq hP1 hS1 => hq p l e s m args below meth c0 H1 locs1 D dA ls ⟨h1, h2, h3, h4, h5, h6, h7, h8, h9, hP1, hS1, fun hx => by have := h12 hx; omega, h13, h14, h15⟩) T hT X
theorem v_callV_5 {a ci idx : Nat} {v1 v2 v3 v4 v5 : Value} (hd : decode cc pc = .ok (.invokevirtual idx, 3)) (hl : Cond.methodLink y.cls idx y' ∈ UU) (hm : MV y' cc' nL' ret' 5) (hs : sh a = .inl ci) (ha : a < N) (hci : ci < 13) (hcn : (xq ci).1 = y'.cls) (hk : k' < k) (hcu : cu + mc' ≤ mc) (hsu : su + ms' ≤ ms) (hst : (rest.map fun v => v.category).sum ≤ 8) (hx : x' = true → x0 = true)
    (hC : C k' y' cc' nL' ret' mc' ms' b ad x' [.ref (b + a), v1, v2, v3, v4, v5] N sh I L R (fun r sh' I' L' R' => V y cc nL ret k mc ms NF Q b ad x0 (cu + mc') (su + ms') (pc + 3) lv (r.toList ++ rest) (N + mc') sh' I' L' R')) : V y cc nL ret k mc ms NF Q b ad x0 cu su pc lv (v5 :: v4 :: v3 :: v2 :: v1 :: .ref (b + a) :: rest) N sh I L R := by
  intro p l e s m args below meth c0 H locs D dA ls hc
  obtain ⟨h1, h2, h3, h4, h5, h6, h7, h8, h9, h10, h11, h12, h13, h14, h15⟩ := id hc
  obtain ⟨m1, m2, m3, m4, m5, m6⟩ := hm
  obtain ⟨g1, g2, g3, g4, g5⟩ := clf ci hci
  intro T hT X
  have hz := v_len hc hT X
  refine vo_call (va_runV (As := [v1, v2, v3, v4, v5]) (b := b + a) (C := y'.cls) (rest := rest) ⟨h1, h2, h3, h7, h8⟩ (hC l D dA) (cwV 5 h8 (goodV hl m1 m2 m3 m4) rfl rfl rfl ⟨rfl, m5⟩ ⟨by show k' + 1 ≤ k; omega, by show 8 + (nL' + 11) + 100 * k' ≤ 100 * k; omega⟩) ⟨pc_blind, (by rw [← hcn]; exact va_recv h9 h10 g1 (by rw [wld_at ha, cel_o hs])), fun U hU hW => ⟨rfl, fun q => by rw [hU]; exact hz (hx q), by rw [hU]; exact Nat.le_trans h14 h11.1, by rw [hU]; exact h10, va_K.moved hW.alike h9, h13.go hW (fun q q1 q2 => by rw [hU]; exact h11.2.1 q q1 q2)⟩⟩ rfl rfl h15.1.1 rfl (lv_room hst) hd ⟨hcu, hsu⟩) h11 (fun r sh1 I1 L1 R1 H1 locs1 hq hP1 hS1 => hq p l e s m args below meth c0 H1 locs1 D dA ls ⟨h1, h2, h3, h4, h5, h6, h7, h8, h9, hP1, hS1, fun hx => by have := h12 hx; omega, h13, h14, h15⟩) T hT X
theorem v_callS_0 {idx : Nat} (hd : decode cc pc = .ok (.invokestatic idx, 3)) (hl : Cond.methodLink y.cls idx y' ∈ UU) (hm : MS y' cc' nL' ret' 0) (hk : k' < k) (hcu : cu + mc' ≤ mc) (hsu : su + ms' ≤ ms) (hst : (rest.map fun v => v.category).sum ≤ 8) (hx : x' = true → x0 = true)
    (hC : C k' y' cc' nL' ret' mc' ms' b ad x' [] N sh I L R (fun r sh' I' L' R' => V y cc nL ret k mc ms NF Q b ad x0 (cu + mc') (su + ms') (pc + 3) lv (r.toList ++ rest) (N + mc') sh' I' L' R')) : V y cc nL ret k mc ms NF Q b ad x0 cu su pc lv (rest) N sh I L R := by
  intro p l e s m args below meth c0 H locs D dA ls hc
  obtain ⟨h1, h2, h3, h4, h5, h6, h7, h8, h9, h10, h11, h12, h13, h14, h15⟩ := id hc
  obtain ⟨m1, m3, m4, m5, m6⟩ := hm
  intro T hT X
  have hz := v_len hc hT X
  refine vo_call (va_runS (As := []) (rest := rest) ⟨h1, h2, h3, h7, h8⟩ (hC l D dA) ⟨callB_of 0 h8 (goodB m4) rfl rfl rfl (h8 _ m3) (h8 _ hl) m5 ⟨by show k' + 1 ≤ k; omega, by show 8 + (nL' + 11) + 100 * k' ≤ 100 * k; omega⟩, h8 _ m1⟩ ⟨pc_blind, fun U hU hW => ⟨rfl, fun q => by rw [hU]; exact hz (hx q), by rw [hU]; exact Nat.le_trans h14 h11.1, by rw [hU]; exact h10, va_K.moved hW.alike h9, h13.go hW (fun q q1 q2 => by rw [hU]; exact h11.2.1 q q1 q2)⟩⟩ rfl rfl h15.1.1 rfl (lv_room hst) hd ⟨hcu, hsu⟩) h11 (fun r sh1 I1 L1 R1 H1 locs1 hq hP1 hS1 => hq p l e s m args below meth c0 H1 locs1 D dA ls ⟨h1, h2, h3, h4, h5, h6, h7, h8, h9, hP1, hS1, fun hx => by have := h12 hx; omega, h13, h14, h15⟩) T hT X
theorem v_callS_1 {idx : Nat} {v1 : Value} (hd : decode cc pc = .ok (.invokestatic idx, 3)) (hl : Cond.methodLink y.cls idx y' ∈ UU) (hm : MS y' cc' nL' ret' 1) (hk : k' < k) (hcu : cu + mc' ≤ mc) (hsu : su + ms' ≤ ms) (hst : (rest.map fun v => v.category).sum ≤ 8) (hx : x' = true → x0 = true)
    (hC : C k' y' cc' nL' ret' mc' ms' b ad x' [v1] N sh I L R (fun r sh' I' L' R' => V y cc nL ret k mc ms NF Q b ad x0 (cu + mc') (su + ms') (pc + 3) lv (r.toList ++ rest) (N + mc') sh' I' L' R')) : V y cc nL ret k mc ms NF Q b ad x0 cu su pc lv (v1 :: rest) N sh I L R := by
  intro p l e s m args below meth c0 H locs D dA ls hc
  obtain ⟨h1, h2, h3, h4, h5, h6, h7, h8, h9, h10, h11, h12, h13, h14, h15⟩ := id hc
  obtain ⟨m1, m3, m4, m5, m6⟩ := hm
  intro T hT X
  have hz := v_len hc hT X
  refine vo_call (va_runS (As := [v1]) (rest := rest) ⟨h1, h2, h3, h7, h8⟩ (hC l D dA) ⟨callB_of 1 h8 (goodB m4) rfl rfl rfl (h8 _ m3) (h8 _ hl) m5 ⟨by show k' + 1 ≤ k; omega, by show 8 + (nL' + 11) + 100 * k' ≤ 100 * k; omega⟩, h8 _ m1⟩ ⟨pc_blind, fun U hU hW => ⟨rfl, fun q => by rw [hU]; exact hz (hx q), by rw [hU]; exact Nat.le_trans h14 h11.1, by rw [hU]; exact h10, va_K.moved hW.alike h9, h13.go hW (fun q q1 q2 => by rw [hU]; exact h11.2.1 q q1 q2)⟩⟩ rfl rfl h15.1.1 rfl (lv_room hst) hd ⟨hcu, hsu⟩) h11 (fun r sh1 I1 L1 R1 H1 locs1 hq hP1 hS1 => hq p l e s m args below meth c0 H1 locs1 D dA ls ⟨h1, h2, h3, h4, h5, h6, h7, h8, h9, hP1, hS1, fun hx => by have := h12 hx; omega, h13, h14, h15⟩) T hT X
theorem v_callS_2 {idx : Nat} {v1 v2 : Value} (hd : decode cc pc = .ok (.invokestatic idx, 3)) (hl : Cond.methodLink y.cls idx y' ∈ UU) (hm : MS y' cc' nL' ret' 2) (hk : k' < k) (hcu : cu + mc' ≤ mc) (hsu : su + ms' ≤ ms) (hst : (rest.map fun v => v.category).sum ≤ 8) (hx : x' = true → x0 = true)
    (hC : C k' y' cc' nL' ret' mc' ms' b ad x' [v1, v2] N sh I L R (fun r sh' I' L' R' => V y cc nL ret k mc ms NF Q b ad x0 (cu + mc') (su + ms') (pc + 3) lv (r.toList ++ rest) (N + mc') sh' I' L' R')) : V y cc nL ret k mc ms NF Q b ad x0 cu su pc lv (v2 :: v1 :: rest) N sh I L R := by
  intro p l e s m args below meth c0 H locs D dA ls hc
  obtain ⟨h1, h2, h3, h4, h5, h6, h7, h8, h9, h10, h11, h12, h13, h14, h15⟩ := id hc
  obtain ⟨m1, m3, m4, m5, m6⟩ := hm
  intro T hT X
  have hz := v_len hc hT X
  refine vo_call (va_runS (As := [v1, v2]) (rest := rest) ⟨h1, h2, h3, h7, h8⟩ (hC l D dA) ⟨callB_of 2 h8 (goodB m4) rfl rfl rfl (h8 _ m3) (h8 _ hl) m5 ⟨by show k' + 1 ≤ k; omega, by show 8 + (nL' + 11) + 100 * k' ≤ 100 * k; omega⟩, h8 _ m1⟩ ⟨pc_blind, fun U hU hW => ⟨rfl, fun q => by rw [hU]; exact hz (hx q), by rw [hU]; exact Nat.le_trans h14 h11.1, by rw [hU]; exact h10, va_K.moved hW.alike h9, h13.go hW (fun q q1 q2 => by rw [hU]; exact h11.2.1 q q1 q2)⟩⟩ rfl rfl h15.1.1 rfl (lv_room hst) hd ⟨hcu, hsu⟩) h11 (fun r sh1 I1 L1 R1 H1 locs1 hq hP1 hS1 => hq p l e s m args below meth c0 H1 locs1 D dA ls ⟨h1, h2, h3, h4, h5, h6, h7, h8, h9, hP1, hS1, fun hx => by have := h12 hx; omega, h13, h14, h15⟩) T hT X
theorem v_callS_3 {idx : Nat} {v1 v2 v3 : Value} (hd : decode cc pc = .ok (.invokestatic idx, 3)) (hl : Cond.methodLink y.cls idx y' ∈ UU) (hm : MS y' cc' nL' ret' 3) (hk : k' < k) (hcu : cu + mc' ≤ mc) (hsu : su + ms' ≤ ms) (hst : (rest.map fun v => v.category).sum ≤ 8) (hx : x' = true → x0 = true)
    (hC : C k' y' cc' nL' ret' mc' ms' b ad x' [v1, v2, v3] N sh I L R (fun r sh' I' L' R' => V y cc nL ret k mc ms NF Q b ad x0 (cu + mc') (su + ms') (pc + 3) lv (r.toList ++ rest) (N + mc') sh' I' L' R')) : V y cc nL ret k mc ms NF Q b ad x0 cu su pc lv (v3 :: v2 :: v1 :: rest) N sh I L R := by
  intro p l e s m args below meth c0 H locs D dA ls hc
  obtain ⟨h1, h2, h3, h4, h5, h6, h7, h8, h9, h10, h11, h12, h13, h14, h15⟩ := id hc
  obtain ⟨m1, m3, m4, m5, m6⟩ := hm
  intro T hT X
  have hz := v_len hc hT X
  refine vo_call (va_runS (As := [v1, v2, v3]) (rest := rest) ⟨h1, h2, h3, h7, h8⟩ (hC l D dA) ⟨callB_of 3 h8 (goodB m4) rfl rfl rfl (h8 _ m3) (h8 _ hl) m5 ⟨by show k' + 1 ≤ k; omega, by show 8 + (nL' + 11) + 100 * k' ≤ 100 * k; omega⟩, h8 _ m1⟩ ⟨pc_blind, fun U hU hW => ⟨rfl, fun q => by rw [hU]; exact hz (hx q), by rw [hU]; exact Nat.le_trans h14 h11.1, by rw [hU]; exact h10, va_K.moved hW.alike h9, h13.go hW (fun q q1 q2 => by rw [hU]; exact h11.2.1 q q1 q2)⟩⟩ rfl rfl h15.1.1 rfl (lv_room hst) hd ⟨hcu, hsu⟩) h11 (fun r sh1 I1 L1 R1 H1 locs1 hq hP1 hS1 => hq p l e s m args below meth c0 H1 locs1 D dA ls ⟨h1, h2, h3, h4, h5, h6, h7, h8, h9, hP1, hS1, fun hx => by have := h12 hx; omega, h13, h14, h15⟩) T hT X
theorem v_callS_4 {idx : Nat} {v1 v2 v3 v4 : Value} (hd : decode cc pc = .ok (.invokestatic idx, 3)) (hl : Cond.methodLink y.cls idx y' ∈ UU) (hm : MS y' cc' nL' ret' 4) (hk : k' < k) (hcu : cu + mc' ≤ mc) (hsu : su + ms' ≤ ms) (hst : (rest.map fun v => v.category).sum ≤ 8) (hx : x' = true → x0 = true)
    (hC : C k' y' cc' nL' ret' mc' ms' b ad x' [v1, v2, v3, v4] N sh I L R (fun r sh' I' L' R' => V y cc nL ret k mc ms NF Q b ad x0 (cu + mc') (su + ms') (pc + 3) lv (r.toList ++ rest) (N + mc') sh' I' L' R')) : V y cc nL ret k mc ms NF Q b ad x0 cu su pc lv (v4 :: v3 :: v2 :: v1 :: rest) N sh I L R := by
  intro p l e s m args below meth c0 H locs D dA ls hc
  obtain ⟨h1, h2, h3, h4, h5, h6, h7, h8, h9, h10, h11, h12, h13, h14, h15⟩ := id hc
  obtain ⟨m1, m3, m4, m5, m6⟩ := hm
  intro T hT X
  have hz := v_len hc hT X
  refine vo_call (va_runS (As := [v1, v2, v3, v4]) (rest := rest) ⟨h1, h2, h3, h7, h8⟩ (hC l D dA) ⟨callB_of 4 h8 (goodB m4) rfl rfl rfl (h8 _ m3) (h8 _ hl) m5 ⟨by show k' + 1 ≤ k; omega, by show 8 + (nL' + 11) + 100 * k' ≤ 100 * k; omega⟩, h8 _ m1⟩ ⟨pc_blind, fun U hU hW => ⟨rfl, fun q => by rw [hU]; exact hz (hx q), by rw [hU]; exact Nat.le_trans h14 h11.1, by rw [hU]; exact h10, va_K.moved hW.alike h9, h13.go hW (fun q q1 q2 => by rw [hU]; exact h11.2.1 q q1 q2)⟩⟩ rfl rfl h15.1.1 rfl (lv_room hst) hd ⟨hcu, hsu⟩) h11 (fun r sh1 I1 L1 R1 H1 locs1 hq hP1 hS1 => hq p l e s m args below meth c0 H1 locs1 D dA ls ⟨h1, h2, h3, h4, h5, h6, h7, h8, h9, hP1, hS1, fun hx => by have := h12 hx; omega, h13, h14, h15⟩) T hT X
theorem v_callS_5 {idx : Nat} {v1 v2 v3 v4 v5 : Value} (hd : decode cc pc = .ok (.invokestatic idx, 3)) (hl : Cond.methodLink y.cls idx y' ∈ UU) (hm : MS y' cc' nL' ret' 5) (hk : k' < k) (hcu : cu + mc' ≤ mc) (hsu : su + ms' ≤ ms) (hst : (rest.map fun v => v.category).sum ≤ 8) (hx : x' = true → x0 = true)
    (hC : C k' y' cc' nL' ret' mc' ms' b ad x' [v1, v2, v3, v4, v5] N sh I L R (fun r sh' I' L' R' => V y cc nL ret k mc ms NF Q b ad x0 (cu + mc') (su + ms') (pc + 3) lv (r.toList ++ rest) (N + mc') sh' I' L' R')) : V y cc nL ret k mc ms NF Q b ad x0 cu su pc lv (v5 :: v4 :: v3 :: v2 :: v1 :: rest) N sh I L R := by
  intro p l e s m args below meth c0 H locs D dA ls hc
  obtain ⟨h1, h2, h3, h4, h5, h6, h7, h8, h9, h10, h11, h12, h13, h14, h15⟩ := id hc
  obtain ⟨m1, m3, m4, m5, m6⟩ := hm
  intro T hT X
  have hz := v_len hc hT X
  refine vo_call (va_runS (As := [v1, v2, v3, v4, v5]) (rest := rest) ⟨h1, h2, h3, h7, h8⟩ (hC l D dA) ⟨callB_of 5 h8 (goodB m4) rfl rfl rfl (h8 _ m3) (h8 _ hl) m5 ⟨by show k' + 1 ≤ k; omega, by show 8 + (nL' + 11) + 100 * k' ≤ 100 * k; omega⟩, h8 _ m1⟩ ⟨pc_blind, fun U hU hW => ⟨rfl, fun q => by rw [hU]; exact hz (hx q), by rw [hU]; exact Nat.le_trans h14 h11.1, by rw [hU]; exact h10, va_K.moved hW.alike h9, h13.go hW (fun q q1 q2 => by rw [hU]; exact h11.2.1 q q1 q2)⟩⟩ rfl rfl h15.1.1 rfl (lv_room hst) hd ⟨hcu, hsu⟩) h11 (fun r sh1 I1 L1 R1 H1 locs1 hq hP1 hS1 => hq p l e s m args below meth c0 H1 locs1 D dA ls ⟨h1, h2, h3, h4, h5, h6, h7, h8, h9, hP1, hS1, fun hx => by have := h12 hx; omega, h13, h14, h15⟩) T hT X
theorem v_callS_6 {idx : Nat} {v1 v2 v3 v4 v5 v6 : Value} (hd : decode cc pc = .ok (.invokestatic idx, 3)) (hl : Cond.methodLink y.cls idx y' ∈ UU) (hm : MS y' cc' nL' ret' 6) (hk : k' < k) (hcu : cu + mc' ≤ mc) (hsu : su + ms' ≤ ms) (hst : (rest.map fun v => v.category).sum ≤ 8) (hx : x' = true → x0 = true)
    (hC : C k' y' cc' nL' ret' mc' ms' b ad x' [v1, v2, v3, v4, v5, v6] N sh I L R (fun r sh' I' L' R' => V y cc nL ret k mc ms NF Q b ad x0 (cu + mc') (su + ms') (pc + 3) lv (r.toList ++ rest) (N + mc') sh' I' L' R')) : V y cc nL ret k mc ms NF Q b ad x0 cu su pc lv (v6 :: v5 :: v4 :: v3 :: v2 :: v1 :: rest) N sh I L R := by
  intro p l e s m args below meth c0 H locs D dA ls hc
  obtain ⟨h1, h2, h3, h4, h5, h6, h7, h8, h9, h10, h11, h12, h13, h14, h15⟩ := id hc
  obtain ⟨m1, m3, m4, m5, m6⟩ := hm
  intro T hT X
  have hz := v_len hc hT X
  refine vo_call (va_runS (As := [v1, v2, v3, v4, v5, v6]) (rest := rest) ⟨h1, h2, h3, h7, h8⟩ (hC l D dA) ⟨callB_of 6 h8 (goodB m4) rfl rfl rfl (h8 _ m3) (h8 _ hl) m5 ⟨by show k' + 1 ≤ k; omega, by show 8 + (nL' + 11) + 100 * k' ≤ 100 * k; omega⟩, h8 _ m1⟩ ⟨pc_blind, fun U hU hW => ⟨rfl, fun q => by rw [hU]; exact hz (hx q), by rw [hU]; exact Nat.le_trans h14 h11.1, by rw [hU]; exact h10, va_K.moved hW.alike h9, h13.go hW (fun q q1 q2 => by rw [hU]; exact h11.2.1 q q1 q2)⟩⟩ rfl rfl h15.1.1 rfl (lv_room hst) hd ⟨hcu, hsu⟩) h11 (fun r sh1 I1 L1 R1 H1 locs1 hq hP1 hS1 => hq p l e s m args below meth c0 H1 locs1 D dA ls ⟨h1, h2, h3, h4, h5, h6, h7, h8, h9, hP1, hS1, fun hx => by have := h12 hx; omega, h13, h14, h15⟩) T hT X
theorem v_callS_7 {idx : Nat} {v1 v2 v3 v4 v5 v6 v7 : Value} (hd : decode cc pc = .ok (.invokestatic idx, 3)) (hl : Cond.methodLink y.cls idx y' ∈ UU) (hm : MS y' cc' nL' ret' 7) (hk : k' < k) (hcu : cu + mc' ≤ mc) (hsu : su + ms' ≤ ms) (hst : (rest.map fun v => v.category).sum ≤ 8) (hx : x' = true → x0 = true)
    (hC : C k' y' cc' nL' ret' mc' ms' b ad x' [v1, v2, v3, v4, v5, v6, v7] N sh I L R (fun r sh' I' L' R' => V y cc nL ret k mc ms NF Q b ad x0 (cu + mc') (su + ms') (pc + 3) lv (r.toList ++ rest) (N + mc') sh' I' L' R')) : V y cc nL ret k mc ms NF Q b ad x0 cu su pc lv (v7 :: v6 :: v5 :: v4 :: v3 :: v2 :: v1 :: rest) N sh I L R := by
  intro p l e s m args below meth c0 H locs D dA ls hc
  obtain ⟨h1, h2, h3, h4, h5, h6, h7, h8, h9, h10, h11, h12, h13, h14, h15⟩ := id hc
  obtain ⟨m1, m3, m4, m5, m6⟩ := hm
  intro T hT X
  have hz := v_len hc hT X
  refine vo_call (va_runS (As := [v1, v2, v3, v4, v5, v6, v7]) (rest := rest) ⟨h1, h2, h3, h7, h8⟩ (hC l D dA) ⟨callB_of 7 h8 (goodB m4) rfl rfl rfl (h8 _ m3) (h8 _ hl) m5 ⟨by show k' + 1 ≤ k; omega, by show 8 + (nL' + 11) + 100 * k' ≤ 100 * k; omega⟩, h8 _ m1⟩ ⟨pc_blind, fun U hU hW => ⟨rfl, fun q => by rw [hU]; exact hz (hx q), by rw [hU]; exact Nat.le_trans h14 h11.1, by rw [hU]; exact h10, va_K.moved hW.alike h9, h13.go hW (fun q q1 q2 => by rw [hU]; exact h11.2.1 q q1 q2)⟩⟩ rfl rfl h15.1.1 rfl (lv_room hst) hd ⟨hcu, hsu⟩) h11 (fun r sh1 I1 L1 R1 H1 locs1 hq hP1 hS1 => hq p l e s m args below meth c0 H1 locs1 D dA ls ⟨h1, h2, h3, h4, h5, h6, h7, h8, h9, hP1, hS1, fun hx => by have := h12 hx; omega, h13, h14, h15⟩) T hT X
theorem v_callI {a idx : Nat} (hd : decode cc pc = .ok (.invokespecial idx, 3)) (hl : Cond.methodLink y.cls idx y' ∈ UU) (hm : MI y' cc' nL' 0) (hk : k' < k) (hcu : cu + mc' ≤ mc) (hsu : su + ms' ≤ ms) (hst : (rest.map fun v => v.category).sum ≤ 8) (hx : x' = true → x0 = true)
    (hC : C k' y' cc' nL' none mc' ms' b ad x' [.ref (b + a)] N sh I L R (fun r sh' I' L' R' => V y cc nL ret k mc ms NF Q b ad x0 (cu + mc') (su + ms') (pc + 3) lv (r.toList ++ rest) (N + mc') sh' I' L' R')) : V y cc nL ret k mc ms NF Q b ad x0 cu su pc lv (.ref (b + a) :: rest) N sh I L R := by
  intro p l e s m args below meth c0 H locs D dA ls hc
  obtain ⟨h1, h2, h3, h4, h5, h6, h7, h8, h9, h10, h11, h12, h13, h14, h15⟩ := id hc
  obtain ⟨m1, m3, m4, m5, m6, m7⟩ := hm
  intro T hT X
  have hz := v_len hc hT X
  refine vo_call (va_runI (As := []) (b := b + a) (rest := rest) ⟨h1, h2, h3, h7, h8⟩ (hC l D dA) (cwI 0 h8 (goodB m4) rfl rfl rfl (h8 _ m3) (h8 _ hl) (h8 _ m1) m7 m5 ⟨by show k' + 1 ≤ k; omega, by show 8 + (nL' + 11) + 100 * k' ≤ 100 * k; omega⟩) ⟨pc_blind, fun U hU hW => ⟨rfl, fun q => by rw [hU]; exact hz (hx q), by rw [hU]; exact Nat.le_trans h14 h11.1, by rw [hU]; exact h10, va_K.moved hW.alike h9, h13.go hW (fun q q1 q2 => by rw [hU]; exact h11.2.1 q q1 q2)⟩⟩ rfl rfl h15.1.1 rfl (lv_room hst) hd ⟨hcu, hsu⟩) h11 (fun r sh1 I1 L1 R1 H1 locs1 hq hP1 hS1 => hq p l e s m args below meth c0 H1 locs1 D dA ls ⟨h1, h2, h3, h4, h5, h6, h7, h8, h9, hP1, hS1, fun hx => by have := h12 hx; omega, h13, h14, h15⟩) T hT X
theorem v_callN {a idx : Nat} (hd : decode cc pc = .ok (.invokespecial idx, 3)) (hl : (y.cls, idx, y') ∈ nests) (hm : MI y' cc' nL' 0) (hk : k' < k) (hcu : cu + mc' ≤ mc) (hsu : su + ms' ≤ ms) (hst : (rest.map fun v => v.category).sum ≤ 8) (hx : x' = true → x0 = true)
    (hC : C k' y' cc' nL' none mc' ms' b ad x' [.ref (b + a)] N sh I L R (fun r sh' I' L' R' => V y cc nL ret k mc ms NF Q b ad x0 (cu + mc') (su + ms') (pc + 3) lv (r.toList ++ rest) (N + mc') sh' I' L' R')) : V y cc nL ret k mc ms NF Q b ad x0 cu su pc lv (.ref (b + a) :: rest) N sh I L R := by
  intro p l e s m args below meth c0 H locs D dA ls hc
  obtain ⟨h1, h2, h3, h4, h5, h6, h7, h8, h9, h10, h11, h12, h13, h14, h15⟩ := id hc
  obtain ⟨m1, m3, m4, m5, m6, m7⟩ := hm
  intro T hT X
  have hz := v_len hc hT X
  refine vo_call (va_runIN (As := []) (b := b + a) (host := "LentMasks") (rest := rest) ⟨h1, h2, h3, h7, h8⟩ (hC l D dA) ⟨va_cnB 0 h8 (goodB m4) rfl rfl rfl (h13.nest _ hl) (h8 _ m3) m5 ⟨by show k' + 1 ≤ k; omega, by show 8 + (nL' + 11) + 100 * k' ≤ 100 * k; omega⟩, m7, h8 _ m1⟩ ⟨pc_blind, fun U hU hW => ⟨rfl, fun q => by rw [hU]; exact hz (hx q), by rw [hU]; exact Nat.le_trans h14 h11.1, by rw [hU]; exact h10, va_K.moved hW.alike h9, h13.go hW (fun q q1 q2 => by rw [hU]; exact h11.2.1 q q1 q2)⟩⟩ rfl rfl h15.1.1 rfl (lv_room hst) hd ⟨hcu, hsu⟩) h11 (fun r sh1 I1 L1 R1 H1 locs1 hq hP1 hS1 => hq p l e s m args below meth c0 H1 locs1 D dA ls ⟨h1, h2, h3, h4, h5, h6, h7, h8, h9, hP1, hS1, fun hx => by have := h12 hx; omega, h13, h14, h15⟩) T hT X
theorem v_copyi {a0 a n0 n1 idx : Nat} {sp dp z : Int32} (hd : decode cc pc = .ok (.invokestatic idx, 3)) (hl : Cond.methodLink y.cls idx arraycopyName ∈ UU) (hm : Cond.native arraycopyName ∈ UU ∧ Cond.static arraycopyName ∈ UU ∧ Cond.initialized "java/lang/System" ∈ UU) (hs0 : sh a0 = .inr (0, n0)) (ha0 : a0 < N) (hs1 : sh a = .inr (0, n1)) (ha1 : a < N) (q1 : ¬ sp < 0) (q2 : ¬ dp < 0) (q3 : ¬ z < 0) (q4 : sp.toNatClampNeg + z.toNatClampNeg ≤ n0) (q5 : dp.toNatClampNeg + z.toNatClampNeg ≤ n1) (hk : 1 ≤ k) (hst : (rest.map fun v => v.category).sum ≤ 8)
    (h : V y cc nL ret k mc ms NF Q b ad x0 cu su (pc + 3) lv rest N sh (fun q => if q = a then va_cpy (I a0) (I a) sp.toNatClampNeg dp.toNatClampNeg z.toNatClampNeg else I q) L R) : V y cc nL ret k mc ms NF Q b ad x0 cu su pc lv (.int z :: .int dp :: .ref (b + a) :: .int sp :: .ref (b + a0) :: rest) N sh I L R := by
  intro p l e s m args below meth c0 H locs D dA ls hc
  obtain ⟨h1, h2, h3, h4, h5, h6, h7, h8, h9, h10, h11, h12, h13, h14, h15⟩ := id hc
  have hnw : nativeFrameWords "java/lang/System" "arraycopy" 5 + 11 ≤ 60 := by decide +kernel
  have hloc : (rest.map fun v => v.category).sum + (nativeFrameWords "java/lang/System" "arraycopy" 5 + 11) ≤ (rmo k mc ms).locals := by show _ ≤ 100 * k; omega
  refine va_copyi h1 h2 (h3.trans h15.1.1.symm) h7 (h8 _ hl) (h8 _ hm.1) (h8 _ hm.2.1) (h8 _ hm.2.2) h9 h10 wld_D h11 a0 a 0 0 (by rw [wld_at ha0, cel_i hs0 (by decide) (by decide)]) (by rw [wld_at ha1, cel_i hs1 (by decide) (by decide)]) (tysl_at (by decide) rfl) (tysl_at (by decide) rfl) rfl q1 q2 q3 q4 q5 (fun i _ => rfl) hk hloc hd (fun H1 locs1 hP1 _ hS1 => ?_)
  rw [wld_put (sh' := sh) (I' := fun q => if q = a then va_cpy (I a0) (I a) sp.toNatClampNeg dp.toNatClampNeg z.toNatClampNeg else I q) (L' := L) (R' := R) (by rw [cel_i hs1 (by decide) (by decide)]; simp) (fun x hx => by
    have e2 : ∀ z' c, fvl b (fun q => if q = a then va_cpy (I a0) (I a) sp.toNatClampNeg dp.toNatClampNeg z.toNatClampNeg else I q) L R x z' c = fvl b I L R x z' c := fun z' c => by simp [fvl, hx]
    have e3 : ∀ z', act b (fun q => if q = a then va_cpy (I a0) (I a) sp.toNatClampNeg dp.toNatClampNeg z.toNatClampNeg else I q) L R x z' = act b I L R x z' := fun z' => by simp [act, hx]
    unfold cel
    have e4 : ∀ z', fvl b (fun q => if q = a then va_cpy (I a0) (I a) sp.toNatClampNeg dp.toNatClampNeg z.toNatClampNeg else I q) L R x z' = fvl b I L R x z' := fun z' => funext (e2 z')
    cases sh x <;> simp only [celo, e4, e3])] at hP1
  exact h p l e s m args below meth c0 H1 locs1 D dA ls ⟨h1, h2, h3, h4, h5, h6, h7, h8, h9, hP1, hS1, h12, h13, h14, h15⟩
end
