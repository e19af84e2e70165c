section
variable {y : MethodName} {cc : ByteArray} {nL : Nat} {ret : Option FieldType} {RM : Room} {PQ : PQT} {b : Nat} {ad : Nat → Nat} {x0 : Bool} {cu su pc : Nat} {lv tl : List (Option Value)} {st rest : List Value} {N : Nat} {sh : HS} {I : HI} {L : HL} {R : HR} {y' : MethodName} {cc' : ByteArray} {nL' : Nat} {ret' : Option FieldType} {k' mc' ms' : Nat} {x' : Bool}
theorem g_objI {index a : Nat} (hd : decode cc pc = .ok (.invokespecial index, 3)) (hl : Cond.methodLink y.cls index objectInit ∈ UU) (h2i : Cond.instanceMethod objectInit ∈ UU) (h3i : Cond.code objectInit ⟨#[0xb1]⟩ 1 none ∈ UU) (hk : 1 ≤ RM.frames) (hlo : 20 ≤ RM.locals) (hst : (rest.map fun v => v.category).sum ≤ 8) (h : VG y cc nL ret RM PQ b ad x0 cu su (pc + 3) lv rest N sh I L R) : VG y cc nL ret RM PQ b ad x0 cu su pc lv (.ref a :: rest) N sh I L R := by
  intro p l e s m args below meth c0 H locs D dA ls hc
  obtain ⟨h1, h2, h3, h4, h5, h6, h7, h8, h9, h10, h11, h12, h13, h14, h15⟩ := id hc
  exact W.objInit h1 h2 h7 (h8 _ hl) (h8 _ h2i) (h8 _ h3i) rfl (h15.1.1.trans h3.symm) rfl hd hk (by show 2 * 0 + _ + 12 ≤ RM.locals; omega) (h p l e s m args below meth c0 H locs D dA ls hc)
theorem g_aast {a len t r c : Nat} {i : Int32} (hd : decode cc pc = .ok (.aastore, 1)) (hs : sh a = .inr (t, len)) (ha : a < N) (ht : 4 ≤ t) (ht9 : t < 9) (hr : sh r = .inl c) (hrN : r < N) (hc13 : c < 13) (hC : atys.getD t .int = .object (xq c).1) (hin : vp_in i len) (h : VG y cc nL ret RM PQ b ad x0 cu su (pc + 1) lv rest N sh I L (ur R a i.toNatClampNeg (some r))) : VG y cc nL ret RM PQ b ad x0 cu su pc lv (.ref (b + r) :: .int i :: .ref (b + a) :: rest) N sh I L R := by
  intro p l e s m args below meth c0 H locs D dA ls hc
  obtain ⟨h1, h2, h3, h4, h5, h6, h7, h8, h9, h10, h11, h12, h13, h14, h15⟩ := id hc
  obtain ⟨g1, g2, g3, g4, g5⟩ := clf c hc13
  refine va_astq h1 h2 h9 h10 wld_D h11 a t r c (r := xq c) (by rw [wld_at ha, cel_q hs ht]) (tysl_at ht9 hC) (by rw [wld_at hrN, cel_o hr]) g1 hin hd (fun H1 locs1 hP1 _ hS1 => ?_)
  rw [wld_put (sh' := sh) (I' := I) (L' := L) (R' := ur R a i.toNatClampNeg (some r)) (by rw [cel_q hs ht, ur_q]; rfl) (fun x hx => cel_ur_ne hx)] at hP1
  exact h p l e s m args below meth c0 H1 locs1 D dA ls ⟨h1, h2, h3, h4, h5, h6, h7, h8, h9, hP1, hS1, h12, h13, h14, h15⟩
theorem g_callN {a idx : Nat} (hd : decode cc pc = .ok (.invokespecial idx, 3)) (hl : (y.cls, idx, y') ∈ nests) (hm : MI y' cc' nL' 0) (hk : k' + 1 ≤ RM.frames) (hlo : 8 + (nL' + 11) + 100 * k' ≤ RM.locals) (hcu : cu + mc' ≤ RM.cells) (hsu : su + ms' ≤ RM.slots) (hst : (rest.map fun v => v.category).sum ≤ 8) (hx : x' = true → x0 = true)
    (hC : C k' y' cc' nL' none mc' ms' b ad x' [.ref (b + a)] N sh I L R (fun r sh' I' L' R' => VG y cc nL ret RM PQ b ad x0 (cu + mc') (su + ms') (pc + 3) lv (r.toList ++ rest) (N + mc') sh' I' L' R')) : VG y cc nL ret RM PQ b ad x0 cu su pc lv (.ref (b + a) :: rest) N sh I L R := by
  intro p l e s m args below meth c0 H locs D dA ls hc
  obtain ⟨h1, h2, h3, h4, h5, h6, h7, h8, h9, h10, h11, h12, h13, h14, h15⟩ := id hc
  obtain ⟨m1, m3, m4, m5, m6, m7⟩ := hm
  intro T hT X
  have hz := g_len hc hT X
  refine vo_call (va_runIN (As := []) (b := b + a) (host := "LentMasks") (rest := rest) ⟨h1, h2, h3, h7, h8⟩ (hC l D dA) ⟨va_cnB 0 h8 (goodB m4) rfl rfl rfl (h13.nest _ hl) (h8 _ m3) m5 ⟨hk, hlo⟩, m7, h8 _ m1⟩ ⟨pc_blind, fun U hU hW => ⟨rfl, fun q => by rw [hU]; exact hz (hx q), by rw [hU]; exact Nat.le_trans h14 h11.1, by rw [hU]; exact h10, va_K.moved hW.alike h9, h13.go hW (fun q q1 q2 => by rw [hU]; exact h11.2.1 q q1 q2)⟩⟩ rfl rfl h15.1.1 rfl (lv_room hst) hd ⟨hcu, hsu⟩) h11 (fun r sh1 I1 L1 R1 H1 locs1 hq hP1 hS1 => hq p l e s m args below meth c0 H1 locs1 D dA ls ⟨h1, h2, h3, h4, h5, h6, h7, h8, h9, hP1, hS1, fun hx => by have := h12 hx; omega, h13, h14, h15⟩) T hT X
end
/-- arrays of the book's rows may be made -/
def NA (s : State) : Prop := ∀ c, c = 2 ∨ c = 3 ∨ c = 4 ∨ c = 6 ∨ c = 8 → va_AO (xq c).1 s
theorem NA.go {s U : State} (h : NA s) (hW : s.vm.Alike U.vm) : NA U := fun c hc => (h c hc).moved hW
/-- a walk that needs them: without them nothing is owed -/
def NeedA (PQ : PQT) : Prop := ∀ p l e s m args below meth c D dA t, ¬ NA s → PQ p l e s m args below meth c D dA t
def PA (b NF : Nat) (Q : QT) (mc ms : Nat) : PQT := fun _ _ _ s _ args below _ _ D dA t => NA s → MQ below (Qo b D dA NF Q) args s mc ms (fun q => b ≤ q) t
theorem PA.need {b NF : Nat} {Q : QT} {mc ms : Nat} : NeedA (PA b NF Q mc ms) := fun _ _ _ _ _ _ _ _ _ _ _ _ h q => absurd q h
def CA (k : Nat) (y : MethodName) (cc : ByteArray) (nL : Nat) (mc ms b : Nat) (ad : Nat → Nat) (av : List Value) (N : Nat) (I : HI) (L : HL) (R : HR) (Q : QT) : Prop :=
  ∀ (l : Launch) (D : va_G) (dA : Nat → ClassId), Met l y (.code y cc nL none :: UU) (rmo k mc ms) (va_Pc av (fun U => NA U ∧ U.heap.size = b + N ∧ b ≤ U.heap.size ∧ va_P D xcl (wld b dA N SH I L R) U.heap ∧ va_K D xcl (tysl dA) U ∧ SX b ad U U.heap)) (Qo b D dA (N + mc) Q) mc ms (fun q => b ≤ q)
theorem pca_blind {b N : Nat} {ad : Nat → Nat} {D : va_G} {dA : Nat → ClassId} {av : List Value} {I : HI} {L : HL} {R : HR} : FrameBlind (va_Pc av (fun U => NA U ∧ U.heap.size = b + N ∧ b ≤ U.heap.size ∧ va_P D xcl (wld b dA N SH I L R) U.heap ∧ va_K D xcl (tysl dA) U ∧ SX b ad U U.heap)) := by
  intro a U g mk q
  obtain ⟨q0, q1, q1', q2, q3, q4, q5⟩ := q
  exact ⟨q0, NA.go (s := U) (U := U.calling g mk a) q1 (Vm.Alike.refl U.vm), q1', q2, q3, va_K.moved (u := U) (U := U.calling g mk a) (Vm.Alike.refl U.vm) q4, SX.same (u := U) (U := U.calling g mk a) rfl q5⟩
section
variable {y : MethodName} {cc : ByteArray} {nL : Nat} {ret : Option FieldType} {RM : Room} {PQ : PQT} {b : Nat} {ad : Nat → Nat} {x0 : Bool} {cu su pc : Nat} {lv tl : List (Option Value)} {st rest : List Value} {N : Nat}  {I : HI} {L : HL} {R : HR} {y' : MethodName} {cc' : ByteArray} {nL' : Nat} {ret' : Option FieldType} {k' mc' ms' : Nat} {x' : Bool} {Q : QT} {k mc ms NF : Nat}
theorem CA.of {av : List Value} (hp : plainName y.cls = true) (hl : (lg_sl av).length ≤ nL) (hlv : lvE av nL = lv) (h : VG y cc nL none (rmo k mc ms) (PA b (N + mc) Q mc ms) b ad true 0 0 0 lv [] N SH I L R) : CA k y cc nL mc ms b ad av N I L R Q := by
  intro l D dA
  refine Met.ofW (cc := cc) (maxL := nL) (ret := none) hp rfl ?_
  intro p e s m args below meth c s₁ B hml hv
  obtain ⟨rfl, hA, hsz, hbs, hP, hK, hX⟩ := hv
  have hts := atoms_spec (ws := .code y cc nL none :: UU) B.pre
  rw [lg_entry_eq]
  have w := h p l e s m _ below meth c s.heap [] D dA ((lg_sl av ++ List.replicate (nL - (lg_sl av).length) Slot.unset).toArray) ⟨B.exec, B.bytes, hml, B.returns, B.notSynchronized, (name_of_methodNamed B.named B.method).1, findClass_of_methodNamed B.named, fun w hw => hts w (List.mem_cons_of_mem _ hw), hK, hP, va_S.rf, (fun _ => hsz), hX, hbs, by rw [← hlv]; exact lvE_ok hl⟩
  intro T hT X
  obtain ⟨t, a1, a2⟩ := w T hT X
  exact ⟨t, a1, a2 hA⟩
theorem g_vretA (hd : decode cc pc = .ok (.return_, 1)) (hcu : cu = mc := by rfl) (hsu : su = ms := by rfl) (hN : N = NF := by rfl) (hq : Q none SH I L R) : VG y cc nL none (rmo k mc ms) (PA b NF Q mc ms) b ad x0 cu su pc lv [] N SH I L R := by
  intro p l e s m args below meth c H locs D dA ls hc T hT X
  have w := (v_vret (k := k) (Q := Q) (NF := NF) hd rfl hcu hsu hN hq) p l e s m args below meth c H locs D dA ls hc
  obtain ⟨t, a1, a2⟩ := w T hT X
  exact ⟨t, a1, fun _ => a2⟩
theorem ng_new {index c nf : Nat} (hd : decode cc pc = .ok (.new index, 3)) (hc13 : c < 13) (hl : Cond.classLink y.cls index (xq c).1 ∈ UU) (hin : Cond.instantiable (xq c).1 nf ∈ UU) (hini : Cond.initialized (xq c).1 ∈ UU) (hs : SH N = .inl c) (hz : Zr N I L R) (hcu : cu + 1 ≤ RM.cells) (hsu : su + nf ≤ RM.slots) (h : VG y cc nL ret RM PQ b ad true (cu + 1) (su + nf) (pc + 3) lv (.ref (b + N) :: rest) (N + 1) SH I L R) : VG y cc nL ret RM PQ b ad true cu su pc lv rest N SH I L R := by
  have z := hz N (Nat.le_refl N)
  refine g_new (c := c) (nf := nf) (I' := I) (L' := L) (R' := R) hd rfl hc13 hl hin hini hcu hsu (fun _ _ => rfl) (fun _ _ => rfl) (fun _ _ => rfl) z.1 z.2.1 z.2.2 ?_
  rw [us_id hs]; exact h
theorem ng_newa {atype : ArrayType} {t len : Nat} {ty : FieldType} {i : Int32} (hd : decode cc pc = .ok (.newarray atype, 2)) (hty : newarray.typeOf atype = ty) (ht : t < 4) (hat9 : atys.getD t .int = ty) (harr : Cond.arrayClass ty ∈ UU) (hi : ¬ i < 0) (hlen : i.toNatClampNeg = len) (hbytes : len * componentBytes ty ≤ 536870912) (hs : SH N = .inr (t, len)) (hz : Zr N I L R) (hcu : cu + 1 ≤ RM.cells) (hsu : su + len ≤ RM.slots) (h : VG y cc nL ret RM PQ b ad true (cu + 1) (su + len) (pc + 2) lv (.ref (b + N) :: rest) (N + 1) SH I L R) : VG y cc nL ret RM PQ b ad true cu su pc lv (.int i :: rest) N SH I L R := by
  have z := hz N (Nat.le_refl N)
  refine g_newa (t := t) (len := len) (I' := I) (L' := L) (R' := R) hd rfl hty ht hat9 harr hi hlen hbytes hcu hsu (fun _ _ => rfl) (fun _ _ => rfl) (fun _ _ => rfl) z.1 z.2.1 z.2.2 ?_
  rw [us_id hs]; exact h
theorem ng_newq {index t len c : Nat} {i : Int32} (hPQ : NeedA PQ) (hc : c = 2 ∨ c = 3 ∨ c = 4 ∨ c = 6 ∨ c = 8) (hd : decode cc pc = .ok (.anewarray index, 3)) (ht : 4 ≤ t) (ht9 : t < 9) (hat9 : atys.getD t .int = .object (xq c).1) (hl : Cond.classLink y.cls index (xq c).1 ∈ UU) (hi : ¬ i < 0) (hlen : i.toNatClampNeg = len) (hbytes : len * 4 ≤ 536870912) (hs : SH N = .inr (t, len)) (hz : Zr N I L R) (hcu : cu + 1 ≤ RM.cells) (hsu : su + len ≤ RM.slots) (h : VG y cc nL ret RM PQ b ad true (cu + 1) (su + len) (pc + 3) lv (.ref (b + N) :: rest) (N + 1) SH I L R) : VG y cc nL ret RM PQ b ad true cu su pc lv (.int i :: rest) N SH I L R := by
  intro p l e s m args below meth c0 H locs D dA ls hc0
  obtain ⟨h1, h2, h3, h4, h5, h6, h7, h8, h9, h10, h11, h12, h13, h14, h15⟩ := id hc0
  have z9 := hz N (Nat.le_refl N)
  intro T hT X
  by_cases hy : NA s
  case neg => exact ⟨_, Steps.refl _, hPQ _ _ _ _ _ _ _ _ _ _ _ _ hy⟩
  have hz := g_len hc0 hT X rfl
  subst hlen
  refine W.anew (C := (xq c).1) (g := F0 m pc ls (.int i :: rest)) h1 h2 h7 (h8 _ hl) (hy c hc).use rfl hd rfl hi hbytes hcu hsu (fun cA kA comp f1 f2 f3 f4 => ?_) T hT X
  have hcA : cA = dA t := by
    have hr := (h9.2 t _ (tysl_at ht9 hat9)).2
    obtain ⟨_, _, _, _, _, hr2⟩ := hr
    exact Option.some.inj (f1.symm.trans hr2)
  subst hcA
  rw [hz]
  generalize hH1 : H.push ({ cls := dA t, slots := Array.replicate i.toNatClampNeg .null, vm := .none } : Cell) = H1
  have z1 : H1.size = b + N + 1 := by rw [← hH1, Array.size_push, hz]
  have e1 : H1[b + N]? = some (arrV (dA t) i.toNatClampNeg (fun _ => .null)) := by rw [← hz, ← hH1, Array.getElem?_push_size, ← arrV_new]
  have o1 : ∀ q : Nat, q < b + N → H1[q]? = H[q]? := fun q hq => by rw [← hH1, Array.getElem?_push, if_neg (by omega)]
  have hat : va_at D xcl (b + N, celo b dA (fun _ _ => 0) (fun _ _ => 0) (fun _ _ => none) N (.inr (t, i.toNatClampNeg))) H1 := by
    show H1[b + N]? = some (vp_cell (dA t) (i.toNatClampNeg, act b (fun _ _ => 0) (fun _ _ => 0) (fun _ _ => none) N t))
    rw [e1, act, if_neg (by omega), if_neg (by omega)]
    rfl
  have hcx := cx_new hc0 hz z1 o1 hat (I' := I) (L' := L) (R' := R) (fun _ _ => rfl) (fun _ _ => rfl) (fun _ _ => rfl) z9.1 z9.2.1 z9.2.2
  rw [us_id hs] at hcx
  exact h p l e s m args below meth c0 H1 locs D dA ls hcx
theorem g_callIA {a idx : Nat} (hPQ : NeedA PQ) (hd : decode cc pc = .ok (.invokespecial idx, 3)) (hl : Cond.methodLink y.cls idx y' ∈ UU) (hm : MI y' cc' nL' 0) (hk : k' + 1 ≤ RM.frames) (hlo : 8 + (nL' + 11) + 100 * k' ≤ RM.locals) (hcu : cu + mc' ≤ RM.cells) (hsu : su + ms' ≤ RM.slots) (hst : (rest.map fun v => v.category).sum ≤ 8)
    (hC : CA k' y' cc' nL' mc' ms' b ad [.ref (b + a)] N I L R (fun r sh' I' L' R' => VG y cc nL ret RM PQ b ad true (cu + mc') (su + ms') (pc + 3) lv (r.toList ++ rest) (N + mc') sh' I' L' R')) : VG y cc nL ret RM PQ b ad true cu su pc lv (.ref (b + a) :: rest) N SH I L R := by
  intro p l e s m args below meth c0 H locs D dA ls hc
  obtain ⟨h1, h2, h3, h4, h5, h6, h7, h8, h9, h10, h11, h12, h13, h14, h15⟩ := id hc
  obtain ⟨m1, m3, m4, m5, m6, m7⟩ := hm
  intro T hT X
  by_cases hy : NA s
  case neg => exact ⟨_, Steps.refl _, hPQ _ _ _ _ _ _ _ _ _ _ _ _ hy⟩
  have hz := g_len hc hT X
  refine vo_call (va_runI (As := []) (b := b + a) (rest := rest) ⟨h1, h2, h3, h7, h8⟩ (hC l D dA) (cwI 0 h8 (goodB m4) rfl rfl rfl (h8 _ m3) (h8 _ hl) (h8 _ m1) m7 m5 ⟨hk, hlo⟩) ⟨pca_blind, fun U hU hW => ⟨rfl, hy.go hW.alike, by rw [hU]; exact hz rfl, by rw [hU]; exact Nat.le_trans h14 h11.1, by rw [hU]; exact h10, va_K.moved hW.alike h9, h13.go hW (fun q q1 q2 => by rw [hU]; exact h11.2.1 q q1 q2)⟩⟩ rfl rfl h15.1.1 rfl (lv_room hst) hd ⟨hcu, hsu⟩) h11 (fun r sh1 I1 L1 R1 H1 locs1 hq hP1 hS1 => hq p l e s m args below meth c0 H1 locs1 D dA ls ⟨h1, h2, h3, h4, h5, h6, h7, h8, h9, hP1, hS1, fun hx => by have := h12 hx; omega, h13, h14, h15⟩) T hT X
end
