/-! the law's rows -/
/-! THE CLAIM OUT OF ONE WALK OF THE LAW'S BODY. Your part is whole_start (and what it stands on); all else here is the same for every law, but numbers. -/
def R_law : String := "LentMasksLaw"
def lw_P (b : Addr) (xs : List Int32) (args : Array Value) (s : State) : Prop := args = #[.ref b] ∧ s.IntsAt b xs ∧ xs.length ≤ 3072 ∧ (Jvm.Cond.and given_1 narrow_1).before args s = true
def lw_Q (_ : Array Value) (s : State) (o : Outcome) (t : State) : Prop := o = .returned (some (.int 1)) ∧ Framed s o t [] 601024 7293034
def lw_Z (below : List Frame) (a : Array Value) (s : State) : State → Prop := fun t => ∃ o, t.status = .running ∧ Ended t below o ∧ lw_Q a s o t
/-- the law's own end, with 1 on the stack, nothing written that was there before, its room as the claim has it -/
theorem lw_ret {p : Program} {l : Launch} {e : Env} {s : State} {m : MethodId} {below : List Frame} {meth : Method} {c : Code} {b : Nat} (hx : p.tables.exec = Jvm.exec) (hb : c.code = code) (hr : meth.sig.returnType = ret) (hlocks : meth.locks = false) {pc : Nat} {H : Heap} {ls : Array Slot} (hdg : decode code pc = .ok (.ireturn, 1)) : W p l e room_1 s m #[Value.ref b] below meth c H [] 601024 7293034 (lw_Z below #[Value.ref b] s) (F0 m pc ls [.int 1]) := by
  intro T hT X
  obtain ⟨fs, hret, hrun, hended, hW, hframe⟩ := X.leave (v := some (.int 1)) (hlocks := hlocks) (fun h => by rw [hr] at h; cases h)
  have hmeth' : T.vm.method? m = some meth := X.method'
  refine ⟨T.setFrames fs, ?_, .returned (some (.int 1)), hrun, hended, rfl, ⟨_, rfl⟩, hW, hframe⟩
  jvm_step X.here [X.here.top, hx, hb, hdg, hmeth', hr, ret, narrow_b1]
  (try refine ⟨rfl, ?_⟩); (try refine ⟨rfl, ?_⟩)
  first | (intro acts; rw [hret _ acts rfl rfl rfl]) | rw [hret _ _ rfl rfl rfl]
  exact Steps.refl _
def LWc (sb Ls b : Nat) (xs : Nat → Int32) (l : Launch) (s : State) (args : Array Value) : Prop := l.stackTraces = false ∧ NX s ∧ NA s ∧ va_X sb Ls xs s s.heap ∧ sb < s.heap.size ∧ b = s.heap.size ∧ args = #[.ref sb]
def PW (sb Ls b : Nat) (xs : Nat → Int32) : PQT := fun _ l _ s _ args below _ _ _ _ t => LWc sb Ls b xs l s args → lw_Z below args s t
theorem PW.need {sb Ls b : Nat} {xs : Nat → Int32} : NeedA (PW sb Ls b xs) := fun _ _ _ _ _ _ _ _ _ _ _ _ h q => absurd q.2.2.1 h
section
variable {sb Ls b : Nat} {xs : Nat → Int32} {ad : Nat → Nat} {x0 : Bool} {cu su pc : Nat} {lv : List (Option Value)} {rest : List Value} {N : Nat} {sh : HS} {I : HI} {L : HL} {R : HR}
theorem VG.widen {y : MethodName} {cc : ByteArray} {nL : Nat} {ret : Option FieldType} {RM : Room} {PQ : PQT} {cu' su' : Nat} {st : List Value} (h1 : cu ≤ cu') (h2 : su ≤ su') (h : VG y cc nL ret RM PQ b ad false cu' su' pc lv st N sh I L R) : VG y cc nL ret RM PQ b ad false cu su pc lv st N sh I L R := by
  intro p l e s m args below meth c H locs D dA ls hc
  obtain ⟨g1, g2, g3, g4, g5, g6, g7, g8, g9, g10, g11, g12, g13, g14, g15⟩ := id hc
  exact W.widen h1 h2 (h p l e s m args below meth c H locs D dA ls ⟨g1, g2, g3, g4, g5, g6, g7, g8, g9, g10, g11, (fun q => by cases q), g13, g14, g15⟩)
theorem VG.relax {y : MethodName} {cc : ByteArray} {nL : Nat} {ret : Option FieldType} {RM : Room} {PQ : PQT} {st : List Value} (h : VG y cc nL ret RM PQ b ad false cu su pc lv st N sh I L R) : VG y cc nL ret RM PQ b ad true cu su pc lv st N sh I L R := by
  intro p l e s m args below meth c H locs D dA ls hc
  obtain ⟨g1, g2, g3, g4, g5, g6, g7, g8, g9, g10, g11, g12, g13, g14, g15⟩ := id hc
  exact h p l e s m args below meth c H locs D dA ls ⟨g1, g2, g3, g4, g5, g6, g7, g8, g9, g10, g11, (fun q => by cases q), g13, g14, g15⟩
theorem g_slen (hd : decode cL_law pc = .ok (.arraylength, 1)) (h : VG yL_law cL_law 7 (some .boolean) room_1 (PW sb Ls b xs) b ad x0 cu su (pc + 1) lv (.int (nI Ls) :: rest) N sh I L R) : VG yL_law cL_law 7 (some .boolean) room_1 (PW sb Ls b xs) b ad x0 cu su pc lv (.ref sb :: rest) N sh I L R := by
  intro p l e s m args below meth c H locs D dA ls hc T hT X
  obtain ⟨h1, h2, h3, h4, h5, h6, h7, h8, h9, h10, h11, h12, h13, h14, h15⟩ := id hc
  by_cases hy : LWc sb Ls b xs l s args
  case neg => exact ⟨_, Steps.refl _, fun q => absurd q hy⟩
  obtain ⟨y1, y2, y3, y4, y5, y6, y7⟩ := id hy
  exact va_slen h1 h2 y4 y5 (by omega) h11 hd (h p l e s m args below meth c H locs D dA ls hc) T hT X
theorem g_sld {k : Nat} (hd : decode cL_law pc = .ok (.iaload, 1)) (hk : k < Ls) (hL : Ls ≤ 3072) (h : VG yL_law cL_law 7 (some .boolean) room_1 (PW sb Ls b xs) b ad x0 cu su (pc + 1) lv (.int (xs k) :: rest) N sh I L R) : VG yL_law cL_law 7 (some .boolean) room_1 (PW sb Ls b xs) b ad x0 cu su pc lv (.int (nI k) :: .ref sb :: rest) N sh I L R := by
  intro p l e s m args below meth c H locs D dA ls hc T hT X
  obtain ⟨h1, h2, h3, h4, h5, h6, h7, h8, h9, h10, h11, h12, h13, h14, h15⟩ := id hc
  by_cases hy : LWc sb Ls b xs l s args
  case neg => exact ⟨_, Steps.refl _, fun q => absurd q hy⟩
  obtain ⟨y1, y2, y3, y4, y5, y6, y7⟩ := id hy
  have w := h p l e s m args below meth c H locs D dA ls hc
  exact va_sld h1 h2 y4 y5 (by omega) h11 (vp_in_nI hk (by omega)) hd (by rw [nI_clamp (by omega)]; exact w) T hT X
theorem g_lret (hd : decode cL_law pc = .ok (.ireturn, 1)) (hcu : cu ≤ 601024) (hsu : su ≤ 7293034) : VG yL_law cL_law 7 (some .boolean) room_1 (PW sb Ls b xs) b ad x0 cu su pc lv [.int 1] N sh I L R := by
  intro p l e s m args below meth c H locs D dA ls hc T hT X
  obtain ⟨h1, h2, h3, h4, h5, h6, h7, h8, h9, h10, h11, h12, h13, h14, h15⟩ := id hc
  by_cases hy : LWc sb Ls b xs l s args
  case neg => exact ⟨_, Steps.refl _, fun q => absurd q hy⟩
  obtain ⟨y1, y2, y3, y4, y5, y6, rfl⟩ := id hy
  have w : W p l e room_1 s m #[.ref sb] below meth c H locs cu su (lw_Z below #[.ref sb] s) (F0 m pc ls [.int 1]) := va_forget (fun q hq => by have := h11.2.2 q hq; omega) (W.widen hcu hsu (lw_ret h1 h2 h4 h5 hd))
  obtain ⟨t, a1, a2⟩ := w T hT X
  exact ⟨t, a1, fun _ => a2⟩
theorem goodL : GoodIn UU (va_wsS RL 186 yL_led (.codeWith yL_led cL_led 5 (some .int) hhL :: UU)) := by
  intro w hw
  simp only [va_wsS, List.cons_append, List.nil_append, List.mem_cons] at hw
  rcases hw with rfl | rfl | rfl | rfl | hw
  · exact uu_g ml_L_186
  · exact uu_g (uu (i := 1345) (by decide +kernel) rfl)
  · exact uu_g (uu (i := 110) (by decide +kernel) rfl)
  · exact uu_g (uu (i := 1346) (by decide +kernel) rfl)
  · exact uu_g hw
theorem g_callLL {x z : Int32} {B B2 t : Nat} {tp : Nat → Nat} {nt tr fa pl : Nat} {F : bkF} {S : Nat → LSt} {u r : Nat} {im : Nat → LSt} {ic : Nat} (h : ClsB I L R B B2 t tp nt tr fa pl F S u r im ic) (hd : decode cL_law pc = .ok (.invokestatic 186, 3)) (hcu : cu + 1 ≤ 601024) (hsu : su + 6 ≤ 7293034) (hst : (rest.map fun v => v.category).sum ≤ 8)
    (k0 : ∀ q, ledO F (S 0) x z = some q → VG yL_law cL_law 7 (some .boolean) room_1 (PW sb Ls b xs) b ad false (cu + 1) (su + 6) (pc + 3) lv (.int (nI 0) :: rest) NN SH I (ul L 171 0 (nI q).toInt64) R) (k1 : ledO F (S 0) x z = none → VG yL_law cL_law 7 (some .boolean) room_1 (PW sb Ls b xs) b ad false (cu + 1) (su + 6) (pc + 3) lv (.int (nI 1) :: rest) NN SH I L R) : VG yL_law cL_law 7 (some .boolean) room_1 (PW sb Ls b xs) b ad false cu su pc lv (.ref (b + 171) :: .int z :: .int x :: .ref (b + 0) :: rest) NN SH I L R := by
  intro p l e s m args below meth c0 H locs D dA ls hc T hT X
  obtain ⟨h1, h2, h3, h4, h5, h6, h7, h8, h9, h10, h11, h12, h13, h14, h15⟩ := id hc
  by_cases hy : LWc sb Ls b xs l s args
  case neg => exact ⟨_, Steps.refl _, fun q => absurd q hy⟩
  obtain ⟨y1, y2, y3, y4, y5, y6, y7⟩ := id hy
  have hM := c_L_led (b := b) (ad := ad) (x := x) (z := z) (Q := fun r sh I' L' R' => (∃ q, ledO F (S 0) x z = some q ∧ r = some (.int (nI 0)) ∧ sh = SH ∧ I' = I ∧ L' = ul L 171 0 (nI q).toInt64 ∧ R' = R) ∨ (ledO F (S 0) x z = none ∧ r = some (.int (nI 1)) ∧ sh = SH ∧ I' = I ∧ L' = L ∧ R' = R)) h (fun q hq => Or.inl ⟨q, hq, rfl, rfl, rfl, rfl, rfl⟩) (fun hq => Or.inr ⟨hq, rfl, rfl, rfl, rfl, rfl⟩) l y1 D dA
  have hrun := vx_runSX (p := p) (e := e) (below := below) (meth := meth) (H := H) (locs := locs) (cells := cu) (slots := su) (R := room_1) (g := F0 m pc ls (.ref (b + 171) :: .int z :: .int x :: .ref (b + 0) :: rest)) (As := [.ref (b + 0), .int x, .int z, .ref (b + 171)]) (rest := rest) ⟨h1, h2, h3, h7, h8⟩ hM (vx_cwSW (own := RL) (index := 186) 4 h8 goodL rfl rfl rfl ⟨by decide +kernel, by decide +kernel, by decide +kernel⟩ ⟨by decide, by decide⟩) ⟨pcn_blind, fun U hU hW => ⟨rfl, y2.go hW, by rw [hU]; exact Nat.le_trans h14 h11.1, by rw [hU]; exact h10, va_K.moved hW.alike h9, h13.go hW (fun q q1 q2 => by rw [hU]; exact h11.2.1 q q1 q2)⟩⟩ rfl rfl h15.1.1 rfl (lv_room hst) hd ⟨hcu, hsu⟩
  rcases hrun T hT X with ⟨v, st₀, t, T', L', k9, X', kL, e1, e2, ⟨r, sh', I', L2, R', hv, hq, hP, hz, hk⟩, st⟩ | ⟨q, st₀, t, T', L', E, ce, k9, X', kL, e1, e2, hF, hce, hcv, hcl, st⟩
  · cases hv
    rw [k9] at hz hk
    have hcx : ∀ (L3 : HL), va_P D xcl (wld b dA NN SH I L3 R) t.heap → Cx yL_law cL_law 7 (some .boolean) b ad false (cu + 1) lv NN SH I L3 R p s m args meth c0 T'.heap (locs ++ L') D dA ls := fun L3 hP3 => ⟨h1, h2, h3, h4, h5, h6, h7, h8, h9, by rw [e1]; exact hP3, ⟨Nat.le_trans h11.1 (by rw [e1]; exact hz), fun q h1 h2 => by rw [e1, hk q (Nat.lt_of_lt_of_le h1 h11.1) h2]; exact h11.2.1 q h1 h2, fun q hq => by
      rcases List.mem_append.mp hq with h | h
      · exact h11.2.2 q h
      · exact kL q h⟩, (fun q => by cases q), h13, h14, h15⟩
    rcases hq with ⟨q, hq, rfl, rfl, rfl, rfl, rfl⟩ | ⟨hq, rfl, rfl, rfl, rfl, rfl⟩
    · obtain ⟨t2, a1, b1⟩ := k0 q hq p l e s m args below meth c0 T'.heap (locs ++ L') D dA ls (hcx _ hP) T' rfl X'
      exact ⟨t2, st t2 a1, b1⟩
    · obtain ⟨t2, a1, b1⟩ := k1 hq p l e s m args below meth c0 T'.heap (locs ++ L') D dA ls (hcx _ hP) T' rfl X'
      exact ⟨t2, st t2 a1, b1⟩
  · exact hF.elim
end
/-- both sides tell the same state -/
def LJ (I : HI) (L : HL) (R : HR) : Prop := ∃ (B B2 t : Nat) (tp : Nat → Nat) (nt tr fa pl : Nat) (F : bkF) (S : Nat → LSt) (u r : Nat) (im : Nat → LSt) (ic : Nat), ClsB I L R B B2 t tp nt tr fa pl F S u r im ic ∧ RefB I tp nt tr fa pl F S u r im ic
section
variable {I I' : HI} {L L' : HL} {R R' : HR} {B B2 t : Nat} {tp : Nat → Nat} {nt tr fa pl : Nat} {F : bkF} {S : Nat → LSt} {u r : Nat} {im : Nat → LSt} {ic : Nat}
theorem RefB.hi (h : RefB I tp nt tr fa pl F S u r im ic) (hh : Hi I I' L L' R R') : RefB I' tp nt tr fa pl F S u r im ic :=
  rf_fr h h.2.1.2.2.2 id (by rw [(hh 157 (by decide)).1]; exact h.2.1.1) (fun j hj => by rw [(hh 157 (by decide)).1]) (fun x hx => (hh x (by omega)).1)
theorem ClsB.lo (h : ClsB I L R B B2 t tp nt tr fa pl F S u r im ic) (hI : ∀ x, x < 157 → I' x = I x) (hL : ∀ x, x ≠ 170 → x ≠ 171 → L' x = L x) : ClsB I' L' R B B2 t tp nt tr fa pl F S u r im ic := by
  have q := cb_q (I' := I') (R' := R) h (fun x hx => hI x (by omega)) h.1 rfl
  obtain ⟨a1, a2, a3, a4, a5, a6, a7, a8⟩ := q
  exact ⟨a1, a2, a3, a4, a5, a6, a7, fun i hi => by rw [hL 91 (by decide) (by decide)]; exact a8 i hi⟩
end
