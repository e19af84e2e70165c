section
variable {y : MethodName} {cc : ByteArray} {nL : Nat} {ret : Option FieldType} {k mc ms NF : Nat} {Q : QT} {b : Nat} {ad : Nat → Nat} {x0 : Bool} {cu su pc : Nat} {lv tl : List (Option Value)} {st rest : List Value} {N : Nat} {sh : HS} {I : HI} {L : HL} {R : HR}
theorem wld_new {dA : Nat → ClassId} {z : Nat ⊕ (Nat × Nat)} {I' : HI} {L' : HL} {R' : HR} (hI : ∀ q, q < N → I' q = I q) (hL : ∀ q, q < N → L' q = L q) (hR : ∀ q, q < N → R' q = R q) (zI : I' N = fun _ => 0) (zL : L' N = fun _ => 0) (zR : R' N = fun _ => none) : wld b dA N sh I L R ++ [(b + N, celo b dA (fun _ _ => 0) (fun _ _ => 0) (fun _ _ => none) N z)] = wld b dA (N + 1) (us sh N z) I' L' R' := by
  refine wld_push ?_ ?_
  · unfold cel
    rw [show us sh N z N = z by simp [us]]
    have e2 : ∀ c, fvl b I' L' R' N c = fvl b (fun _ _ => 0) (fun _ _ => 0) (fun _ _ => none) N c := fun c => by funext j; simp [fvl, zI, zL, zR]
    have e3 : ∀ c, act b I' L' R' N c = act b (fun _ _ => 0) (fun _ _ => 0) (fun _ _ => none) N c := fun c => by simp [act, zI, zL, zR]
    cases z <;> simp only [celo, e2, e3]
  · intro q hq
    unfold cel
    rw [show us sh N z q = sh q by simp [us, Nat.ne_of_lt hq]]
    have e2 : ∀ z, fvl b I' L' R' q z = fvl b I L R q z := fun z => by funext w; simp [fvl, hI q hq, hL q hq, hR q hq]
    have e3 : ∀ z, act b I' L' R' q z = act b I L R q z := fun z => by simp [act, hI q hq, hL q hq, hR q hq]
    cases sh q <;> simp only [celo, e2, e3]
def nofd : FieldType → Bool
  | .float => false
  | .double => false
  | _ => true
theorem nofd_all : ∀ c, c < 13 → ((List.range (nfl c)).all fun j => nofd (ftp c j)) = true := by decide +kernel
theorem cx_new {dA : Nat → ClassId} {z : Nat ⊕ (Nat × Nat)} {I' : HI} {L' : HL} {R' : HR} {p : Program} {s : State} {m : MethodId} {args : Array Value} {meth : Method} {c0 : Code} {H H1 : Heap} {locs : List Loc} {D : va_G} {ls : Array Slot} (hc : Cx y cc nL ret b ad x0 cu lv N sh I L R p s m args meth c0 H locs D dA ls) (hz : H.size = b + N) (z1 : H1.size = b + N + 1) (o1 : ∀ q, q < b + N → H1[q]? = H[q]?) (hat : va_at D xcl (b + N, celo b dA (fun _ _ => 0) (fun _ _ => 0) (fun _ _ => none) N z) H1)
    (hI : ∀ q, q < N → I' q = I q) (hL : ∀ q, q < N → L' q = L q) (hR : ∀ q, q < N → R' q = R q) (zI : I' N = fun _ => 0) (zL : L' N = fun _ => 0) (zR : R' N = fun _ => none) : Cx y cc nL ret b ad x0 (cu + 1) lv (N + 1) (us sh N z) I' L' R' p s m args meth c0 H1 locs D dA ls := by
  obtain ⟨h1, h2, h3, h4, h5, h6, h7, h8, h9, h10, h11, h12, h13, h14, h15⟩ := hc
  have hk : ∀ (k : Nat) (q : Nat × va_E), (wld b dA N sh I L R)[k]? = some q → H1[q.1]? = H[q.1]? := fun k q hq => o1 q.1 (by rw [← hz]; exact (h10 k q hq).lt)
  refine ⟨h1, h2, h3, h4, h5, h6, h7, h8, h9, ?_, ⟨Nat.le_trans h11.1 (by omega), fun q q1 q2 => (o1 q (by rw [← hz]; exact Nat.lt_of_lt_of_le q1 h11.1)).trans (h11.2.1 q q1 q2), h11.2.2⟩, fun hx => by have := h12 hx; omega, h13, h14, h15⟩
  rw [← wld_new (z := z) hI hL hR zI zL zR]
  refine (h10.kept hk).app (fun k q hq => ?_)
  have hz : k < 1 := (List.getElem?_eq_some_iff.mp hq).1
  rw [show k = 0 by omega] at hq
  cases hq
  exact hat
theorem v_new {index c nf : Nat} {I' : HI} {L' : HL} {R' : HR} (hd : decode cc pc = .ok (.new index, 3)) (hx : x0 = true) (hc13 : c < 13) (hl : Cond.classLink y.cls index (xq c).1 ∈ UU) (hin : Cond.instantiable (xq c).1 nf ∈ UU) (hini : Cond.initialized (xq c).1 ∈ UU) (hcu : cu + 1 ≤ mc) (hsu : su + nf ≤ ms)
    (hI : ∀ q, q < N → I' q = I q) (hL : ∀ q, q < N → L' q = L q) (hR : ∀ q, q < N → R' q = R q) (zI : I' N = fun _ => 0) (zL : L' N = fun _ => 0) (zR : R' N = fun _ => none) (h : V y cc nL ret k mc ms NF Q b ad x0 (cu + 1) (su + nf) (pc + 3) lv (.ref (b + N) :: rest) (N + 1) (us sh N (.inl c)) I' L' R') : V y cc nL ret k mc ms NF Q b ad x0 cu su pc lv rest N sh I L R := by
  intro p l e s m args below meth c0 H locs D dA ls hc
  obtain ⟨h1, h2, h3, h4, h5, h6, h7, h8, h9, h10, h11, h12, h13, h14, h15⟩ := id hc
  obtain ⟨g1, g2, g3, g4, g5⟩ := clf c hc13
  intro T hT X
  have hz := v_len hc hT X hx
  refine W.newcK (C := (xq c).1) (n := nf) (g := F0 m pc ls rest) h1 h2 h7 (h8 _ hl) (h8 _ hin) (h8 _ hini) rfl hd hcu hsu (h9.1 c _ g1).2.1 hz (fun H1 kC hkC e1 z1 o1 => ?_) T hT X
  have hat : va_at D xcl (b + N, celo b dA (fun _ _ => 0) (fun _ _ => 0) (fun _ _ => none) N (.inl c)) H1 := by
    refine ⟨_, g1, (u_born (ftp c) h8 g3 (h9.1 c _ g1) hkC e1 g4).to (fun j hj => ?_)⟩
    have hj' : j < nfl c := by rw [g2]; exact hj
    show defaultValue (ftp c j) = (List.map _ _).getD j .null
    rw [List.getD_eq_getElem?_getD, List.getElem?_map, List.getElem?_range hj']
    show _ = fvl b (fun _ _ => 0) (fun _ _ => 0) (fun _ _ => none) N c j
    have hno : nofd (ftp c j) = true := List.all_eq_true.mp (nofd_all c hc13) j (List.mem_range.mpr hj')
    cases hft : ftp c j <;> simp [fvl, kdo, hft, defaultValue, va_rf] <;> (rw [hft] at hno; cases hno)
  exact h p l e s m args below meth c0 H1 locs D dA ls (cx_new hc hz z1 o1 hat hI hL hR zI zL zR)
theorem v_newa {atype : ArrayType} {t len : Nat} {ty : FieldType} {i : Int32} {I' : HI} {L' : HL} {R' : HR} (hd : decode cc pc = .ok (.newarray atype, 2)) (hx : x0 = true) (hty : newarray.typeOf atype = ty) (ht : t < 4) (hat9 : atys.getD t .int = ty) (harr : Cond.arrayClass ty ∈ UU) (hi : ¬ i < 0) (hlen : i.toNatClampNeg = len) (hbytes : len * componentBytes ty ≤ 536870912) (hcu : cu + 1 ≤ mc) (hsu : su + len ≤ ms)
    (hI : ∀ q, q < N → I' q = I q) (hL : ∀ q, q < N → L' q = L q) (hR : ∀ q, q < N → R' q = R q) (zI : I' N = fun _ => 0) (zL : L' N = fun _ => 0) (zR : R' N = fun _ => none) (h : V y cc nL ret k mc ms NF Q b ad x0 (cu + 1) (su + len) (pc + 2) lv (.ref (b + N) :: rest) (N + 1) (us sh N (.inr (t, len))) I' L' R') : V y cc nL ret k mc ms NF Q b ad x0 cu su pc lv (.int i :: rest) N sh I L R := by
  intro p l e s m args below meth c0 H locs D dA ls hc
  obtain ⟨h1, h2, h3, h4, h5, h6, h7, h8, h9, h10, h11, h12, h13, h14, h15⟩ := id hc
  intro T hT X
  have hz := v_len hc hT X hx
  subst hty
  refine va_newaK (g := F0 m pc ls (.int i :: rest)) h1 h2 (h8 _ harr) rfl hd rfl hi hlen hbytes hcu hsu hz (fun H1 cA e1 z1 o1 hAr hNm => ?_) T hT X
  have hcA : cA = dA t := by
    have hr := (h9.2 t _ (tysl_at (by omega) hat9)).2
    have hr2 : s.vm.findClass ("[" ++ (newarray.typeOf atype).toString) = some (dA t) := by
      revert hr
      cases atype <;> exact fun q => q
    exact Option.some.inj (hNm.symm.trans hr2)
  subst hcA
  have hat : va_at D xcl (b + N, celo b dA (fun _ _ => 0) (fun _ _ => 0) (fun _ _ => none) N (.inr (t, len))) H1 := by
    show H1[b + N]? = some (vp_cell (dA t) (len, act b (fun _ _ => 0) (fun _ _ => 0) (fun _ _ => none) N t))
    rw [e1, ← hat9]
    have : t = 0 ∨ t = 1 ∨ t = 2 ∨ t = 3 := by omega
    rcases this with rfl | rfl | rfl | rfl <;> rfl
  exact h p l e s m args below meth c0 H1 locs D dA ls (cx_new hc hz z1 o1 hat hI hL hR zI zL zR)
theorem v_newq {index t len c : Nat} {i : Int32} {I' : HI} {L' : HL} {R' : HR} (hd : decode cc pc = .ok (.anewarray index, 3)) (hx : x0 = true) (ht : 4 ≤ t) (ht9 : t < 9) (hat9 : atys.getD t .int = .object (xq c).1) (hl : Cond.classLink y.cls index (xq c).1 ∈ UU) (harr : Cond.arrayOver (.object (xq c).1) ∈ UU) (hi : ¬ i < 0) (hlen : i.toNatClampNeg = len) (hbytes : len * 4 ≤ 536870912) (hcu : cu + 1 ≤ mc) (hsu : su + len ≤ ms)
    (hI : ∀ q, q < N → I' q = I q) (hL : ∀ q, q < N → L' q = L q) (hR : ∀ q, q < N → R' q = R q) (zI : I' N = fun _ => 0) (zL : L' N = fun _ => 0) (zR : R' N = fun _ => none) (h : V y cc nL ret k mc ms NF Q b ad x0 (cu + 1) (su + len) (pc + 3) lv (.ref (b + N) :: rest) (N + 1) (us sh N (.inr (t, len))) I' L' R') : V y cc nL ret k mc ms NF Q b ad x0 cu su pc lv (.int i :: rest) N sh I L R := by
  intro p l e s m args below meth c0 H locs D dA ls hc
  obtain ⟨h1, h2, h3, h4, h5, h6, h7, h8, h9, h10, h11, h12, h13, h14, h15⟩ := id hc
  intro T hT X
  have hz := v_len hc hT X hx
  subst hlen
  refine W.anew (C := (xq c).1) (g := F0 m pc ls (.int i :: rest)) h1 h2 h7 (h8 _ hl) (h8 _ harr) rfl hd rfl hi hbytes hcu hsu (fun cA kA comp f1 f2 f3 f4 => ?_) T hT X
  have hcA : cA = dA t := by
    have hr := (h9.2 t _ (tysl_at ht9 hat9)).2
    obtain ⟨_, _, _, _, _, hr2⟩ := hr
    exact Option.some.inj (f1.symm.trans hr2)
  subst hcA
  rw [hz]
  generalize hH1 : H.push ({ cls := dA t, slots := Array.replicate i.toNatClampNeg .null, vm := .none } : Cell) = H1
  have z1 : H1.size = b + N + 1 := by rw [← hH1, Array.size_push, hz]
  have e1 : H1[b + N]? = some (arrV (dA t) i.toNatClampNeg (fun _ => .null)) := by rw [← hz, ← hH1, Array.getElem?_push_size, ← arrV_new]
  have o1 : ∀ q : Nat, q < b + N → H1[q]? = H[q]? := fun q hq => by rw [← hH1, Array.getElem?_push, if_neg (by omega)]
  have hat : va_at D xcl (b + N, celo b dA (fun _ _ => 0) (fun _ _ => 0) (fun _ _ => none) N (.inr (t, i.toNatClampNeg))) H1 := by
    show H1[b + N]? = some (vp_cell (dA t) (i.toNatClampNeg, act b (fun _ _ => 0) (fun _ _ => 0) (fun _ _ => none) N t))
    rw [e1, act, if_neg (by omega), if_neg (by omega)]
    rfl
  exact h p l e s m args below meth c0 H1 locs D dA ls (cx_new hc hz z1 o1 hat hI hL hR zI zL zR)
end
