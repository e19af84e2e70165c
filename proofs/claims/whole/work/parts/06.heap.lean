theorem SX.same {b : Nat} {ad : Nat → Nat} {u U : State} {H : Heap} (hv : U.vm = u.vm) (h : SX b ad u H) : SX b ad U H := by
  have hA : u.vm.Alike U.vm := by rw [hv]; exact Vm.Alike.refl _
  obtain ⟨h1, h2, h3, h5, h6, h7, h4⟩ := h
  refine ⟨fun i hi => (h1 i hi).same hv, fun i hi => ?_, va_Z.moved hA h3, va_Zq.moved hA h5, vx_Zq.moved hA h6, vx_Zq.moved hA h7, fun q hq => (h4 q hq).same rfl hv.symm⟩
  obtain ⟨g1, g2, g3, g4⟩ := h2 i hi
  exact ⟨va_O.moved hA g1, va_OF.moved hA g2, va_OF.moved hA g3, va_T.moved hA g4⟩
section
variable {y : MethodName} {cc : ByteArray} {nL : Nat} {ret : Option FieldType} {k mc ms NF : Nat} {Q : QT} {b : Nat} {ad : Nat → Nat} {x0 : Bool} {cu su pc : Nat} {lv tl : List (Option Value)} {st rest : List Value} {N : Nat} {sh : HS} {I : HI} {L : HL} {R : HR}
variable {dA : Nat → ClassId} {a j c x t : Nat}
theorem cel_ui_ne {v : Int32} (hx : x ≠ a) : cel b dA sh (ui I a j v) L R x = cel b dA sh I L R x := by
  have e : ui I a j v x = I x := by simp [ui, hx]
  have e2 : ∀ q, fvl b (ui I a j v) L R x q = fvl b I L R x q := fun q => by funext z; simp [fvl, e]
  have e3 : ∀ q, act b (ui I a j v) L R x q = act b I L R x q := fun q => by simp [act, e]
  unfold cel
  cases sh x <;> simp [celo, e2, e3]
theorem cel_ul_ne {v : Int64} (hx : x ≠ a) : cel b dA sh I (ul L a j v) R x = cel b dA sh I L R x := by
  have e : ul L a j v x = L x := by simp [ul, hx]
  have e2 : ∀ q, fvl b I (ul L a j v) R x q = fvl b I L R x q := fun q => by funext z; simp [fvl, e]
  have e3 : ∀ q, act b I (ul L a j v) R x q = act b I L R x q := fun q => by simp [act, e]
  unfold cel
  cases sh x <;> simp [celo, e2, e3]
theorem cel_ur_ne {v : Option Nat} (hx : x ≠ a) : cel b dA sh I L (ur R a j v) x = cel b dA sh I L R x := by
  have e : ur R a j v x = R x := by simp [ur, hx]
  have e2 : ∀ q, fvl b I L (ur R a j v) x q = fvl b I L R x q := fun q => by funext z; simp [fvl, e]
  have e3 : ∀ q, act b I L (ur R a j v) x q = act b I L R x q := fun q => by simp [act, e]
  unfold cel
  cases sh x <;> simp [celo, e2, e3]
theorem fset {f g : Nat → Value} {n : Nat} {v : Value} (h1 : g j = v) (h2 : ∀ i, i ≠ j → g i = f i) : (List.range n).map g = ((List.range n).map f).set j v := by
  apply List.ext_getElem?
  intro i
  by_cases e : j = i
  · subst e
    by_cases hi : j < n
    · rw [List.getElem?_set_self (by simpa using hi)]; simp [hi, h1]
    · simp [hi]
  · rw [List.getElem?_set_ne e]
    by_cases hi : i < n
    · simp [hi, h2 i (fun q => e q.symm)]
    · simp [hi]
theorem cel_ui_o {v : Int32} (hs : sh a = .inl c) (hk : kdo (ftp c j) = 0) : cel b dA sh (ui I a j v) L R a = .inr (c, ((List.range (nfl c)).map (fvl b I L R a c)).set j (.int v)) := by
  unfold cel
  rw [hs]
  show Sum.inr (c, _) = Sum.inr (c, _)
  rw [fset (f := fvl b I L R a c) (v := .int v)]
  · simp [fvl, hk, ui, upd]
  · intro i hi
    simp [fvl, ui, upd, hi]
theorem cel_ul_o {v : Int64} (hs : sh a = .inl c) (hk : kdo (ftp c j) = 1) : cel b dA sh I (ul L a j v) R a = .inr (c, ((List.range (nfl c)).map (fvl b I L R a c)).set j (.long v)) := by
  unfold cel
  rw [hs]
  show Sum.inr (c, _) = Sum.inr (c, _)
  rw [fset (f := fvl b I L R a c) (v := .long v)]
  · simp [fvl, hk, ul, vp_updL]
  · intro i hi
    simp [fvl, ul, vp_updL, hi]
theorem cel_ur_o {v : Option Nat} (hs : sh a = .inl c) (hk : kdo (ftp c j) = 2) : cel b dA sh I L (ur R a j v) a = .inr (c, ((List.range (nfl c)).map (fvl b I L R a c)).set j (va_rf (v.map (b + ·)))) := by
  unfold cel
  rw [hs]
  show Sum.inr (c, _) = Sum.inr (c, _)
  rw [fset (f := fvl b I L R a c) (v := va_rf (v.map (b + ·)))]
  · simp [fvl, hk, ur, va_up]
  · intro i hi
    simp [fvl, ur, va_up, hi]
theorem cel_o (hs : sh a = .inl c) : cel b dA sh I L R a = .inr (c, (List.range (nfl c)).map (fvl b I L R a c)) := by
  unfold cel; rw [hs]; rfl
theorem cel_i {len : Nat} (hs : sh a = .inr (t, len)) (h1 : t ≠ 1) (h4 : t < 4) : cel b dA sh I L R a = .inl (dA t, len, .inl (I a)) := by
  unfold cel; rw [hs]; simp [celo, act, h1, h4]
theorem cel_l {len : Nat} (hs : sh a = .inr (1, len)) : cel b dA sh I L R a = .inl (dA 1, len, .inr (.inl (L a))) := by
  unfold cel; rw [hs]; simp [celo, act]
theorem cel_q {len : Nat} (hs : sh a = .inr (t, len)) (h4 : 4 ≤ t) : cel b dA sh I L R a = .inl (dA t, len, .inr (.inr (.inr (.inr (fun j => (R a j).map (b + ·)))))) := by
  unfold cel; rw [hs]; simp [celo, act, show ¬ t = 1 by omega, show ¬ t < 4 by omega]
theorem ur_q {v : Option Nat} : (fun z => (ur R a j v a z).map (b + ·)) = va_up (fun z => (R a z).map (b + ·)) j (v.map (b + ·)) := by
  funext z
  by_cases h : z = j <;> simp [ur, va_up, h]
end
section
variable {y : MethodName} {cc : ByteArray} {nL : Nat} {ret : Option FieldType} {k mc ms NF : Nat} {Q : QT} {b : Nat} {ad : Nat → Nat} {x0 : Bool} {cu su pc : Nat} {lv tl : List (Option Value)} {st rest : List Value} {N : Nat} {sh : HS} {I : HI} {L : HL} {R : HR}
theorem v_dup2 {v w : Value} (hd : decode cc pc = .ok (.dup2, 1)) (hv : v.category = 1) (hw : w.category = 1) (h : V y cc nL ret k mc ms NF Q b ad x0 cu su (pc + 1) lv (v :: w :: v :: w :: rest) N sh I L R) : V y cc nL ret k mc ms NF Q b ad x0 cu su pc lv (v :: w :: rest) N sh I L R := fun p l e s m args below meth c H locs D dA ls hc => lv_dup2_11 hc.1 hc.2.1 hd hv hw (h p l e s m args below meth c H locs D dA ls hc)
theorem v_lcmp {x z : Int64} (hd : decode cc pc = .ok (.lcmp, 1)) (h : V y cc nL ret k mc ms NF Q b ad x0 cu su (pc + 1) lv (.int (lg_cmp x z) :: rest) N sh I L R) : V y cc nL ret k mc ms NF Q b ad x0 cu su pc lv (.long z :: .long x :: rest) N sh I L R := by
  intro p l e s m args below meth c H locs D dA ls hc
  exact W.lcmp hc.1 hc.2.1 hd (h p l e s m args below meth c H locs D dA ls hc)
theorem v_getv {a c j idx t : Nat} {v : Value} (hd : decode cc pc = .ok (.getfield idx, 3)) (hf : GF y.cls idx c j t) (hs : sh a = .inl c) (ha : a < N) (hv : fvl b I L R a c j = v) (h : V y cc nL ret k mc ms NF Q b ad x0 cu su (pc + 3) lv (v :: rest) N sh I L R) : V y cc nL ret k mc ms NF Q b ad x0 cu su pc lv (.ref (b + a) :: rest) N sh I L R := by
  intro p l e s m args below meth c0 H locs D dA ls hc
  obtain ⟨h1, h2, h3, h4, h5, h6, h7, h8, h9, h10, h11, h12, h13, h14, h15⟩ := id hc
  obtain ⟨f1, f2, f3, f4⟩ := hf
  obtain ⟨g1, g2, g3, g4, g5⟩ := clf c f1
  have he : (wld b dA N sh I L R)[a]? = some (b + a, .inr (c, (List.range (nfl c)).map (fvl b I L R a c))) := by rw [wld_at ha, cel_o hs]
  refine va_get (D := D) (C := (xq c).1) (T := (xq c).2.1) (N := (xq c).2.2) h1 h2 h8 g3 h7 h9 h10 a he g1 j f2 (h8 _ f4) (fun _ q => q) (v := v) ?_ hd (h p l e s m args below meth c0 H locs D dA ls hc)
  simp [g2, f2, hv]
theorem v_getI {a c j idx : Nat} (hd : decode cc pc = .ok (.getfield idx, 3)) (hf : GF y.cls idx c j 0) (hs : sh a = .inl c) (ha : a < N) (h : V y cc nL ret k mc ms NF Q b ad x0 cu su (pc + 3) lv (.int (I a j) :: rest) N sh I L R) : V y cc nL ret k mc ms NF Q b ad x0 cu su pc lv (.ref (b + a) :: rest) N sh I L R := v_getv hd hf hs ha (by simp [fvl, hf.2.2.1]) h
theorem v_getL {a c j idx : Nat} (hd : decode cc pc = .ok (.getfield idx, 3)) (hf : GF y.cls idx c j 1) (hs : sh a = .inl c) (ha : a < N) (h : V y cc nL ret k mc ms NF Q b ad x0 cu su (pc + 3) lv (.long (L a j) :: rest) N sh I L R) : V y cc nL ret k mc ms NF Q b ad x0 cu su pc lv (.ref (b + a) :: rest) N sh I L R := v_getv hd hf hs ha (by simp [fvl, hf.2.2.1]) h
theorem v_getR {a c j idx r : Nat} (hd : decode cc pc = .ok (.getfield idx, 3)) (hf : GF y.cls idx c j 2) (hs : sh a = .inl c) (ha : a < N) (hr : R a j = some r) (h : V y cc nL ret k mc ms NF Q b ad x0 cu su (pc + 3) lv (.ref (b + r) :: rest) N sh I L R) : V y cc nL ret k mc ms NF Q b ad x0 cu su pc lv (.ref (b + a) :: rest) N sh I L R := v_getv hd hf hs ha (by simp [fvl, hf.2.2.1, hr, va_rf]) h
theorem v_putv {a c j idx t : Nat} {v : Value} {I' : HI} {L' : HL} {R' : HR} (hd : decode cc pc = .ok (.putfield idx, 3)) (hf : GF y.cls idx c j t) (hs : sh a = .inl c) (ha : a < N) (hn : narrow (ftp c j) v = v) (hfit : fits (ftp c j) v = true) (hfin : ((xq c).2.1 j).2.2.2 = false ∨ (((xq c).2.1 j).2.2.2 = true ∧ y.name = "<init>" ∧ ((xq c).2.1 j).1 = y.cls))
    (hw : ∀ dA, cel b dA sh I' L' R' a = .inr (c, ((List.range (nfl c)).map (fvl b I L R a c)).set j v)) (hw2 : ∀ dA x, x ≠ a → cel b dA sh I' L' R' x = cel b dA sh I L R x) (h : V y cc nL ret k mc ms NF Q b ad x0 cu su (pc + 3) lv rest N sh I' L' R') : V y cc nL ret k mc ms NF Q b ad x0 cu su pc lv (v :: .ref (b + a) :: rest) N sh I L R := by
  intro p l e s m args below meth c0 H locs D dA ls hc
  obtain ⟨h1, h2, h3, h4, h5, h6, h7, h8, h9, h10, h11, h12, h13, h14, h15⟩ := id hc
  obtain ⟨f1, f2, f3, f4⟩ := hf
  obtain ⟨g1, g2, g3, g4, g5⟩ := clf c f1
  have he : (wld b dA N sh I L R)[a]? = some (b + a, .inr (c, (List.range (nfl c)).map (fvl b I L R a c))) := by rw [wld_at ha, cel_o hs]
  have kk : ∀ (H1 : Heap) (locs1 : List Loc), va_P D xcl ((wld b dA N sh I L R).set a (b + a, .inr (c, ((List.range (nfl c)).map (fvl b I L R a c)).set j v))) H1 → va_D (fun q => b ≤ q) ((wld b dA N sh I L R).set a (b + a, .inr (c, ((List.range (nfl c)).map (fvl b I L R a c)).set j v))) → va_S (fun q => b ≤ q) s.heap H1 locs1 → W p l e (rmo k mc ms) s m args below meth c0 H1 locs1 cu su (MQ below (Qo b D dA NF Q) args s mc ms (fun q => b ≤ q)) (F0 m (pc + 3) ls rest) := by
    intro H1 locs1 hP1 _ hS1
    rw [wld_put (hw dA) (hw2 dA)] at hP1
    exact h p l e s m args below meth c0 H1 locs1 D dA ls ⟨h1, h2, h3, h4, h5, h6, h7, h8, h9, hP1, hS1, h12, h13, h14, h15⟩
  rcases hfin with hfin | ⟨hfin, hin, hdc⟩
  · exact va_put (D := D) (C := (xq c).1) (T := (xq c).2.1) (N := (xq c).2.2) h1 h2 h8 g3 (ftp c) g4 g5 h7 h9 h10 wld_D h11 a he g1 j f2 (h8 _ f4) (fun _ q => q) hfin (g4 j f2) hn hfit (by simp [g2, f2]) hd kk
  · exact va_putF (D := D) (C := (xq c).1) (T := (xq c).2.1) (N := (xq c).2.2) h1 h2 h8 g3 (ftp c) g4 g5 h7 h9 h10 wld_D h11 a he g1 j f2 (h8 _ f4) (fun _ q => q) hfin (h6.trans hin) hdc (g4 j f2) hn hfit (by simp [g2, f2]) hd kk
theorem v_putI {a c j idx : Nat} {v : Int32} (hd : decode cc pc = .ok (.putfield idx, 3)) (hf : GF y.cls idx c j 0) (hs : sh a = .inl c) (ha : a < N) (hn : narrow (ftp c j) (.int v) = .int v) (hfit : fits (ftp c j) (.int v) = true) (hfin : ((xq c).2.1 j).2.2.2 = false ∨ (((xq c).2.1 j).2.2.2 = true ∧ y.name = "<init>" ∧ ((xq c).2.1 j).1 = y.cls)) (h : V y cc nL ret k mc ms NF Q b ad x0 cu su (pc + 3) lv rest N sh (ui I a j v) L R) : V y cc nL ret k mc ms NF Q b ad x0 cu su pc lv (.int v :: .ref (b + a) :: rest) N sh I L R := v_putv hd hf hs ha hn hfit hfin (fun dA => cel_ui_o hs hf.2.2.1) (fun dA x hx => cel_ui_ne hx) h
theorem v_putL {a c j idx : Nat} {v : Int64} (hd : decode cc pc = .ok (.putfield idx, 3)) (hf : GF y.cls idx c j 1) (hs : sh a = .inl c) (ha : a < N) (hn : narrow (ftp c j) (.long v) = .long v) (hfit : fits (ftp c j) (.long v) = true) (hfin : ((xq c).2.1 j).2.2.2 = false ∨ (((xq c).2.1 j).2.2.2 = true ∧ y.name = "<init>" ∧ ((xq c).2.1 j).1 = y.cls)) (h : V y cc nL ret k mc ms NF Q b ad x0 cu su (pc + 3) lv rest N sh I (ul L a j v) R) : V y cc nL ret k mc ms NF Q b ad x0 cu su pc lv (.long v :: .ref (b + a) :: rest) N sh I L R := v_putv hd hf hs ha hn hfit hfin (fun dA => cel_ul_o hs hf.2.2.1) (fun dA x hx => cel_ul_ne hx) h
theorem v_putR {a c j idx r : Nat} (hd : decode cc pc = .ok (.putfield idx, 3)) (hf : GF y.cls idx c j 2) (hs : sh a = .inl c) (ha : a < N) (hn : narrow (ftp c j) (.ref (b + r)) = .ref (b + r)) (hfit : fits (ftp c j) (.ref (b + r)) = true) (hfin : ((xq c).2.1 j).2.2.2 = false ∨ (((xq c).2.1 j).2.2.2 = true ∧ y.name = "<init>" ∧ ((xq c).2.1 j).1 = y.cls)) (h : V y cc nL ret k mc ms NF Q b ad x0 cu su (pc + 3) lv rest N sh I L (ur R a j (some r))) : V y cc nL ret k mc ms NF Q b ad x0 cu su pc lv (.ref (b + r) :: .ref (b + a) :: rest) N sh I L R := v_putv hd hf hs ha hn hfit hfin (fun dA => by rw [cel_ur_o hs hf.2.2.1]; rfl) (fun dA x hx => cel_ur_ne hx) h
theorem v_iald {a len : Nat} {i : Int32} (hd : decode cc pc = .ok (.iaload, 1)) (hs : sh a = .inr (0, len)) (ha : a < N) (hin : vp_in i len) (h : V y cc nL ret k mc ms NF Q b ad x0 cu su (pc + 1) lv (.int (I a i.toNatClampNeg) :: rest) N sh I L R) : V y cc nL ret k mc ms NF Q b ad x0 cu su pc lv (.int i :: .ref (b + a) :: rest) N sh I L R := by
  intro p l e s m args below meth c0 H locs D dA ls hc
  obtain ⟨h1, h2, h3, h4, h5, h6, h7, h8, h9, h10, h11, h12, h13, h14, h15⟩ := id hc
  exact va_iald h1 h2 h9 h10 a 0 (by rw [wld_at ha, cel_i hs (by decide) (by decide)]) (tysl_at (by decide) rfl) hin hd (h p l e s m args below meth c0 H locs D dA ls hc)
theorem v_bald {a len : Nat} {i : Int32} (hd : decode cc pc = .ok (.baload, 1)) (hs : sh a = .inr (2, len)) (ha : a < N) (hin : vp_in i len) (h : V y cc nL ret k mc ms NF Q b ad x0 cu su (pc + 1) lv (.int (I a i.toNatClampNeg) :: rest) N sh I L R) : V y cc nL ret k mc ms NF Q b ad x0 cu su pc lv (.int i :: .ref (b + a) :: rest) N sh I L R := by
  intro p l e s m args below meth c0 H locs D dA ls hc
  obtain ⟨h1, h2, h3, h4, h5, h6, h7, h8, h9, h10, h11, h12, h13, h14, h15⟩ := id hc
  exact va_bald h1 h2 h9 h10 a 2 (by rw [wld_at ha, cel_i hs (by decide) (by decide)]) (tysl_at (by decide) rfl) hin hd (h p l e s m args below meth c0 H locs D dA ls hc)
theorem v_zald {a len : Nat} {i : Int32} (hd : decode cc pc = .ok (.baload, 1)) (hs : sh a = .inr (3, len)) (ha : a < N) (hin : vp_in i len) (h : V y cc nL ret k mc ms NF Q b ad x0 cu su (pc + 1) lv (.int (I a i.toNatClampNeg) :: rest) N sh I L R) : V y cc nL ret k mc ms NF Q b ad x0 cu su pc lv (.int i :: .ref (b + a) :: rest) N sh I L R := by
  intro p l e s m args below meth c0 H locs D dA ls hc
  obtain ⟨h1, h2, h3, h4, h5, h6, h7, h8, h9, h10, h11, h12, h13, h14, h15⟩ := id hc
  exact va_zald h1 h2 h9 h10 a 3 (by rw [wld_at ha, cel_i hs (by decide) (by decide)]) (tysl_at (by decide) rfl) hin hd (h p l e s m args below meth c0 H locs D dA ls hc)
theorem v_lald {a len : Nat} {i : Int32} (hd : decode cc pc = .ok (.laload, 1)) (hs : sh a = .inr (1, len)) (ha : a < N) (hin : vp_in i len) (h : V y cc nL ret k mc ms NF Q b ad x0 cu su (pc + 1) lv (.long (L a i.toNatClampNeg) :: rest) N sh I L R) : V y cc nL ret k mc ms NF Q b ad x0 cu su pc lv (.int i :: .ref (b + a) :: rest) N sh I L R := by
  intro p l e s m args below meth c0 H locs D dA ls hc
  obtain ⟨h1, h2, h3, h4, h5, h6, h7, h8, h9, h10, h11, h12, h13, h14, h15⟩ := id hc
  exact va_lald h1 h2 h9 h10 a 1 (by rw [wld_at ha, cel_l hs]) (tysl_at (by decide) rfl) hin hd (h p l e s m args below meth c0 H locs D dA ls hc)
theorem v_aald {a len t r : Nat} {C : String} {i : Int32} (hd : decode cc pc = .ok (.aaload, 1)) (hs : sh a = .inr (t, len)) (ha : a < N) (ht : 4 ≤ t) (ht9 : t < 9) (hC : atys.getD t .int = .object C) (hin : vp_in i len) (hr : R a i.toNatClampNeg = some r) (h : V y cc nL ret k mc ms NF Q b ad x0 cu su (pc + 1) lv (.ref (b + r) :: rest) N sh I L R) : V y cc nL ret k mc ms NF Q b ad x0 cu su pc lv (.int i :: .ref (b + a) :: rest) N sh I L R := by
  intro p l e s m args below meth c0 H locs D dA ls hc
  obtain ⟨h1, h2, h3, h4, h5, h6, h7, h8, h9, h10, h11, h12, h13, h14, h15⟩ := id hc
  refine va_aldq (C := C) h1 h2 h9 h10 a t (by rw [wld_at ha, cel_q hs ht]) (tysl_at ht9 hC) hin hd ?_
  rw [hr]
  exact h p l e s m args below meth c0 H locs D dA ls hc
theorem v_alen {a len t : Nat} (hd : decode cc pc = .ok (.arraylength, 1)) (hs : sh a = .inr (t, len)) (ha : a < N) (ht : t < 9) (h : V y cc nL ret k mc ms NF Q b ad x0 cu su (pc + 1) lv (.int (nI len) :: rest) N sh I L R) : V y cc nL ret k mc ms NF Q b ad x0 cu su pc lv (.ref (b + a) :: rest) N sh I L R := by
  intro p l e s m args below meth c0 H locs D dA ls hc
  obtain ⟨h1, h2, h3, h4, h5, h6, h7, h8, h9, h10, h11, h12, h13, h14, h15⟩ := id hc
  refine va_alen (x := (len, act b I L R a t)) h1 h2 h9 h10 a t ?_ (tysl_at ht rfl) rfl hd (h p l e s m args below meth c0 H locs D dA ls hc)
  rw [wld_at ha]; unfold cel; rw [hs]; rfl
theorem v_iast {a len : Nat} {i v : Int32} (hd : decode cc pc = .ok (.iastore, 1)) (hs : sh a = .inr (0, len)) (ha : a < N) (hin : vp_in i len) (h : V y cc nL ret k mc ms NF Q b ad x0 cu su (pc + 1) lv rest N sh (ui I a i.toNatClampNeg v) L R) : V y cc nL ret k mc ms NF Q b ad x0 cu su pc lv (.int v :: .int i :: .ref (b + a) :: rest) N sh I L R := by
  intro p l e s m args below meth c0 H locs D dA ls hc
  obtain ⟨h1, h2, h3, h4, h5, h6, h7, h8, h9, h10, h11, h12, h13, h14, h15⟩ := id hc
  refine va_iast h1 h2 h9 h10 wld_D h11 a 0 (by rw [wld_at ha, cel_i hs (by decide) (by decide)]) (tysl_at (by decide) rfl) hin hd (fun H1 locs1 hP1 _ hS1 => ?_)
  rw [wld_put (sh' := sh) (I' := ui I a i.toNatClampNeg v) (L' := L) (R' := R) (by rw [cel_i hs (by decide) (by decide)]; simp [ui]) (fun x hx => cel_ui_ne hx)] at hP1
  exact h p l e s m args below meth c0 H1 locs1 D dA ls ⟨h1, h2, h3, h4, h5, h6, h7, h8, h9, hP1, hS1, h12, h13, h14, h15⟩
theorem v_bast {a len : Nat} {i v : Int32} (hd : decode cc pc = .ok (.bastore, 1)) (hs : sh a = .inr (2, len)) (ha : a < N) (hin : vp_in i len) (h : V y cc nL ret k mc ms NF Q b ad x0 cu su (pc + 1) lv rest N sh (ui I a i.toNatClampNeg (vp_nar .byte v)) L R) : V y cc nL ret k mc ms NF Q b ad x0 cu su pc lv (.int v :: .int i :: .ref (b + a) :: rest) N sh I L R := by
  intro p l e s m args below meth c0 H locs D dA ls hc
  obtain ⟨h1, h2, h3, h4, h5, h6, h7, h8, h9, h10, h11, h12, h13, h14, h15⟩ := id hc
  refine va_bast h1 h2 h9 h10 wld_D h11 a 2 (by rw [wld_at ha, cel_i hs (by decide) (by decide)]) (tysl_at (by decide) rfl) hin hd (fun H1 locs1 hP1 _ hS1 => ?_)
  rw [wld_put (sh' := sh) (I' := ui I a i.toNatClampNeg (vp_nar .byte v)) (L' := L) (R' := R) (by rw [cel_i hs (by decide) (by decide)]; simp [ui]) (fun x hx => cel_ui_ne hx)] at hP1
  exact h p l e s m args below meth c0 H1 locs1 D dA ls ⟨h1, h2, h3, h4, h5, h6, h7, h8, h9, hP1, hS1, h12, h13, h14, h15⟩
theorem v_zast {a len : Nat} {i v : Int32} (hd : decode cc pc = .ok (.bastore, 1)) (hs : sh a = .inr (3, len)) (ha : a < N) (hin : vp_in i len) (h : V y cc nL ret k mc ms NF Q b ad x0 cu su (pc + 1) lv rest N sh (ui I a i.toNatClampNeg (vp_nar .boolean v)) L R) : V y cc nL ret k mc ms NF Q b ad x0 cu su pc lv (.int v :: .int i :: .ref (b + a) :: rest) N sh I L R := by
  intro p l e s m args below meth c0 H locs D dA ls hc
  obtain ⟨h1, h2, h3, h4, h5, h6, h7, h8, h9, h10, h11, h12, h13, h14, h15⟩ := id hc
  refine va_zast h1 h2 h9 h10 wld_D h11 a 3 (by rw [wld_at ha, cel_i hs (by decide) (by decide)]) (tysl_at (by decide) rfl) hin hd (fun H1 locs1 hP1 _ hS1 => ?_)
  rw [wld_put (sh' := sh) (I' := ui I a i.toNatClampNeg (vp_nar .boolean v)) (L' := L) (R' := R) (by rw [cel_i hs (by decide) (by decide)]; simp [ui]) (fun x hx => cel_ui_ne hx)] at hP1
  exact h p l e s m args below meth c0 H1 locs1 D dA ls ⟨h1, h2, h3, h4, h5, h6, h7, h8, h9, hP1, hS1, h12, h13, h14, h15⟩
theorem v_last {a len : Nat} {i : Int32} {v : Int64} (hd : decode cc pc = .ok (.lastore, 1)) (hs : sh a = .inr (1, len)) (ha : a < N) (hin : vp_in i len) (h : V y cc nL ret k mc ms NF Q b ad x0 cu su (pc + 1) lv rest N sh I (ul L a i.toNatClampNeg v) R) : V y cc nL ret k mc ms NF Q b ad x0 cu su pc lv (.long v :: .int i :: .ref (b + a) :: rest) N sh I L R := by
  intro p l e s m args below meth c0 H locs D dA ls hc
  obtain ⟨h1, h2, h3, h4, h5, h6, h7, h8, h9, h10, h11, h12, h13, h14, h15⟩ := id hc
  refine va_last h1 h2 h9 h10 wld_D h11 a 1 (by rw [wld_at ha, cel_l hs]) (tysl_at (by decide) rfl) hin hd (fun H1 locs1 hP1 _ hS1 => ?_)
  rw [wld_put (sh' := sh) (I' := I) (L' := ul L a i.toNatClampNeg v) (R' := R) (by rw [cel_l hs]; simp [ul]) (fun x hx => cel_ul_ne hx)] at hP1
  exact h p l e s m args below meth c0 H1 locs1 D dA ls ⟨h1, h2, h3, h4, h5, h6, h7, h8, h9, hP1, hS1, h12, h13, h14, h15⟩
theorem v_aast {a len t r c : Nat} {i : Int32} (hd : decode cc pc = .ok (.aastore, 1)) (hs : sh a = .inr (t, len)) (ha : a < N) (ht : 4 ≤ t) (ht9 : t < 9) (hr : sh r = .inl c) (hrN : r < N) (hc13 : c < 13) (hC : atys.getD t .int = .object (xq c).1) (hin : vp_in i len) (h : V y cc nL ret k mc ms NF Q b ad x0 cu su (pc + 1) lv rest N sh I L (ur R a i.toNatClampNeg (some r))) : V y cc nL ret k mc ms NF Q b ad x0 cu su pc lv (.ref (b + r) :: .int i :: .ref (b + a) :: rest) N sh I L R := by
  intro p l e s m args below meth c0 H locs D dA ls hc
  obtain ⟨h1, h2, h3, h4, h5, h6, h7, h8, h9, h10, h11, h12, h13, h14, h15⟩ := id hc
  obtain ⟨g1, g2, g3, g4, g5⟩ := clf c hc13
  refine va_astq h1 h2 h9 h10 wld_D h11 a t r c (r := xq c) (by rw [wld_at ha, cel_q hs ht]) (tysl_at ht9 hC) (by rw [wld_at hrN, cel_o hr]) g1 hin hd (fun H1 locs1 hP1 _ hS1 => ?_)
  rw [wld_put (sh' := sh) (I' := I) (L' := L) (R' := ur R a i.toNatClampNeg (some r)) (by rw [cel_q hs ht, ur_q]; rfl) (fun x hx => cel_ur_ne hx)] at hP1
  exact h p l e s m args below meth c0 H1 locs1 D dA ls ⟨h1, h2, h3, h4, h5, h6, h7, h8, h9, hP1, hS1, h12, h13, h14, h15⟩
theorem v_iret {v : Int32} (hd : decode cc pc = .ok (.ireturn, 1)) (hr : ret = some .int := by rfl) (hcu : cu = mc := by rfl) (hsu : su = ms := by rfl) (hN : N = NF := by rfl) (hq : Q (some (.int v)) sh I L R) : V y cc nL ret k mc ms NF Q b ad x0 cu su pc lv [.int v] N sh I L R := by
  intro p l e s m args below meth c0 H locs D dA ls hc
  obtain ⟨h1, h2, h3, h4, h5, h6, h7, h8, h9, h10, h11, h12, h13, h14, h15⟩ := id hc
  subst hcu hsu hN
  exact W.iret h1 h2 (h4.trans hr) (fun t ht hW => ⟨(some (.int v)), sh, I, L, R, rfl, hq, by rw [ht]; exact h10, h11.F ht⟩) h11.2.2 hd h5
theorem v_zret {v : Int32} (hd : decode cc pc = .ok (.ireturn, 1)) (hv : narrow .boolean (.int v) = .int v) (hr : ret = some .boolean := by rfl) (hcu : cu = mc := by rfl) (hsu : su = ms := by rfl) (hN : N = NF := by rfl) (hq : Q (some (.int v)) sh I L R) : V y cc nL ret k mc ms NF Q b ad x0 cu su pc lv [.int v] N sh I L R := by
  intro p l e s m args below meth c0 H locs D dA ls hc
  obtain ⟨h1, h2, h3, h4, h5, h6, h7, h8, h9, h10, h11, h12, h13, h14, h15⟩ := id hc
  subst hcu hsu hN
  exact W.zret h1 h2 (h4.trans hr) hv (fun t ht hW => ⟨(some (.int v)), sh, I, L, R, rfl, hq, by rw [ht]; exact h10, h11.F ht⟩) h11.2.2 hd h5
theorem v_lret {v : Int64} (hd : decode cc pc = .ok (.lreturn, 1)) (hr : ret = some .long := by rfl) (hcu : cu = mc := by rfl) (hsu : su = ms := by rfl) (hN : N = NF := by rfl) (hq : Q (some (.long v)) sh I L R) : V y cc nL ret k mc ms NF Q b ad x0 cu su pc lv [.long v] N sh I L R := by
  intro p l e s m args below meth c0 H locs D dA ls hc
  obtain ⟨h1, h2, h3, h4, h5, h6, h7, h8, h9, h10, h11, h12, h13, h14, h15⟩ := id hc
  subst hcu hsu hN
  exact W.lret h1 h2 (h4.trans hr) (fun t ht hW => ⟨(some (.long v)), sh, I, L, R, rfl, hq, by rw [ht]; exact h10, h11.F ht⟩) h11.2.2 hd h5
theorem v_vret (hd : decode cc pc = .ok (.return_, 1)) (hr : ret = none := by rfl) (hcu : cu = mc := by rfl) (hsu : su = ms := by rfl) (hN : N = NF := by rfl) (hq : Q none sh I L R) : V y cc nL ret k mc ms NF Q b ad x0 cu su pc lv [] N sh I L R := by
  intro p l e s m args below meth c0 H locs D dA ls hc
  obtain ⟨h1, h2, h3, h4, h5, h6, h7, h8, h9, h10, h11, h12, h13, h14, h15⟩ := id hc
  subst hcu hsu hN
  exact W.vret h1 h2 (h4.trans hr) (fun t ht hW => ⟨none, sh, I, L, R, rfl, hq, by rw [ht]; exact h10, h11.F ht⟩) h11.2.2 hd h5
theorem v_aret {v : Nat} {C : String} (hd : decode cc pc = .ok (.areturn, 1)) (hr : ret = some (.object C)) (hcu : cu = mc := by rfl) (hsu : su = ms := by rfl) (hN : N = NF := by rfl) (hq : Q (some (.ref v)) sh I L R) : V y cc nL ret k mc ms NF Q b ad x0 cu su pc lv [.ref v] N sh I L R := by
  intro p l e s m args below meth c0 H locs D dA ls hc
  obtain ⟨h1, h2, h3, h4, h5, h6, h7, h8, h9, h10, h11, h12, h13, h14, h15⟩ := id hc
  subst hcu hsu hN
  exact W.aret h1 h2 (h4.trans hr) (Or.inl ⟨C, rfl⟩) (Or.inr ⟨v, rfl⟩) (fun t ht hW => ⟨(some (.ref v)), sh, I, L, R, rfl, hq, by rw [ht]; exact h10, h11.F ht⟩) h11.2.2 hd h5
theorem v_ldcS {index i : Nat} (hd : decode cc pc = .ok (.ldc index, 2)) (hi : i < 56) (ho : (strs.getD i ("", 0, "")).1 = y.cls) (hx : (strs.getD i ("", 0, "")).2.1 = index) (h : V y cc nL ret k mc ms NF Q b ad x0 cu su (pc + 2) lv (.ref (ad i) :: rest) N sh I L R) : V y cc nL ret k mc ms NF Q b ad x0 cu su pc lv rest N sh I L R := by
  intro p l e s m args below meth c0 H locs D dA ls hc
  obtain ⟨h1, h2, h3, h4, h5, h6, h7, h8, h9, h10, h11, h12, h13, h14, h15⟩ := id hc
  have hZ := h13.1 i hi
  rw [ho, hx] at hZ
  exact va_ldcS h1 h2 h7 hZ hd (h p l e s m args below meth c0 H locs D dA ls hc)
theorem v_objI {index a : Nat} (hd : decode cc pc = .ok (.invokespecial index, 3)) (hl : Cond.methodLink y.cls index objectInit ∈ UU) (h2i : Cond.instanceMethod objectInit ∈ UU) (h3i : Cond.code objectInit ⟨#[0xb1]⟩ 1 none ∈ UU) (hk : 1 ≤ k) (hst : (rest.map fun v => v.category).sum ≤ 8) (h : V y cc nL ret k mc ms NF Q b ad x0 cu su (pc + 3) lv rest N sh I L R) : V y cc nL ret k mc ms NF Q b ad x0 cu su pc lv (.ref a :: rest) N sh I L R := by
  intro p l e s m args below meth c0 H locs D dA ls hc
  obtain ⟨h1, h2, h3, h4, h5, h6, h7, h8, h9, h10, h11, h12, h13, h14, h15⟩ := id hc
  exact W.objInit h1 h2 h7 (h8 _ hl) (h8 _ h2i) (h8 _ h3i) rfl (h15.1.1.trans h3.symm) rfl hd hk (by show 2 * 0 + _ + 12 ≤ 100 * k; omega) (h p l e s m args below meth c0 H locs D dA ls hc)
theorem v_len {p : Program} {l : Launch} {e : Env} {s T : State} {m : MethodId} {args : Array Value} {below : List Frame} {meth : Method} {c0 : Code} {H : Heap} {locs : List Loc} {D : va_G} {dA : Nat → ClassId} {ls : Array Slot} (hc : Cx y cc nL ret b ad x0 cu lv N sh I L R p s m args meth c0 H locs D dA ls) (hT : T.heap = H) (X : Stand p l e (rmo k mc ms) s m args below meth c0 T locs cu su) : x0 = true → H.size = b + N := by
  intro hx
  obtain ⟨h1, h2, h3, h4, h5, h6, h7, h8, h9, h10, h11, h12, h13, h14, h15⟩ := hc
  have e1 := h12 hx
  have e2 : T.heap.size ≤ s.heap.size + cu := X.same.2.2.1
  rw [hT] at e2
  by_cases hN : N = 0
  · have := h11.1
    omega
  · have := (h10 (N - 1) _ (wld_at (by omega))).lt
    have e3 : b + (N - 1) < H.size := this
    omega
end
