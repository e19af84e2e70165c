/-! THE LAYER: a world of N cells at b, b+1, ..; the shape of each, its ints, longs, references -/
def UU : List Cond := lw_tbl.filter goodWord
theorem uu {i : Nat} {w : Cond} (h : lw_tbl[i]? = some w) (hg : goodWord w = true) : w ∈ UU := List.mem_filter.mpr ⟨List.mem_of_getElem? h, hg⟩
theorem uu_good : GoodIn UU UU := fun w h => ⟨h, good_of_word (List.mem_filter.mp h).2⟩
abbrev HI : Type := Nat → Nat → Int32
abbrev HL : Type := Nat → Nat → Int64
abbrev HR : Type := Nat → Nat → Option Nat
abbrev HS : Type := Nat → Nat ⊕ (Nat × Nat)
abbrev xcl : List vw_C := [(RX0, TX0, 15), (RX1, TX1, 6), (RX2, TX2, 3), (RX3, TX3, 3), (RX4, TX4, 5), (RX5, TX5, 5), (RX6, TX6, 6), (RX7, TX7, 10), (RX8, TX8, 5), (RX9, TX9, 8), (RX10, TX10, 9), (RX11, TX11, 11), (RX12, TX12, 33)]
def nfl (c : Nat) : Nat := [15, 6, 3, 3, 5, 5, 6, 10, 5, 8, 9, 11, 33].getD c 0
def ftp (c : Nat) : Nat → FieldType := [tyX0, tyX1, tyX2, tyX3, tyX4, tyX5, tyX6, tyX7, tyX8, tyX9, tyX10, tyX11, tyX12].getD c tyX12
def kdo : FieldType → Nat
  | .long => 1
  | .object _ => 2
  | .array _ => 2
  | _ => 0
def fvl (b : Nat) (I : HI) (L : HL) (R : HR) (k c j : Nat) : Value := if kdo (ftp c j) = 0 then .int (I k j) else if kdo (ftp c j) = 1 then .long (L k j) else va_rf ((R k j).map (b + ·))
def act (b : Nat) (I : HI) (L : HL) (R : HR) (k t : Nat) : (Nat → Int32) ⊕ (Nat → Int64) ⊕ (Nat → UInt32) ⊕ (Nat → UInt64) ⊕ (Nat → Option Nat) := if t = 1 then .inr (.inl (L k)) else if t < 4 then .inl (I k) else .inr (.inr (.inr (.inr (fun j => (R k j).map (b + ·)))))
def celo (b : Nat) (dA : Nat → ClassId) (I : HI) (L : HL) (R : HR) (k : Nat) : Nat ⊕ (Nat × Nat) → va_E
  | .inl c => .inr (c, (List.range (nfl c)).map (fvl b I L R k c))
  | .inr tl => .inl (dA tl.1, tl.2, act b I L R k tl.1)
def cel (b : Nat) (dA : Nat → ClassId) (sh : HS) (I : HI) (L : HL) (R : HR) (k : Nat) : va_E := celo b dA I L R k (sh k)
def wld (b : Nat) (dA : Nat → ClassId) (N : Nat) (sh : HS) (I : HI) (L : HL) (R : HR) : va_W := (List.range N).map (fun k => (b + k, cel b dA sh I L R k))
def atys : List FieldType := [.int, .long, .byte, .boolean, .object RX3, .object RX4, .object RX6, .object RX8, .object RX2]
def tysl (dA : Nat → ClassId) : List (ClassId × FieldType) := (List.range 9).map (fun t => (dA t, atys.getD t .int))
def ui (I : HI) (a k : Nat) (v : Int32) : HI := fun x => if x = a then upd (I a) k v else I x
def ul (L : HL) (a k : Nat) (v : Int64) : HL := fun x => if x = a then vp_updL (L a) k v else L x
def ur (R : HR) (a k : Nat) (v : Option Nat) : HR := fun x => if x = a then va_up (R a) k v else R x
def us (sh : HS) (a : Nat) (v : Nat ⊕ (Nat × Nat)) : HS := fun x => if x = a then v else sh x
theorem ui_s (I : HI) (a k : Nat) (v : Int32) : ui I a k v a k = v := by simp [ui, upd]
theorem ui_n (I : HI) {a k x j : Nat} (v : Int32) (h : x ≠ a ∨ j ≠ k) : ui I a k v x j = I x j := by
  rcases h with h | h
  · simp [ui, h]
  · by_cases e : x = a
    · subst e; simp [ui, upd, h]
    · simp [ui, e]
theorem wld_at {b : Nat} {dA : Nat → ClassId} {N : Nat} {sh : HS} {I : HI} {L : HL} {R : HR} {k : Nat} (h : k < N) : (wld b dA N sh I L R)[k]? = some (b + k, cel b dA sh I L R k) := by
  simp [wld, h]
theorem wld_D {b : Nat} {dA : Nat → ClassId} {N : Nat} {sh : HS} {I : HI} {L : HL} {R : HR} : va_D (fun q => b ≤ q) (wld b dA N sh I L R) := by
  have key : ∀ (i : Nat) (q : Nat × va_E), (wld b dA N sh I L R)[i]? = some q → q.1 = b + i := by
    intro i q h
    by_cases hi : i < N
    · rw [wld_at hi] at h; cases h; rfl
    · simp [wld, hi] at h
  refine ⟨fun i j x y hx hy e => ?_, fun k q hq => ?_⟩
  · have h1 := key i x hx
    have h2 := key j y hy
    omega
  · have h1 := key k q hq
    show b ≤ q.1
    omega
theorem wld_put {b : Nat} {dA : Nat → ClassId} {N : Nat} {sh sh' : HS} {I I' : HI} {L L' : HL} {R R' : HR} {a : Nat} {e : va_E} (he : cel b dA sh' I' L' R' a = e) (h : ∀ x, x ≠ a → cel b dA sh' I' L' R' x = cel b dA sh I L R x) : (wld b dA N sh I L R).set a (b + a, e) = wld b dA N sh' I' L' R' := by
  subst he
  apply List.ext_getElem?
  intro i
  by_cases hi : i < N
  · rw [wld_at hi]
    by_cases e : a = i
    · subst e
      rw [List.getElem?_set_self (by simp [wld, hi])]
    · rw [List.getElem?_set_ne e, wld_at hi, h i (fun q => e q.symm)]
  · simp [wld, hi]
theorem tysl_at {dA : Nat → ClassId} {t : Nat} {ty : FieldType} (h : t < 9) (hty : atys.getD t .int = ty) : (tysl dA)[t]? = some (dA t, ty) := by
  subst hty
  simp [tysl, h]
theorem wld_push {b : Nat} {dA : Nat → ClassId} {N : Nat} {sh sh' : HS} {I I' : HI} {L L' : HL} {R R' : HR} {e : va_E} (he : cel b dA sh' I' L' R' N = e) (h : ∀ x, x < N → cel b dA sh' I' L' R' x = cel b dA sh I L R x) : wld b dA N sh I L R ++ [(b + N, e)] = wld b dA (N + 1) sh' I' L' R' := by
  subst he
  rw [wld, wld, List.range_succ, List.map_append]
  congr 1
  apply List.map_congr_left
  intro x hx
  rw [h x (List.mem_range.mp hx)]
def strs : List (String × Nat × String) := [("LentMasks$Reader", 29, "town"), ("LentMasks$Reader", 35, "work"), ("LentMasks$Reader", 37, "mask"), ("LentMasks$Reader", 39, "person"), ("LentMasks$Reader", 41, "promise"), ("LentMasks$Reader", 43, "lent"), ("LentMasks$Reader", 45, "seen"), ("LentMasks$Reader", 47, "letter"), ("LentMasks$Reader", 49, "break"), ("LentMasks$Reader", 51, "child"), ("LentMasks$Reader", 53, "habit"), ("LentMasks$Reader", 55, "does"), ("LentMasks$Reader", 57, "size"), ("LentMasks$Reader", 149, "days"), ("LentMasks$Reader", 315, "plain"), ("LentMasks$Reader", 317, "foreign"), ("LentMasks$Reader", 319, "double"), ("LentMasks$Reader", 321, "king"), ("LentMasks$Reader", 181, "credit"), ("LentMasks$Reader", 192, "honour"), ("LentMasks$Reader", 233, "on"), ("LentMasks$Reader", 238, "worth"), ("LentMasks$Reader", 242, "fine"), ("LentMasks$Reader", 246, "effort"), ("LentMasks$Reader", 259, "to"), ("LentMasks$Reader", 264, "from"), ("LentMasks$Reader", 266, "until"), ("LentMasks$Reader", 287, "hour"), ("LentMasksModel", 123, "town"), ("LentMasksModel", 233, "days"), ("LentMasksModel", 125, "work"), ("LentMasksModel", 127, "mask"), ("LentMasksModel", 129, "person"), ("LentMasksModel", 131, "promise"), ("LentMasksModel", 133, "lent"), ("LentMasksModel", 135, "seen"), ("LentMasksModel", 137, "letter"), ("LentMasksModel", 139, "break"), ("LentMasksModel", 141, "child"), ("LentMasksModel", 143, "habit"), ("LentMasksModel", 145, "does"), ("LentMasksModel", 147, "size"), ("LentMasksModel", 250, "plain"), ("LentMasksModel", 252, "foreign"), ("LentMasksModel", 254, "double"), ("LentMasksModel", 256, "king"), ("LentMasksModel", 258, "credit"), ("LentMasksModel", 260, "honour"), ("LentMasksModel", 265, "on"), ("LentMasksModel", 271, "worth"), ("LentMasksModel", 273, "fine"), ("LentMasksModel", 275, "effort"), ("LentMasksModel", 277, "to"), ("LentMasksModel", 279, "from"), ("LentMasksModel", 281, "until"), ("LentMasksModel", 291, "hour")]
def nests : List (String × Nat × MethodName) := [("LentMasks$Book", 47, ⟨"LentMasks$Ledger", "<init>", "()V"⟩), ("LentMasks$Book", 52, ⟨"LentMasks$Mask", "<init>", "()V"⟩), ("LentMasks$Book", 53, ⟨"LentMasks$Person", "<init>", "()V"⟩), ("LentMasks$Book", 54, ⟨"LentMasks$Promise", "<init>", "()V"⟩), ("LentMasks$Book", 55, ⟨"LentMasks$Sighting", "<init>", "()V"⟩), ("LentMasks$Reader", 13, ⟨"LentMasks$Tokens", "<init>", "()V"⟩), ("LentMasks$History", 20, ⟨"LentMasks$Ledger", "<init>", "()V"⟩), ("LentMasks", 52, ⟨"LentMasks$Planner", "<init>", "()V"⟩), ("LentMasks", 59, ⟨"LentMasks$Watch", "<init>", "()V"⟩)]
def stb (t : String) : List Int32 := t.toList.map (fun c => nI c.toNat)
def SX (b : Nat) (ad : Nat → Nat) (s : State) (H : Heap) : Prop :=
  (∀ i, i < 56 → vk_R (strs.getD i ("", 0, "")).1 (strs.getD i ("", 0, "")).2.1 (strs.getD i ("", 0, "")).2.2 (ad i) s) ∧
  (∀ i, i < 56 → va_O "java/lang/String" (ad i) (fun q => b ≤ q) s H ∧ va_OF "java/lang/String" "coder" "B" (.int 0) (ad i) (fun q => b ≤ q) s H ∧ va_OF "java/lang/String" "value" "[B" (.ref (ad (56 + i))) (ad i) (fun q => b ≤ q) s H ∧ va_T .byte (ad (56 + i)) (stb (strs.getD i ("", 0, "")).2.2).length (fun j => .int ((stb (strs.getD i ("", 0, "")).2.2).getD j 0)) (fun q => b ≤ q) s H) ∧
  va_Z "java/lang/String" "COMPACT_STRINGS" "Z" (.int 1) (fun q => b ≤ q) s H ∧ va_Zq "jdk/internal/util/Preconditions" "SIOOBE_FORMATTER" "Ljava/util/function/BiFunction;" (fun q => b ≤ q) s H ∧ vx_Zq Bundle.tN "UNASSIGNED_STACK" Bundle.steD (fun q => b ≤ q) s H ∧ vx_Zq Bundle.tN "SUPPRESSED_SENTINEL" Bundle.listD (fun q => b ≤ q) s H ∧ ∀ q ∈ nests, va_Nw (.methodLinkNest q.1 q.2.1 q.2.2 "LentMasks") s
theorem SX.nest {b : Nat} {ad : Nat → Nat} {s : State} {H : Heap} (h : SX b ad s H) : ∀ q ∈ nests, va_Nw (.methodLinkNest q.1 q.2.1 q.2.2 "LentMasks") s := h.2.2.2.2.2.2
theorem SX.go {b : Nat} {ad : Nat → Nat} {s U : State} {H H1 : Heap} (h : SX b ad s H) (hW : s.WarmedH U.vm) (hq : ∀ a : Nat, a < H.size → ¬ b ≤ a → H1[a]? = H[a]?) : SX b ad U H1 := by
  obtain ⟨h1, h2, h3, h5, h6, h7, h4⟩ := h
  refine ⟨fun i hi => (h1 i hi).warm hW, fun i hi => ?_, (va_Z.moved hW.alike h3).kept hq, (va_Zq.moved hW.alike h5).kept hq, (vx_Zq.moved hW.alike h6).kept hq, (vx_Zq.moved hW.alike h7).kept hq, fun q hq => (h4 q hq).warmM hW⟩
  obtain ⟨g1, g2, g3, g4⟩ := h2 i hi
  exact ⟨(va_O.moved hW.alike g1).kept hq, (va_OF.moved hW.alike g2).kept hq, (va_OF.moved hW.alike g3).kept hq, (va_T.moved hW.alike g4).kept hq⟩
/-- locals -/
def lvO (ls : Array Slot) (nL : Nat) (lv : List (Option Value)) : Prop := lv_has ls nL [] ∧ lv.length = nL ∧ ∀ (i : Nat) (v : Value), lv[i]? = some (some v) → ls[i]? = some (.val v)
def lva (lv : List (Option Value)) : List (Nat × Value) := (List.range lv.length).filterMap (fun i => (lv.getD i none).map (fun v => (i, v)))
theorem lva_mem {lv : List (Option Value)} {i : Nat} {v : Value} : (i, v) ∈ lva lv ↔ lv[i]? = some (some v) := by
  constructor
  · intro h
    obtain ⟨j, hj, e⟩ := List.mem_filterMap.mp h
    have hj := List.mem_range.mp hj
    rw [Option.map_eq_some_iff] at e
    obtain ⟨w, h1, h2⟩ := e
    cases h2
    rw [List.getD_eq_getElem?_getD, List.getElem?_eq_getElem hj] at h1
    rw [List.getElem?_eq_getElem hj]
    exact congrArg some h1
  · intro h
    have hi : i < lv.length := (List.getElem?_eq_some_iff.mp h).1
    refine List.mem_filterMap.mpr ⟨i, List.mem_range.mpr hi, ?_⟩
    rw [List.getD_eq_getElem?_getD, h]
    rfl
def rmo (k mc ms : Nat) : Room := { frames := k, cells := mc, slots := ms, locals := 100 * k }
abbrev QT : Type := Option Value → HS → HI → HL → HR → Prop
def Qo (b : Nat) (D : va_G) (dA : Nat → ClassId) (NF : Nat) (Q : QT) : Array Value → State → Outcome → State → Prop := fun _ st oc t =>
  ∃ (r : Option Value) (sh : HS) (I : HI) (L : HL) (R : HR), oc = .returned r ∧ Q r sh I L R ∧ va_P D xcl (wld b dA NF sh I L R) t.heap ∧ va_F (fun q => b ≤ q) st t
/-- what a walk stands on; x: cells may be made (then the world is all that lies from b on) -/
def Cx (y : MethodName) (cc : ByteArray) (nL : Nat) (ret : Option FieldType) (b : Nat) (ad : Nat → Nat) (x : Bool) (cu : Nat) (lv : List (Option Value)) (N : Nat) (sh : HS) (I : HI) (L : HL) (R : HR) (p : Program) (s : State) (m : MethodId) (args : Array Value) (meth : Method) (c : Code) (H : Heap) (locs : List Loc) (D : va_G) (dA : Nat → ClassId) (ls : Array Slot) : Prop :=
  p.tables.exec = Jvm.exec ∧ c.code = cc ∧ c.maxLocals = nL ∧ meth.sig.returnType = ret ∧ meth.locks = false ∧ meth.name = y.name ∧ s.vm.findClass y.cls = some m.cls ∧ (∀ w ∈ UU, w.before args s = true) ∧ va_K D xcl (tysl dA) s ∧ va_P D xcl (wld b dA N sh I L R) H ∧ va_S (fun q => b ≤ q) s.heap H locs ∧ (x = true → s.heap.size + cu = b + N) ∧ SX b ad s s.heap ∧ b ≤ s.heap.size ∧ lvO ls nL lv
def V (y : MethodName) (cc : ByteArray) (nL : Nat) (ret : Option FieldType) (k mc ms NF : Nat) (Q : QT) (b : Nat) (ad : Nat → Nat) (x : Bool) (cu su pc : Nat) (lv : List (Option Value)) (st : List Value) (N : Nat) (sh : HS) (I : HI) (L : HL) (R : HR) : Prop :=
  ∀ (p : Program) (l : Launch) (e : Env) (s : State) (m : MethodId) (args : Array Value) (below : List Frame) (meth : Method) (c : Code) (H : Heap) (locs : List Loc) (D : va_G) (dA : Nat → ClassId) (ls : Array Slot), Cx y cc nL ret b ad x cu lv N sh I L R p s m args meth c H locs D dA ls →
    W p l e (rmo k mc ms) s m args below meth c H locs cu su (MQ below (Qo b D dA NF Q) args s mc ms (fun q => b ≤ q)) (F0 m pc ls st)
/-- a method's contract: called with these values in this world it returns, and Q holds -/
def C (k : Nat) (y : MethodName) (cc : ByteArray) (nL : Nat) (ret : Option FieldType) (mc ms b : Nat) (ad : Nat → Nat) (x : Bool) (av : List Value) (N : Nat) (sh : HS) (I : HI) (L : HL) (R : HR) (Q : QT) : Prop :=
  ∀ (l : Launch) (D : va_G) (dA : Nat → ClassId), Met l y (.code y cc nL ret :: UU) (rmo k mc ms) (va_Pc av (fun U => (x = true → U.heap.size = b + N) ∧ b ≤ U.heap.size ∧ va_P D xcl (wld b dA N sh I L R) U.heap ∧ va_K D xcl (tysl dA) U ∧ SX b ad U U.heap)) (Qo b D dA (N + mc) Q) mc ms (fun q => b ≤ q)
def lvE (av : List Value) (nL : Nat) : List (Option Value) := (av.flatMap fun v => if v.category = 2 then [some v, none] else [some v]) ++ List.replicate (nL - (lg_sl av).length) none
theorem lvE_ok {av : List Value} {nL : Nat} (h : (lg_sl av).length ≤ nL) : lvO ((lg_sl av ++ List.replicate (nL - (lg_sl av).length) Slot.unset).toArray) nL (lvE av nL) := by
  have h0 := lv_entry av h
  have hlen : ∀ vs : List Value, (vs.flatMap fun v => if v.category = 2 then [some v, none] else [some v]).length = (lg_sl vs).length := by
    intro vs
    induction vs with
    | nil => rfl
    | cons w vs ih => by_cases hc : w.category = 2 <;> simp [lg_sl, hc] at ih ⊢ <;> omega
  refine ⟨⟨h0.1, h0.2.1, fun q hq => by cases hq⟩, by rw [lvE, List.length_append, hlen]; simp; omega, fun i v hv => ?_⟩
  have key : ∀ (vs : List Value) (x : List (Option Value)) (z : List Slot), x.length = z.length → (∀ (i : Nat) (v : Value), x[i]? = some (some v) → z[i]? = some (.val v)) → ∀ (i : Nat) (v : Value), ((vs.flatMap fun v => if v.category = 2 then [some v, none] else [some v]) ++ x)[i]? = some (some v) → (lg_sl vs ++ z)[i]? = some (Slot.val v) := by
    intro vs
    induction vs with
    | nil => intro x z _ hz i v hv; simpa [lg_sl] using hz i v (by simpa using hv)
    | cons w vs ih =>
      intro x z hl hz i v hv
      by_cases hc : w.category = 2
      · have e1 : lg_sl (w :: vs) = .val w :: .second :: lg_sl vs := by simp [lg_sl, hc]
        rw [e1]
        simp only [List.flatMap_cons, hc, if_true] at hv
        match i with
        | 0 => simp at hv; subst hv; rfl
        | 1 => simp at hv
        | i + 2 => exact ih x z hl hz i v (by simpa using hv)
      · have e1 : lg_sl (w :: vs) = .val w :: lg_sl vs := by simp [lg_sl, hc]
        rw [e1]
        simp only [List.flatMap_cons, hc, if_false] at hv
        match i with
        | 0 => simp at hv; subst hv; rfl
        | i + 1 => exact ih x z hl hz i v (by simpa using hv)
  have := key av (List.replicate (nL - (lg_sl av).length) none) (List.replicate (nL - (lg_sl av).length) Slot.unset) (by simp) (fun i v h => by simp [List.getElem?_replicate] at h) i v hv
  simpa using this
theorem C.of {k : Nat} {y : MethodName} {cc : ByteArray} {nL : Nat} {ret : Option FieldType} {mc ms b : Nat} {ad : Nat → Nat} {x : Bool} {av : List Value} {N : Nat} {sh : HS} {I : HI} {L : HL} {R : HR} {Q : QT} (hp : plainName y.cls = true) (hl : (lg_sl av).length ≤ nL) (h : V y cc nL ret k mc ms (N + mc) Q b ad x 0 0 0 (lvE av nL) [] N sh I L R) : C k y cc nL ret mc ms b ad x av N sh I L R Q := by
  intro l D dA
  refine Met.ofW (cc := cc) (maxL := nL) (ret := ret) hp rfl ?_
  intro p e s m args below meth c s₁ B hml hv
  obtain ⟨rfl, hsz, hbs, hP, hK, hX⟩ := hv
  have hts := atoms_spec (ws := .code y cc nL ret :: UU) B.pre
  rw [lg_entry_eq]
  exact h p l e s m _ below meth c s.heap [] D dA _ ⟨B.exec, B.bytes, hml, B.returns, B.notSynchronized, (name_of_methodNamed B.named B.method).1, findClass_of_methodNamed B.named, fun w hw => hts w (List.mem_cons_of_mem _ hw), hK, hP, va_S.rf, hsz, hX, hbs, lvE_ok hl⟩
