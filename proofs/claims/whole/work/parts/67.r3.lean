/-- what a text may change: the reader, its tokens, its table, the book at B -/
def FrB (B : Nat) (I J : HI) (L M : HL) : Prop := (∀ x, x ≠ 88 → x ≠ 89 → x ≠ 92 → x ≠ 93 → ¬ (B ≤ x ∧ x ≤ B + 42) → J x = I x) ∧ (∀ x, x ≠ 89 → x ≠ 91 → M x = L x) ∧ (∀ i, i < 13 → M 91 i = L 91 i ∧ J 92 i = I 92 i)
/-- the reader in a line: tokens at e, the book, the ledger, breaks -/
def Md (I : HI) (L : HL) (R : HR) (B : Nat) (tp : Nat → Nat) (sz e bf : Nat) (F : bkF) (l : LSt) : Prop := RO R ∧ R 88 2 = some B ∧ SH B = .inl 0 ∧ TkI I L R tp sz e bf ∧ BkI I B F ∧ LDI I (B + 8) l.1 l.2.1 l.2.2 ∧ I 88 8 = nI (F 7) ∧ I 88 0 = nI 0
def RdC (I : HI) (L : HL) (R : HR) (B : Nat) (tp : Nat → Nat) (sz : Nat) (s : PS) (bf : Nat) : Prop := Md I L R B tp sz s.1 bf s.2.1 s.2.2 ∧ PInv sz s ∧ ∃ (cnt : Nat) (sl : Nat → Nat), NmT I L s.2.1 cnt sl ∧ TnC s.2.1 cnt sl
def LQ (I : HI) (L : HL) (R : HR) (B : Nat) (tp : Nat → Nat) (sz : Nat) (pr : PR) (Q : QT) : Prop := (∀ f p, pr = .inl (f, p) → ∀ (J : HI) (M : HL), J 88 0 = nI f → J 88 1 = nI p → FrB B I J L M → Q (some (.int 0)) SH J M R) ∧ (∀ u, pr = .inr u → ∀ (J : HI) (M : HL) (bf : Nat), RdC J M R B tp sz u bf → FrB B I J L M → Q (some (.int 1)) SH J M R)
theorem ui_row {J : HI} {x j : Nat} {v : Int32} {r : Nat → Int32} (h : J x = r) : ui J x j v x = upd r j v := by subst h; simp [ui]
theorem upd_s {r : Nat → Int32} {j : Nat} {v : Int32} : upd r j v j = v := by simp [upd]
theorem upd_o {r : Nat → Int32} {j i : Nat} {v : Int32} (h : i ≠ j) : upd r j v i = r i := by simp [upd, h]
section
variable {I J K : HI} {L M N : HL} {R : HR} {B : Nat} {tp : Nat → Nat} {sz e bf e' bf' : Nat} {F F' : bkF} {l : LSt} {cnt : Nat} {sl : Nat → Nat}
theorem shB (h : SH B = .inl 0) : B = 2 ∨ B = 45 := sh_b2 B (sh_lto h) h
theorem FrB.refl : FrB B I I L L := ⟨fun _ _ _ _ _ _ => rfl, fun _ _ _ => rfl, fun _ _ => ⟨rfl, rfl⟩⟩
theorem FrB.trans (h : FrB B I J L M) (h2 : FrB B J K M N) : FrB B I K L N := ⟨fun x a1 a2 a3 a4 a5 => (h2.1 x a1 a2 a3 a4 a5).trans (h.1 x a1 a2 a3 a4 a5), fun x a c => (h2.2.1 x a c).trans (h.2.1 x a c), fun i hi => ⟨(h2.2.2 i hi).1.trans (h.2.2 i hi).1, (h2.2.2 i hi).2.trans (h.2.2 i hi).2⟩⟩
theorem FrB.fr7 (h : FrB B I J L M) (h2 : Fr7 J K M N) : FrB B I K L N := h.trans ⟨fun x a1 a2 a3 a4 _ => h2.1 x a1 a2 a3 a4, h2.2.2.1, h2.2.2.2.1⟩
theorem FrB.fr9 {o : Bool} (h : FrB B I J L M) (h2 : Fr9 o J K M N) : FrB B I K L N := h.trans ⟨fun x a1 a2 _ _ _ => h2.1 x a1 a2, fun x a _ => h2.2.2.1 x a, fun i _ => ⟨by rw [h2.2.2.1 91 (by decide)], by rw [h2.1 92 (by decide) (by decide)]⟩⟩
theorem FrB.up (h : FrB B I J L M) {x j : Nat} {v : Int32} (hx : (B ≤ x ∧ x ≤ B + 42) ∨ x = 88) (hB : SH B = .inl 0) : FrB B I (ui J x j v) L M := by
  rcases shB hB with rfl | rfl <;> exact ⟨fun q a1 a2 a3 a4 a5 => by rw [ui_ne (by omega)]; exact h.1 q a1 a2 a3 a4 a5, h.2.1, fun i hi => ⟨(h.2.2 i hi).1, by rw [ui_ne (by omega)]; exact (h.2.2 i hi).2⟩⟩
theorem FrB.cells (h : FrB B I J L M) {a c : Nat} (ha : B ≤ a ∧ a ≤ B + 42) (hc : B ≤ c ∧ c ≤ B + 42) (hB : SH B = .inl 0) (hK : ∀ x, x ≠ a → x ≠ c → K x = J x) : FrB B I K L M := by
  rcases shB hB with rfl | rfl <;> exact ⟨fun q a1 a2 a3 a4 a5 => by rw [hK q (by omega) (by omega)]; exact h.1 q a1 a2 a3 a4 a5, h.2.1, fun i hi => ⟨(h.2.2 i hi).1, by rw [hK 92 (by omega) (by omega)]; exact (h.2.2 i hi).2⟩⟩
theorem BkI.frm (h : BkI I B F) (h0 : J B = I B) (hm : ∀ m, m < F 2 → J (B + 11 + m) = I (B + 11 + m)) (hp : ∀ m, m < F 3 → J (B + 17 + m) = I (B + 17 + m)) (ho : ∀ m, m < F 4 → J (B + 23 + m) = I (B + 23 + m)) (hs : ∀ m, m < F 5 → J (B + 35 + m) = I (B + 35 + m)) (hl : J (B + 5) = I (B + 5) ∧ J (B + 6) = I (B + 6) ∧ J (B + 7) = I (B + 7)) : BkI J B F := by
  obtain ⟨b0, b1, b2, b3, b4, b5⟩ := h
  exact ⟨fun j hj => by rw [h0]; exact b0 j hj, fun m q j hj => by rw [hm m q]; exact b1 m q j hj, fun m q j hj => by rw [hp m q]; exact b2 m q j hj, fun m q j hj => by rw [ho m q]; exact b3 m q j hj, fun m q j hj => by rw [hs m q]; exact b4 m q j hj, fun m q => by rw [hl.1, hl.2.1, hl.2.2]; exact b5 m q⟩
theorem BkI.all (h : BkI I B F) (hO : FOK F) (hx : ∀ x, B ≤ x → x ≤ B + 42 → J x = I x) : BkI J B F := by
  have o2 := hO.2.2.1
  have o3 := hO.2.2.2.1
  have o4 := hO.2.2.2.2.1
  have o5 := hO.2.2.2.2.2.1
  exact h.frm (hx _ (by omega) (by omega)) (fun m q => hx _ (by omega) (by omega)) (fun m q => hx _ (by omega) (by omega)) (fun m q => hx _ (by omega) (by omega)) (fun m q => hx _ (by omega) (by omega)) ⟨hx _ (by omega) (by omega), hx _ (by omega) (by omega), hx _ (by omega) (by omega)⟩
theorem Md.fr7 (h : Md I L R B tp sz e bf F l) (hO : FOK F) (h2 : Fr7 I J L M) (ht : TkI J M R tp sz e' bf') : Md J M R B tp sz e' bf' F l := by
  obtain ⟨a1, a2, a3, a4, a5, a6, a7⟩ := h
  have hx : ∀ x, B ≤ x → x ≤ B + 42 → J x = I x := by
    rcases shB a3 with rfl | rfl <;> exact fun x p q => h2.1 x (by omega) (by omega) (by omega) (by omega)
  exact ⟨a1, a2, a3, ht, a5.all hO hx, a6.same (hx _ (by omega) (by omega)) (hx _ (by omega) (by omega)) (hx _ (by omega) (by omega)), by rw [h2.2.1]; exact a7.1, by rw [h2.2.2.2.2]; exact a7.2⟩
theorem Md.fr9 (h : Md I L R B tp sz e bf F l) (hO : FOK F) (h2 : Fr9 true I J L M) (ht : TkI J M R tp sz e' bf') : Md J M R B tp sz e' bf' F l := h.fr7 hO h2.to7 ht
/-- a field of a thing that isn't told yet -/
theorem Md.cell (h : Md I L R B tp sz e bf F l) (hO : FOK F) {x j : Nat} {v : Int32} (hx : (B + 11 + F 2 ≤ x ∧ x < B + 17) ∨ (B + 17 + F 3 ≤ x ∧ x < B + 23) ∨ (B + 23 + F 4 ≤ x ∧ x < B + 35) ∨ (B + 35 + F 5 ≤ x ∧ x < B + 43)) : Md (ui I x j v) L R B tp sz e bf F l := by
  obtain ⟨a1, a2, a3, a4, a5, a6, a7⟩ := h
  have o2 := hO.2.2.1
  have o3 := hO.2.2.2.1
  have o4 := hO.2.2.2.2.1
  have o5 := hO.2.2.2.2.2.1
  have hb := shB a3
  exact ⟨a1, a2, a3, a4.fr (ui_ne (by omega)) (ui_ne (by omega)) rfl, a5.frm (ui_ne (by omega)) (fun m q => ui_ne (by omega)) (fun m q => ui_ne (by omega)) (fun m q => ui_ne (by omega)) (fun m q => ui_ne (by omega)) ⟨ui_ne (by omega), ui_ne (by omega), ui_ne (by omega)⟩, a6.same (ui_ne (by omega)) (ui_ne (by omega)) (ui_ne (by omega)), by rw [ui_ne (by omega)]; exact a7.1, by rw [ui_ne (by omega)]; exact a7.2⟩
theorem Md.num (h : Md I L R B tp sz e bf F l) (hO : FOK F) {v : Int32} : Md (ui I 88 9 v) L R B tp sz e bf F l := h.fr9 hO Fr9.refl.up9 h.2.2.2.1.up
theorem NmT.fr (h : NmT I L F cnt sl) (h1 : J 88 7 = I 88 7) (h2 : J 92 = I 92) (h3 : J 93 = I 93) (h4 : M 91 = L 91) : NmT J M F cnt sl := by
  obtain ⟨a1, a2, a3, a4⟩ := h
  exact ⟨by rw [h1]; exact a1, a2, fun i hi => by rw [h4, h2]; exact a3 i hi, fun i hi => by rw [h4, h2, h3]; exact a4 i hi⟩
theorem NmT.fr9 {o : Bool} (h : NmT I L F cnt sl) (h2 : Fr9 o I J L M) : NmT J M F cnt sl := h.fr (h2.2.1 7 (by decide) (by decide)) (h2.1 92 (by decide) (by decide)) (h2.1 93 (by decide) (by decide)) (h2.2.2.1 91 (by decide))
theorem NmT.up (h : NmT I L F cnt sl) {x j : Nat} {v : Int32} (hx : x < 88 ∨ (x = 88 ∧ j ≠ 7)) : NmT (ui I x j v) L F cnt sl := by
  refine h.fr ?_ (ui_ne (by omega)) (ui_ne (by omega)) rfl
  rcases hx with hx | ⟨rfl, hj⟩
  · rw [ui_ne (by omega)]
  · exact ui_o (Ne.symm hj)
theorem NmT.cong (h : NmT I L F cnt sl) (e : ∀ x, 192 ≤ x → F' x = F x) : NmT I L F' cnt sl := by
  obtain ⟨a1, a2, a3, a4⟩ := h
  exact ⟨a1, a2, a3, fun i hi => by rw [nmF_same _ (a4 i hi).1 e]; exact a4 i hi⟩
theorem TnC.cong (h : TnC F cnt sl) (e1 : F' 1 = F 1) (e2 : F' 2 = F 2) (e3 : F' 3 = F 3) : TnC F' cnt sl := by
  obtain ⟨a1, a2, a3⟩ := h
  exact ⟨fun i hi => (tn_same e1 e2 e3 _).mpr (a1 i hi), fun n hn q => a2 n hn ((tn_same e1 e2 e3 _).mp q), by rw [e1, e2, e3]; exact a3⟩
theorem TnC.new {n : Nat} (h : TnC F cnt sl) (ht : ∀ x, x < 17 → (tn F' x ↔ tn F x ∨ x = n)) (hn : n < 17) (h17 : ∀ i, i < cnt → sl i < 17) (hs : F' 1 + F' 2 + F' 3 = F 1 + F 2 + F 3 + 1) : TnC F' (cnt + 1) (fun i => if i = cnt then n else sl i) := by
  obtain ⟨a1, a2, a3⟩ := h
  refine ⟨fun i hi => ?_, fun x hx q => ?_, by omega⟩
  · by_cases e : i = cnt
    · simp only [e, if_true]; exact (ht n hn).mpr (Or.inr rfl)
    · simp only [e, if_false]; exact (ht _ (h17 i (by omega))).mpr (Or.inl (a1 i (by omega)))
  · rcases (ht x hx).mp q with z | z
    · obtain ⟨i, hi, hs⟩ := a2 x hx z
      exact ⟨i, by omega, by simp only [show i ≠ cnt by omega, if_false]; exact hs⟩
    · exact ⟨cnt, by omega, by simp only [if_true]; exact z.symm⟩
theorem bk_work (h : BkI I B F) (hO : FOK F) (hc : F 1 < 5) (ec : F' 1 = F 1 + 1) (e : ∀ x, x < 192 → x ≠ 1 → F' x = F x) (jc : J B 1 = nI (F 1 + 1)) (jB : ∀ j, j ≠ 1 → J B j = I B j) (jx : ∀ x, x ≠ B → B < x → x ≤ B + 42 → J x = I x) : BkI J B F' := by
  have o2 := hO.2.2.1
  have o3 := hO.2.2.2.1
  have o4 := hO.2.2.2.2.1
  have o5 := hO.2.2.2.2.2.1
  have o6 := hO.2.2.2.2.2.2.1
  have g2 : F' 2 = F 2 := e 2 (by omega) (by omega)
  have g3 : F' 3 = F 3 := e 3 (by omega) (by omega)
  have g4 : F' 4 = F 4 := e 4 (by omega) (by omega)
  have g5 : F' 5 = F 5 := e 5 (by omega) (by omega)
  have g6 : F' 6 = F 6 := e 6 (by omega) (by omega)
  obtain ⟨b0, b1, b2, b3, b4, b5⟩ := h
  refine ⟨fun j hj => ?_, fun m q j hj => ?_, fun m q j hj => ?_, fun m q j hj => ?_, fun m q j hj => ?_, fun m q => ?_⟩
  · by_cases qe : j = 1
    · subst qe; rw [jc, ec]
    · rw [jB j qe, b0 j hj, e j (by omega) (by omega)]
  · rw [jx (B + 11 + m) (by omega) (by omega) (by omega), b1 m (by omega) j hj, e (8 + 6 * j + m) (by omega) (by omega)]
  · rw [jx (B + 17 + m) (by omega) (by omega) (by omega), b2 m (by omega) j hj, e (26 + 6 * j + m) (by omega) (by omega)]
  · rw [jx (B + 23 + m) (by omega) (by omega) (by omega), b3 m (by omega) j hj, e (56 + 6 * m + j) (by omega) (by omega)]
  · rw [jx (B + 35 + m) (by omega) (by omega) (by omega), b4 m (by omega) j hj, e (128 + 5 * m + j) (by omega) (by omega)]
  · rw [jx (B + 5) (by omega) (by omega) (by omega), jx (B + 6) (by omega) (by omega) (by omega), jx (B + 7) (by omega) (by omega) (by omega), e (168 + 3 * m) (by omega) (by omega), e (169 + 3 * m) (by omega) (by omega), e (170 + 3 * m) (by omega) (by omega)]
    exact b5 m (by omega)
theorem bk_mask (h : BkI I B F) (hO : FOK F) (hc : F 2 < 6) (ec : F' 2 = F 2 + 1) (e : ∀ x, x < 192 → x ≠ 2 → x ≠ 8 + F 2 → x ≠ 14 + F 2 → x ≠ 20 + F 2 → F' x = F x) (jc : J B 2 = nI (F 2 + 1)) (jB : ∀ j, j ≠ 2 → J B j = I B j) (jm : ∀ j, j < 3 → J (B + 11 + F 2) j = nI (F' (8 + 6 * j + F 2))) (jx : ∀ x, x ≠ B → x ≠ B + 11 + F 2 → B < x → x ≤ B + 42 → J x = I x) : BkI J B F' := by
  have o2 := hO.2.2.1
  have o3 := hO.2.2.2.1
  have o4 := hO.2.2.2.2.1
  have o5 := hO.2.2.2.2.2.1
  have o6 := hO.2.2.2.2.2.2.1
  have g2 : F' 2 = F 2 + 1 := ec
  have g3 : F' 3 = F 3 := e 3 (by omega) (by omega) (by omega) (by omega) (by omega)
  have g4 : F' 4 = F 4 := e 4 (by omega) (by omega) (by omega) (by omega) (by omega)
  have g5 : F' 5 = F 5 := e 5 (by omega) (by omega) (by omega) (by omega) (by omega)
  have g6 : F' 6 = F 6 := e 6 (by omega) (by omega) (by omega) (by omega) (by omega)
  obtain ⟨b0, b1, b2, b3, b4, b5⟩ := h
  refine ⟨fun j hj => ?_, fun m q j hj => ?_, fun m q j hj => ?_, fun m q j hj => ?_, fun m q j hj => ?_, fun m q => ?_⟩
  · by_cases qe : j = 2
    · subst qe; rw [jc, ec]
    · rw [jB j qe, b0 j hj, e j (by omega) (by omega) (by omega) (by omega) (by omega)]
  · by_cases qe : m = F 2
    · subst qe; exact jm j hj
    · rw [jx (B + 11 + m) (by omega) (by omega) (by omega) (by omega), b1 m (by omega) j hj, e (8 + 6 * j + m) (by omega) (by omega) (by omega) (by omega) (by omega)]
  · rw [jx (B + 17 + m) (by omega) (by omega) (by omega) (by omega), b2 m (by omega) j hj, e (26 + 6 * j + m) (by omega) (by omega) (by omega) (by omega) (by omega)]
  · rw [jx (B + 23 + m) (by omega) (by omega) (by omega) (by omega), b3 m (by omega) j hj, e (56 + 6 * m + j) (by omega) (by omega) (by omega) (by omega) (by omega)]
  · rw [jx (B + 35 + m) (by omega) (by omega) (by omega) (by omega), b4 m (by omega) j hj, e (128 + 5 * m + j) (by omega) (by omega) (by omega) (by omega) (by omega)]
  · rw [jx (B + 5) (by omega) (by omega) (by omega) (by omega), jx (B + 6) (by omega) (by omega) (by omega) (by omega), jx (B + 7) (by omega) (by omega) (by omega) (by omega), e (168 + 3 * m) (by omega) (by omega) (by omega) (by omega) (by omega), e (169 + 3 * m) (by omega) (by omega) (by omega) (by omega) (by omega), e (170 + 3 * m) (by omega) (by omega) (by omega) (by omega) (by omega)]
    exact b5 m (by omega)
theorem bk_person (h : BkI I B F) (hO : FOK F) (hc : F 3 < 6) (ec : F' 3 = F 3 + 1) (e : ∀ x, x < 192 → x ≠ 3 → x ≠ 26 + F 3 → x ≠ 32 + F 3 → x ≠ 38 + F 3 → x ≠ 44 + F 3 → x ≠ 50 + F 3 → F' x = F x) (jc : J B 3 = nI (F 3 + 1)) (jB : ∀ j, j ≠ 3 → J B j = I B j) (jm : ∀ j, j < 5 → J (B + 17 + F 3) j = nI (F' (26 + 6 * j + F 3))) (jx : ∀ x, x ≠ B → x ≠ B + 17 + F 3 → B < x → x ≤ B + 42 → J x = I x) : BkI J B F' := by
  have o2 := hO.2.2.1
  have o3 := hO.2.2.2.1
  have o4 := hO.2.2.2.2.1
  have o5 := hO.2.2.2.2.2.1
  have o6 := hO.2.2.2.2.2.2.1
  have g2 : F' 2 = F 2 := e 2 (by omega) (by omega) (by omega) (by omega) (by omega) (by omega) (by omega)
  have g3 : F' 3 = F 3 + 1 := ec
  have g4 : F' 4 = F 4 := e 4 (by omega) (by omega) (by omega) (by omega) (by omega) (by omega) (by omega)
  have g5 : F' 5 = F 5 := e 5 (by omega) (by omega) (by omega) (by omega) (by omega) (by omega) (by omega)
  have g6 : F' 6 = F 6 := e 6 (by omega) (by omega) (by omega) (by omega) (by omega) (by omega) (by omega)
  obtain ⟨b0, b1, b2, b3, b4, b5⟩ := h
  refine ⟨fun j hj => ?_, fun m q j hj => ?_, fun m q j hj => ?_, fun m q j hj => ?_, fun m q j hj => ?_, fun m q => ?_⟩
  · by_cases qe : j = 3
    · subst qe; rw [jc, ec]
    · rw [jB j qe, b0 j hj, e j (by omega) (by omega) (by omega) (by omega) (by omega) (by omega) (by omega)]
  · rw [jx (B + 11 + m) (by omega) (by omega) (by omega) (by omega), b1 m (by omega) j hj, e (8 + 6 * j + m) (by omega) (by omega) (by omega) (by omega) (by omega) (by omega) (by omega)]
  · by_cases qe : m = F 3
    · subst qe; exact jm j hj
    · rw [jx (B + 17 + m) (by omega) (by omega) (by omega) (by omega), b2 m (by omega) j hj, e (26 + 6 * j + m) (by omega) (by omega) (by omega) (by omega) (by omega) (by omega) (by omega)]
  · rw [jx (B + 23 + m) (by omega) (by omega) (by omega) (by omega), b3 m (by omega) j hj, e (56 + 6 * m + j) (by omega) (by omega) (by omega) (by omega) (by omega) (by omega) (by omega)]
  · rw [jx (B + 35 + m) (by omega) (by omega) (by omega) (by omega), b4 m (by omega) j hj, e (128 + 5 * m + j) (by omega) (by omega) (by omega) (by omega) (by omega) (by omega) (by omega)]
  · rw [jx (B + 5) (by omega) (by omega) (by omega) (by omega), jx (B + 6) (by omega) (by omega) (by omega) (by omega), jx (B + 7) (by omega) (by omega) (by omega) (by omega), e (168 + 3 * m) (by omega) (by omega) (by omega) (by omega) (by omega) (by omega) (by omega), e (169 + 3 * m) (by omega) (by omega) (by omega) (by omega) (by omega) (by omega) (by omega), e (170 + 3 * m) (by omega) (by omega) (by omega) (by omega) (by omega) (by omega) (by omega)]
    exact b5 m (by omega)
theorem bk_promise (h : BkI I B F) (hO : FOK F) (hc : F 4 < 12) (ec : F' 4 = F 4 + 1) (e : ∀ x, x < 192 → x ≠ 4 → x ≠ 56 + 6 * F 4 → x ≠ 57 + 6 * F 4 → x ≠ 58 + 6 * F 4 → x ≠ 59 + 6 * F 4 → x ≠ 60 + 6 * F 4 → x ≠ 61 + 6 * F 4 → F' x = F x) (jc : J B 4 = nI (F 4 + 1)) (jB : ∀ j, j ≠ 4 → J B j = I B j) (jm : ∀ j, j < 6 → J (B + 23 + F 4) j = nI (F' (56 + 6 * F 4 + j))) (jx : ∀ x, x ≠ B → x ≠ B + 23 + F 4 → B < x → x ≤ B + 42 → J x = I x) : BkI J B F' := by
  have o2 := hO.2.2.1
  have o3 := hO.2.2.2.1
  have o4 := hO.2.2.2.2.1
  have o5 := hO.2.2.2.2.2.1
  have o6 := hO.2.2.2.2.2.2.1
  have g2 : F' 2 = F 2 := e 2 (by omega) (by omega) (by omega) (by omega) (by omega) (by omega) (by omega) (by omega)
  have g3 : F' 3 = F 3 := e 3 (by omega) (by omega) (by omega) (by omega) (by omega) (by omega) (by omega) (by omega)
  have g4 : F' 4 = F 4 + 1 := ec
  have g5 : F' 5 = F 5 := e 5 (by omega) (by omega) (by omega) (by omega) (by omega) (by omega) (by omega) (by omega)
  have g6 : F' 6 = F 6 := e 6 (by omega) (by omega) (by omega) (by omega) (by omega) (by omega) (by omega) (by omega)
  obtain ⟨b0, b1, b2, b3, b4, b5⟩ := h
  refine ⟨fun j hj => ?_, fun m q j hj => ?_, fun m q j hj => ?_, fun m q j hj => ?_, fun m q j hj => ?_, fun m q => ?_⟩
  · by_cases qe : j = 4
    · subst qe; rw [jc, ec]
    · rw [jB j qe, b0 j hj, e j (by omega) (by omega) (by omega) (by omega) (by omega) (by omega) (by omega) (by omega)]
  · rw [jx (B + 11 + m) (by omega) (by omega) (by omega) (by omega), b1 m (by omega) j hj, e (8 + 6 * j + m) (by omega) (by omega) (by omega) (by omega) (by omega) (by omega) (by omega) (by omega)]
  · rw [jx (B + 17 + m) (by omega) (by omega) (by omega) (by omega), b2 m (by omega) j hj, e (26 + 6 * j + m) (by omega) (by omega) (by omega) (by omega) (by omega) (by omega) (by omega) (by omega)]
  · by_cases qe : m = F 4
    · subst qe; exact jm j hj
    · rw [jx (B + 23 + m) (by omega) (by omega) (by omega) (by omega), b3 m (by omega) j hj, e (56 + 6 * m + j) (by omega) (by omega) (by omega) (by omega) (by omega) (by omega) (by omega) (by omega)]
  · rw [jx (B + 35 + m) (by omega) (by omega) (by omega) (by omega), b4 m (by omega) j hj, e (128 + 5 * m + j) (by omega) (by omega) (by omega) (by omega) (by omega) (by omega) (by omega) (by omega)]
  · rw [jx (B + 5) (by omega) (by omega) (by omega) (by omega), jx (B + 6) (by omega) (by omega) (by omega) (by omega), jx (B + 7) (by omega) (by omega) (by omega) (by omega), e (168 + 3 * m) (by omega) (by omega) (by omega) (by omega) (by omega) (by omega) (by omega) (by omega), e (169 + 3 * m) (by omega) (by omega) (by omega) (by omega) (by omega) (by omega) (by omega) (by omega), e (170 + 3 * m) (by omega) (by omega) (by omega) (by omega) (by omega) (by omega) (by omega) (by omega)]
    exact b5 m (by omega)
theorem bk_seen (h : BkI I B F) (hO : FOK F) (hc : F 5 < 8) (ec : F' 5 = F 5 + 1) (e : ∀ x, x < 192 → x ≠ 5 → x ≠ 128 + 5 * F 5 → x ≠ 129 + 5 * F 5 → x ≠ 130 + 5 * F 5 → x ≠ 131 + 5 * F 5 → x ≠ 132 + 5 * F 5 → F' x = F x) (jc : J B 5 = nI (F 5 + 1)) (jB : ∀ j, j ≠ 5 → J B j = I B j) (jm : ∀ j, j < 5 → J (B + 35 + F 5) j = nI (F' (128 + 5 * F 5 + j))) (jx : ∀ x, x ≠ B → x ≠ B + 35 + F 5 → B < x → x ≤ B + 42 → J x = I x) : BkI J B F' := by
  have o2 := hO.2.2.1
  have o3 := hO.2.2.2.1
  have o4 := hO.2.2.2.2.1
  have o5 := hO.2.2.2.2.2.1
  have o6 := hO.2.2.2.2.2.2.1
  have g2 : F' 2 = F 2 := e 2 (by omega) (by omega) (by omega) (by omega) (by omega) (by omega) (by omega)
  have g3 : F' 3 = F 3 := e 3 (by omega) (by omega) (by omega) (by omega) (by omega) (by omega) (by omega)
  have g4 : F' 4 = F 4 := e 4 (by omega) (by omega) (by omega) (by omega) (by omega) (by omega) (by omega)
  have g5 : F' 5 = F 5 + 1 := ec
  have g6 : F' 6 = F 6 := e 6 (by omega) (by omega) (by omega) (by omega) (by omega) (by omega) (by omega)
  obtain ⟨b0, b1, b2, b3, b4, b5⟩ := h
  refine ⟨fun j hj => ?_, fun m q j hj => ?_, fun m q j hj => ?_, fun m q j hj => ?_, fun m q j hj => ?_, fun m q => ?_⟩
  · by_cases qe : j = 5
    · subst qe; rw [jc, ec]
    · rw [jB j qe, b0 j hj, e j (by omega) (by omega) (by omega) (by omega) (by omega) (by omega) (by omega)]
  · rw [jx (B + 11 + m) (by omega) (by omega) (by omega) (by omega), b1 m (by omega) j hj, e (8 + 6 * j + m) (by omega) (by omega) (by omega) (by omega) (by omega) (by omega) (by omega)]
  · rw [jx (B + 17 + m) (by omega) (by omega) (by omega) (by omega), b2 m (by omega) j hj, e (26 + 6 * j + m) (by omega) (by omega) (by omega) (by omega) (by omega) (by omega) (by omega)]
  · rw [jx (B + 23 + m) (by omega) (by omega) (by omega) (by omega), b3 m (by omega) j hj, e (56 + 6 * m + j) (by omega) (by omega) (by omega) (by omega) (by omega) (by omega) (by omega)]
  · by_cases qe : m = F 5
    · subst qe; exact jm j hj
    · rw [jx (B + 35 + m) (by omega) (by omega) (by omega) (by omega), b4 m (by omega) j hj, e (128 + 5 * m + j) (by omega) (by omega) (by omega) (by omega) (by omega) (by omega) (by omega)]
  · rw [jx (B + 5) (by omega) (by omega) (by omega) (by omega), jx (B + 6) (by omega) (by omega) (by omega) (by omega), jx (B + 7) (by omega) (by omega) (by omega) (by omega), e (168 + 3 * m) (by omega) (by omega) (by omega) (by omega) (by omega) (by omega) (by omega), e (169 + 3 * m) (by omega) (by omega) (by omega) (by omega) (by omega) (by omega) (by omega), e (170 + 3 * m) (by omega) (by omega) (by omega) (by omega) (by omega) (by omega) (by omega)]
    exact b5 m (by omega)
theorem bk_letter (h : BkI I B F) (hO : FOK F) (hc : F 6 < 8) (ec : F' 6 = F 6 + 1) (e : ∀ x, x < 192 → x ≠ 6 → x ≠ 168 + 3 * F 6 → x ≠ 169 + 3 * F 6 → x ≠ 170 + 3 * F 6 → F' x = F x) (jc : J B 6 = nI (F 6 + 1)) (jB : ∀ j, j ≠ 6 → J B j = I B j) (jm : J (B + 5) (F 6) = nI (F' (168 + 3 * F 6)) ∧ J (B + 6) (F 6) = nI (F' (169 + 3 * F 6)) ∧ J (B + 7) (F 6) = nI (F' (170 + 3 * F 6))) (jr : ∀ l, l < F 6 → J (B + 5) l = I (B + 5) l ∧ J (B + 6) l = I (B + 6) l ∧ J (B + 7) l = I (B + 7) l) (jx : ∀ x, x ≠ B → x ≠ B + 5 → x ≠ B + 6 → x ≠ B + 7 → B < x → x ≤ B + 42 → J x = I x) : BkI J B F' := by
  have o2 := hO.2.2.1
  have o3 := hO.2.2.2.1
  have o4 := hO.2.2.2.2.1
  have o5 := hO.2.2.2.2.2.1
  have o6 := hO.2.2.2.2.2.2.1
  have g2 : F' 2 = F 2 := e 2 (by omega) (by omega) (by omega) (by omega) (by omega)
  have g3 : F' 3 = F 3 := e 3 (by omega) (by omega) (by omega) (by omega) (by omega)
  have g4 : F' 4 = F 4 := e 4 (by omega) (by omega) (by omega) (by omega) (by omega)
  have g5 : F' 5 = F 5 := e 5 (by omega) (by omega) (by omega) (by omega) (by omega)
  have g6 : F' 6 = F 6 + 1 := ec
  obtain ⟨b0, b1, b2, b3, b4, b5⟩ := h
  refine ⟨fun j hj => ?_, fun m q j hj => ?_, fun m q j hj => ?_, fun m q j hj => ?_, fun m q j hj => ?_, fun m q => ?_⟩
  · by_cases qe : j = 6
    · subst qe; rw [jc, ec]
    · rw [jB j qe, b0 j hj, e j (by omega) (by omega) (by omega) (by omega) (by omega)]
  · rw [jx (B + 11 + m) (by omega) (by omega) (by omega) (by omega) (by omega) (by omega), b1 m (by omega) j hj, e (8 + 6 * j + m) (by omega) (by omega) (by omega) (by omega) (by omega)]
  · rw [jx (B + 17 + m) (by omega) (by omega) (by omega) (by omega) (by omega) (by omega), b2 m (by omega) j hj, e (26 + 6 * j + m) (by omega) (by omega) (by omega) (by omega) (by omega)]
  · rw [jx (B + 23 + m) (by omega) (by omega) (by omega) (by omega) (by omega) (by omega), b3 m (by omega) j hj, e (56 + 6 * m + j) (by omega) (by omega) (by omega) (by omega) (by omega)]
  · rw [jx (B + 35 + m) (by omega) (by omega) (by omega) (by omega) (by omega) (by omega), b4 m (by omega) j hj, e (128 + 5 * m + j) (by omega) (by omega) (by omega) (by omega) (by omega)]
  · by_cases qe : m = F 6
    · subst qe; exact jm
    · rw [(jr m (by omega)).1, (jr m (by omega)).2.1, (jr m (by omega)).2.2, e (168 + 3 * m) (by omega) (by omega) (by omega) (by omega) (by omega), e (169 + 3 * m) (by omega) (by omega) (by omega) (by omega) (by omega), e (170 + 3 * m) (by omega) (by omega) (by omega) (by omega) (by omega)]
      exact b5 m (by omega)
end
