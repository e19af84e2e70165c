/-! what a text tells, token by token; inl: its first fault and where -/
abbrev PS : Type := Nat × bkF × LSt
abbrev PR : Type := (Nat × Nat) ⊕ PS
abbrev PN : Type := (Nat × Nat) ⊕ (Nat × PS)
def bnd {α β : Type} (x : (Nat × Nat) ⊕ α) (f : α → (Nat × Nat) ⊕ β) : (Nat × Nat) ⊕ β := match x with
  | .inl e => .inl e
  | .inr v => f v
theorem bnd_l {α β : Type} {x : (Nat × Nat) ⊕ α} {f : α → (Nat × Nat) ⊕ β} {e : Nat × Nat} (h : x = .inl e) : bnd x f = .inl e := by rw [h]; rfl
theorem bnd_r {α β : Type} {x : (Nat × Nat) ⊕ α} {f : α → (Nat × Nat) ⊕ β} {v : α} (h : x = .inr v) : bnd x f = f v := by rw [h]; rfl
theorem bnd_i {α β : Type} {x : (Nat × Nat) ⊕ α} {f : α → (Nat × Nat) ⊕ β} {v : β} (h : bnd x f = .inr v) : ∃ u, x = .inr u ∧ f u = .inr v := by
  cases x with
  | inl e => cases h
  | inr u => exact ⟨u, rfl, h⟩
def setF (F : bkF) (k v : Nat) : bkF := fun x => if x = k then v else F x
theorem setF_s (F : bkF) (k v : Nat) : setF F k v k = v := if_pos rfl
theorem setF_n {F : bkF} {k v x : Nat} (h : x ≠ k) : setF F k v x = F x := if_neg h
section
variable (tp : Nat → Nat) (sz : Nat)
def nx (s : PS) : PS := (tE tp sz s.1, s.2)
def qWord (w : List Nat) (s : PS) : PR := if isW tp sz w s.1 = true then .inr (nx tp sz s) else .inl (1, tA tp sz s.1)
def qNum (lo hi : Nat) (s : PS) : PN := if tK tp sz s.1 = 3 then (if lo ≤ tW tp sz s.1 ∧ tW tp sz s.1 ≤ hi then .inr (tW tp sz s.1, nx tp sz s) else .inl (4, tA tp sz s.1)) else .inl (1, tA tp sz s.1)
def qWhole (w : List Nat) (lo hi : Nat) (s : PS) : PN := bnd (qWord tp sz w s) (qNum tp sz lo hi)
/-- a word that is barred as a name -/
def isR (e : Nat) : Bool := oup (fun i => isW tp sz (rsvW.getD i []) e) 0 13
def nmok (e : Nat) : Bool := decide (tK tp sz e = 2) && !isR tp sz e
/-- the name of slot n: works 0 .. 4, masks 5 .. 10, persons 11 .. 16 -/
def nmF (F : bkF) (n : Nat) : List Nat := wrd F (209 + 8 * n) (F (192 + n))
def fnd (F : bkF) (e : Nat) : Option Nat := fup (fun n => decide (0 < F (192 + n)) && decide (nmF F n = tL tp sz e)) 0 17
def qNew (s : PS) : PR := if nmok tp sz s.1 = true then (match fnd tp sz s.2.1 s.1 with
  | none => .inr s
  | some _ => .inl (3, tA tp sz s.1)) else .inl (1, tA tp sz s.1)
def keepF (F : bkF) (e n : Nat) : bkF := fun k => if k = 192 + n then tE tp sz e - tA tp sz e else if 209 + 8 * n ≤ k ∧ k < 209 + 8 * n + (tE tp sz e - tA tp sz e) then tp (tA tp sz e + (k - (209 + 8 * n))) else F k
def bas (t : Nat) : Nat := if t = 0 then 0 else if t = 1 then 5 else 11
def rom (t : Nat) : Nat := if t = 0 then 5 else 6
def qTold (t but : Nat) (s : PS) : PN := if nmok tp sz s.1 = true then (match fnd tp sz s.2.1 s.1 with
  | none => .inl (2, tA tp sz s.1)
  | some n => if bas t ≤ n ∧ n < bas t + rom t then (if but.testBit (n - bas t) = true then .inl (3, tA tp sz s.1) else .inr (n - bas t, nx tp sz s)) else .inl (2, tA tp sz s.1)) else .inl (1, tA tp sz s.1)
def kept (n : Nat) (s : PS) : PS := (tE tp sz s.1, keepF tp sz s.2.1 s.1 n, s.2.2)
def setS (s : PS) (F : bkF) : PS := (s.1, F, s.2.2)
def lTown (s : PS) : PR := bnd (qWhole tp sz (wd 13) 1 20 s) fun v => .inr (setS v.2 (setF v.2.2.1 0 v.1))
def wkS (s : PS) : PS := setS (kept tp sz (s.2.1 1) s) (setF (keepF tp sz s.2.1 s.1 (s.2.1 1)) 1 (s.2.1 1 + 1))
def lWork : Nat → PS → PR
  | 0, s => .inr s
  | n + 1, s => bnd (qNew tp sz s) fun s => if 5 ≤ s.2.1 1 then .inl (5, tA tp sz s.1) else if tK tp sz (wkS tp sz s).1 = 44 then lWork n (nx tp sz (wkS tp sz s)) else .inr (wkS tp sz s)
def qKind (s : PS) : PN := if isW tp sz (wd 14) s.1 = true then .inr (0, nx tp sz s) else if isW tp sz (wd 9) s.1 = true then .inr (1, nx tp sz s) else if isW tp sz (wd 15) s.1 = true then .inr (2, nx tp sz s) else if isW tp sz (wd 16) s.1 = true then .inr (3, nx tp sz s) else if isW tp sz (wd 17) s.1 = true then .inr (4, nx tp sz s) else .inl (1, tA tp sz s.1)
def lMask (s : PS) : PR := bnd (qNew tp sz s) fun s => bnd (qKind tp sz (kept tp sz (5 + s.2.1 2) s)) fun k => bnd (qWhole tp sz (wd 12) 1 9 k.2) fun a => bnd (qWhole tp sz (wd 18) 0 99 a.2) fun c => .inr (setS c.2 (setF (setF (setF (setF c.2.2.1 (8 + s.2.1 2) k.1) (14 + s.2.1 2) a.1) (20 + s.2.1 2) c.1) 2 (s.2.1 2 + 1)))
def qChild (s : PS) : Nat × PS := if isW tp sz (wd 9) s.1 = true then (1, nx tp sz s) else (0, s)
def qHabit (s : PS) : PN := if isW tp sz (wd 10) s.1 = true then qWhole tp sz (wd 10) 1 4 s else .inr (0, s)
def lDoes : Nat → Nat → PS → PN
  | 0, set, s => .inr (set, s)
  | n + 1, set, s => bnd (qTold tp sz 0 set s) fun k => if tK tp sz k.2.1 = 44 then lDoes n (set ||| 2 ^ k.1) (nx tp sz k.2) else .inr (set ||| 2 ^ k.1, k.2)
def qDoes (s : PS) : PN := if isW tp sz (wd 11) s.1 = true then lDoes tp sz 6 0 (nx tp sz s) else .inr (0, s)
def psF (F : bkF) (p a h c hb d : Nat) : bkF := setF (setF (setF (setF (setF (setF F (26 + p) a) (32 + p) h) (38 + p) c) (44 + p) hb) (50 + p) d) 3 (p + 1)
def lPerson (s : PS) : PR := bnd (qNew tp sz s) fun s => bnd (qWhole tp sz (wd 12) 1 9 (kept tp sz (11 + s.2.1 3) s)) fun a => bnd (qWhole tp sz (wd 19) 0 99 a.2) fun h => bnd (qHabit tp sz (qChild tp sz h.2).2) fun hb => bnd (qDoes tp sz hb.2) fun d => .inr (setS d.2 (psF d.2.2.1 (s.2.1 3) a.1 h.1 (qChild tp sz h.2).1 hb.1 d.1))
def prF (F : bkF) (m w d v f e : Nat) : bkF := setF (setF (setF (setF (setF (setF (setF F (56 + 6 * F 4) m) (57 + 6 * F 4) w) (58 + 6 * F 4) d) (59 + 6 * F 4) v) (60 + 6 * F 4) f) (61 + 6 * F 4) e) 4 (F 4 + 1)
def lPromise (s : PS) : PR := bnd (qTold tp sz 1 0 s) fun m => bnd (qTold tp sz 0 0 m.2) fun w => bnd (qWhole tp sz (wd 20) 1 (s.2.1 0) w.2) fun d => bnd (qWhole tp sz (wd 21) 0 99 d.2) fun v => bnd (qWhole tp sz (wd 22) 0 99 v.2) fun f => bnd (qWhole tp sz (wd 23) 0 99 f.2) fun e => .inr (setS e.2 (prF e.2.2.1 m.1 w.1 d.1 v.1 f.1 e.1))
def lLent (s : PS) : PR := bnd (qTold tp sz 1 0 s) fun m => bnd (qWord tp sz (wd 24) m.2) fun s2 => bnd (qTold tp sz 2 0 s2) fun p => bnd (qWhole tp sz (wd 25) 1 (s.2.1 0) p.2) fun f => bnd (qWord tp sz (wd 26) f.2) fun s5 => bnd (qNum tp sz f.1 (s.2.1 0) s5) fun u => if okL s.2.1 s.2.2 m.1 p.1 f.1 u.1 = true then .inr (u.2.1, s.2.1, insS s.2.2 (m.1, p.1, f.1, u.1)) else .inl (7, tA tp sz s5.1)
def sgF (F : bkF) (m d h z hb : Nat) : bkF := setF (setF (setF (setF (setF (setF F (128 + 5 * F 5) m) (129 + 5 * F 5) d) (130 + 5 * F 5) h) (131 + 5 * F 5) z) (132 + 5 * F 5) hb) 5 (F 5 + 1)
def lSeen (s : PS) : PR := bnd (qTold tp sz 1 0 s) fun m => bnd (qWhole tp sz (wd 20) 1 (s.2.1 0) m.2) fun d => bnd (qWhole tp sz (wd 27) 0 23 d.2) fun h => bnd (qWhole tp sz (wd 12) 1 9 h.2) fun z => bnd (qHabit tp sz z.2) fun hb => .inr (setS hb.2 (sgF hb.2.2.1 m.1 d.1 h.1 z.1 hb.1))
def ltF (F : bkF) (a c d : Nat) : bkF := setF (setF (setF (setF F (168 + 3 * F 6) a) (169 + 3 * F 6) c) (170 + 3 * F 6) d) 6 (F 6 + 1)
def lLetter (s : PS) : PR := bnd (qTold tp sz 1 0 s) fun a => bnd (qWord tp sz (wd 24) a.2) fun s2 => bnd (qTold tp sz 1 (2 ^ a.1) s2) fun c => bnd (qWhole tp sz (wd 20) 1 (s.2.1 0) c.2) fun d => .inr (setS d.2 (ltF d.2.2.1 a.1 c.1 d.1))
def lBreak (s : PS) : PR := bnd (qTold tp sz 2 0 s) fun p => bnd (qWord tp sz (wd 20) p.2) fun s3 => bnd (qNum tp sz 1 (s.2.1 0) s3) fun d => if (s.2.2.2.2 p.1).testBit d.1 = true then .inl (3, tA tp sz s3.1) else .inr (d.2.1, setF s.2.1 7 (s.2.1 7 + 1), flipS s.2.2 p.1 d.1)
def qDay (n most : Nat) (f : PS → PR) (s : PS) : PR := if s.2.1 0 = 0 then .inl (6, tA tp sz s.1) else if n < most then f (nx tp sz s) else .inl (5, tA tp sz s.1)
def line (s : PS) : PR :=
  if isW tp sz (wd 0) s.1 = true then (if s.2.1 0 = 0 then lTown tp sz (nx tp sz s) else .inl (3, tA tp sz s.1))
  else if isW tp sz (wd 1) s.1 = true then lWork tp sz (6 - s.2.1 1) (nx tp sz s)
  else if isW tp sz (wd 2) s.1 = true then (if s.2.1 2 < 6 then lMask tp sz (nx tp sz s) else .inl (5, tA tp sz s.1))
  else if isW tp sz (wd 3) s.1 = true then (if s.2.1 3 < 6 then lPerson tp sz (nx tp sz s) else .inl (5, tA tp sz s.1))
  else if isW tp sz (wd 4) s.1 = true then qDay tp sz (s.2.1 4) 12 (lPromise tp sz) s
  else if isW tp sz (wd 5) s.1 = true then qDay tp sz (s.2.2.1) 12 (lLent tp sz) s
  else if isW tp sz (wd 6) s.1 = true then qDay tp sz (s.2.1 5) 8 (lSeen tp sz) s
  else if isW tp sz (wd 7) s.1 = true then qDay tp sz (s.2.1 6) 8 (lLetter tp sz) s
  else if isW tp sz (wd 8) s.1 = true then qDay tp sz (s.2.1 7) 8 (lBreak tp sz) s
  else .inl (1, tA tp sz s.1)
def lns : Nat → PS → PR
  | 0, s => line tp sz s
  | n + 1, s => bnd (line tp sz s) fun s' => if tK tp sz s'.1 = 59 then lns n (nx tp sz s') else .inr s'
def finP (s : PS) : PR := if tK tp sz s.1 = 0 then (if s.2.1 0 = 0 ∨ s.2.1 2 = 0 ∨ s.2.1 3 = 0 then .inl (6, tA tp sz s.1) else .inr s) else .inl (1, tA tp sz s.1)
def ps0 : PS := (0, fun _ => 0, 0, fun _ => (0, 0, 0, 0), fun _ => 0)
def pars : PR := bnd (lns tp sz sz ps0) (finP tp sz)
end
/-! names as numbers tell them apart -/
theorem wln_snoc : ∀ (w : List Nat) (c a : Nat), wln (w ++ [c]) a = wln w a * 32 + (c - 96)
  | [], c, a => rfl
  | d :: w, c, a => wln_snoc w c (a * 32 + (d - 96))
theorem wln_inj : ∀ (n : Nat) (w v : List Nat), w.length ≤ n → (∀ c ∈ w, 97 ≤ c ∧ c ≤ 122) → (∀ c ∈ v, 97 ≤ c ∧ c ≤ 122) → wln w 0 = wln v 0 → w = v := by
  intro n
  induction n with
  | zero =>
    intro w v hn hw hv h
    have hw0 : w = [] := List.length_eq_zero_iff.mp (by omega)
    subst hw0
    rcases List.eq_nil_or_concat v with e | ⟨u, c, e⟩
    · exact e.symm
    · subst e
      rw [List.concat_eq_append, wln_snoc] at h
      have := hv c (by simp)
      simp only [wln] at h
      omega
  | succ n ih =>
    intro w v hn hw hv h
    rcases List.eq_nil_or_concat w with e | ⟨u, c, e⟩
    · subst e
      rcases List.eq_nil_or_concat v with e | ⟨u, c, e⟩
      · exact e.symm
      · subst e
        rw [List.concat_eq_append, wln_snoc] at h
        have := hv c (by simp)
        simp only [wln] at h
        omega
    · subst e
      rw [List.concat_eq_append] at h hw hn ⊢
      rw [wln_snoc] at h
      have hc := hw c (by simp)
      rcases List.eq_nil_or_concat v with e | ⟨u2, c2, e⟩
      · subst e
        simp only [wln] at h
        omega
      · subst e
        rw [List.concat_eq_append] at h hv ⊢
        rw [wln_snoc] at h
        have hc2 := hv c2 (by simp)
        have e1 : c = c2 := by omega
        have e2 : wln u 0 = wln u2 0 := by omega
        subst e1
        rw [ih u u2 (by simp at hn; omega) (fun x hx => hw x (by simp [hx])) (fun x hx => hv x (by simp [hx])) e2]
theorem wln_lt : ∀ (w : List Nat) (a : Nat), (∀ c ∈ w, 97 ≤ c ∧ c ≤ 122) → wln w a < (a + 1) * 32 ^ w.length
  | [], a, _ => by simp [wln]
  | c :: w, a, h => by
    have hc := h c (by simp)
    have := wln_lt w (a * 32 + (c - 96)) (fun x hx => h x (by simp [hx]))
    rw [wln, List.length_cons, Nat.pow_succ]
    refine Nat.lt_of_lt_of_le this ?_
    rw [Nat.mul_comm (32 ^ w.length) 32, ← Nat.mul_assoc]
    exact Nat.mul_le_mul_right _ (by omega)
theorem l5_N {a c : Nat} (ha : a < 2 ^ 57) (hc : 97 ≤ c ∧ c ≤ 122) : l5 (Int64.ofNat a) c = Int64.ofNat (a * 32 + (c - 96)) := by
  apply Int64.toBitVec_inj.1
  apply BitVec.eq_of_toNat_eq
  unfold l5
  have e1 : (nI (c - 96)).toInt64 = Int64.ofNat (c - 96) := by
    apply Int64.toInt_inj.mp
    rw [Int32.toInt_toInt64, nI_toInt (by omega)]
    exact (lg_ofNat_toInt (by omega)).symm
  rw [e1]
  have e2 : ((nI 5).toInt64 &&& 63 : Int64) = 5 := by decide
  rw [e2, Int64.toBitVec_or, Int64.toBitVec_shiftLeft]
  have e3 : ∀ x : Nat, x < 2 ^ 64 → (Int64.ofNat x).toBitVec.toNat = x := fun x hx => by
    show (BitVec.ofNat 64 x).toNat = x
    rw [BitVec.toNat_ofNat, Nat.mod_eq_of_lt hx]
  rw [BitVec.toNat_or, e3 _ (by omega), e3 _ (by omega)]
  have e4 : ((Int64.ofNat a).toBitVec <<< ((5 : Int64).toBitVec.smod 64)).toNat = a * 32 := by
    rw [show ((5 : Int64).toBitVec.smod 64) = (5 : BitVec 64) from by decide]
    rw [BitVec.shiftLeft_eq', BitVec.toNat_shiftLeft, e3 _ (by omega), Nat.shiftLeft_eq]
    show a * 2 ^ 5 % 2 ^ 64 = a * 32
    rw [Nat.mod_eq_of_lt (by omega)]
  rw [e4]
  have e5 := Nat.two_pow_add_eq_or_of_lt (i := 5) (b := c - 96) (by omega) a
  rw [Nat.mul_comm a 32]
  exact e5.symm
theorem l64_N : ∀ (w : List Nat) (a k : Nat), w.length ≤ k → k ≤ 8 → a < 32 ^ (8 - k) → (∀ c ∈ w, 97 ≤ c ∧ c ≤ 122) → l64 w (Int64.ofNat a) = Int64.ofNat (wln w a)
  | [], a, k, _, _, _, _ => rfl
  | c :: w, a, k, hk, hk8, ha, h => by
    have hc := h c (by simp)
    have hl : w.length + 1 ≤ k := hk
    have hp : 32 ^ (8 - k) ≤ 32 ^ 7 := Nat.pow_le_pow_right (by decide) (by omega)
    have e1 : l64 (c :: w) (Int64.ofNat a) = l64 w (l5 (Int64.ofNat a) c) := rfl
    rw [e1, l5_N (by omega) hc, l64_N w _ (k - 1) (by omega) (by omega) ?_ (fun x hx => h x (by simp [hx]))]
    · rfl
    · rw [show 8 - (k - 1) = (8 - k) + 1 by omega, Nat.pow_succ]
      omega
/-- a word of a name: at most eight small letters -/
def wok (w : List Nat) : Prop := w.length ≤ 8 ∧ ∀ c ∈ w, 97 ≤ c ∧ c ≤ 122
theorem l64_wln {w : List Nat} (h : wok w) : l64 w 0 = Int64.ofNat (wln w 0) := l64_N w 0 8 h.1 (Nat.le_refl _) (by decide) h.2
theorem l64_inj {w v : List Nat} (hw : wok w) (hv : wok v) (h : l64 w 0 = l64 v 0) : w = v := by
  rw [l64_wln hw, l64_wln hv] at h
  have b1 : wln w 0 < 2 ^ 63 := by
    have := wln_lt w 0 hw.2
    have h2 : 32 ^ w.length ≤ 32 ^ 8 := Nat.pow_le_pow_right (by decide) hw.1
    omega
  have b2 : wln v 0 < 2 ^ 63 := by
    have := wln_lt v 0 hv.2
    have h2 : 32 ^ v.length ≤ 32 ^ 8 := Nat.pow_le_pow_right (by decide) hv.1
    omega
  have h3 := congrArg Int64.toInt h
  rw [lg_ofNat_toInt b1, lg_ofNat_toInt b2] at h3
  exact wln_inj 8 w v hw.1 hw.2 hv.2 (by omega)
theorem rsv_wok : ∀ i, i < 13 → (rsvW.getD i []).length ≤ 8 ∧ (∀ c ∈ rsvW.getD i [], 97 ≤ c ∧ c ≤ 122) ∧ rsvW.getD i [] = wd i := by decide +kernel
theorem rsv_l64 {i : Nat} (h : i < 13) : rsv i = l64 (rsvW.getD i []) 0 := (l64_wln ⟨(rsv_wok i h).1, (rsv_wok i h).2.1⟩).symm
theorem tL_wok {tp : Nat → Nat} {sz e : Nat} (hb : ∀ i, i < sz → tp i < 256) (he : e ≤ sz) (hk : tK tp sz e = 2) : wok (tL tp sz e) ∧ 1 ≤ (tL tp sz e).length := by
  have h := tk_2 hb he hk
  unfold tL
  refine ⟨⟨by rw [wrd_len]; exact h.2.2.2.1, fun c hc => ?_⟩, by rw [wrd_len]; exact h.2.2.2.2.1⟩
  unfold wrd at hc
  obtain ⟨i, hi, rfl⟩ := List.mem_map.mp hc
  exact h.2.2.2.2.2 i (List.mem_range.mp hi)
theorem oup_iff {p : Nat → Bool} : ∀ {j i : Nat}, oup p i j = true ↔ ∃ k, i ≤ k ∧ k < i + j ∧ p k = true
  | 0, i => by simp [oup]; intro k h1 h2; omega
  | j + 1, i => by
    simp only [oup, Bool.or_eq_true, oup_iff (j := j)]
    constructor
    · rintro (h | ⟨k, h1, h2, h3⟩)
      · exact ⟨i, Nat.le_refl _, by omega, h⟩
      · exact ⟨k, by omega, by omega, h3⟩
    · rintro ⟨k, h1, h2, h3⟩
      by_cases e : k = i
      · subst e; exact Or.inl h3
      · exact Or.inr ⟨k, by omega, by omega, h3⟩
