/-! numbers of the spec -/
abbrev q4 : Type := Nat × Nat × Nat × Nat
def pk4 (q : q4) : Nat := q.1 * 32768 + q.2.2.1 * 1024 + q.2.2.2 * 32 + q.2.1
def ok4 (q : q4) : Prop := q.1 < 6 ∧ q.2.1 < 6 ∧ 1 ≤ q.2.2.1 ∧ q.2.2.1 ≤ q.2.2.2 ∧ q.2.2.2 ≤ 20
theorem pk4_m {q : q4} (h : ok4 q) : nI (pk4 q) >>> (nI 15 &&& 31) = nI q.1 := by
  obtain ⟨h1, h2, h3, h4, h5⟩ := h
  rw [pk_shrN (by unfold pk4; omega) _ 15 (by decide)]
  congr 1; unfold pk4; omega
theorem pk4_f {q : q4} (h : ok4 q) : (nI (pk4 q) >>> (nI 10 &&& 31)) &&& nI 31 = nI q.2.2.1 := by
  obtain ⟨h1, h2, h3, h4, h5⟩ := h
  rw [pk_shrN (by unfold pk4; omega) _ 10 (by decide), pk_andN (by unfold pk4; omega) 5 (by decide)]
  congr 1; unfold pk4; omega
theorem pk4_u {q : q4} (h : ok4 q) : (nI (pk4 q) >>> (nI 5 &&& 31)) &&& nI 31 = nI q.2.2.2 := by
  obtain ⟨h1, h2, h3, h4, h5⟩ := h
  rw [pk_shrN (by unfold pk4; omega) _ 5 (by decide), pk_andN (by unfold pk4; omega) 5 (by decide)]
  congr 1; unfold pk4; omega
theorem pk4_p {q : q4} (h : ok4 q) : nI (pk4 q) &&& nI 31 = nI q.2.1 := by
  obtain ⟨h1, h2, h3, h4, h5⟩ := h
  rw [pk_andN (by unfold pk4; omega) 5 (by decide)]
  congr 1; unfold pk4; omega
/-- the first from i on, among j -/
def fup (p : Nat → Bool) (i : Nat) : Nat → Option Nat
  | 0 => none
  | j + 1 => if p i then some i else fup p (i + 1) j
def eO : Option Nat → Int32
  | none => -1
  | some i => nI i
theorem fup_t {p : Nat → Bool} {i j : Nat} (h : p i = true) : fup p i (j + 1) = some i := by simp [fup, h]
theorem fup_f {p : Nat → Bool} {i j : Nat} (h : p i = false) : fup p i (j + 1) = fup p (i + 1) j := by simp [fup, h]
/-- a ledger's lendings: (mask, person, first day, last day) -/
abbrev lends : Type := Nat → q4
def ovl (q : q4) (f u : Nat) : Bool := decide (q.2.2.1 ≤ u) && decide (f ≤ q.2.2.2)
def hitm (g : lends) (m f u : Nat) (i : Nat) : Bool := decide ((g i).1 = m) && ovl (g i) f u
def hitp (g : lends) (p f u : Nat) (i : Nat) : Bool := decide ((g i).2.1 = p) && ovl (g i) f u
def LedI (I : HI) (a n : Nat) (g : lends) : Prop := I a 0 = nI n ∧ n ≤ 20 ∧ ∀ i, i < n → I (a + 1) i = nI (pk4 (g i)) ∧ ok4 (g i)
