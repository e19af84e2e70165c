/-- the partners behind day d: those that stay, if there is a letter on it -/
def stpd (F : bkF) (n : Nat) (g : lends) (m o d : Nat) (pt : Nat → Nat) : Nat → Nat := match fls F n g d with
  | none => pt
  | some z => kpp F (pgk F n g d (andn (ofd F d) z) (F 5)) (cdk F n g d (andn (ofd F d) z) (F 5)) m o pt
def prd (F : bkF) (n : Nat) (g : lends) (m o d : Nat) : Nat → (Nat → Nat) → (Nat → Nat)
  | 0, pt => pt
  | j + 1, pt => prd F n g m o (d + 1) j (if (ldy F m o).testBit d = true then stpd F n g m o d pt else pt)
def prt (F : bkF) (n : Nat) (g : lends) (m o : Nat) : Nat → Nat := prd F n g m o 1 (F 0) (fun _ => if ldy F m o = 0 then 0 else 2 ^ F 3 - 1)
theorem kpp_lt {F : bkF} {pg : Nat → Bool} {c : Nat → Nat} {m o p : Nat} {pt : Nat → Nat} (h : pt p < 64) : kpp F pg c m o pt p < 64 := by
  unfold kpp
  split
  · decide
  · split
    · exact Nat.lt_of_le_of_lt Nat.and_le_left h
    · decide
theorem stpd_lt {F : bkF} {n : Nat} {g : lends} {m o d : Nat} {pt : Nat → Nat} (h : ∀ p, pt p < 64) : ∀ p, stpd F n g m o d pt p < 64 := by
  intro p
  unfold stpd
  cases fls F n g d with
  | none => exact h p
  | some z => exact kpp_lt (h p)
theorem prd_lt {F : bkF} {n : Nat} {g : lends} {m o : Nat} : ∀ (j d : Nat) (pt : Nat → Nat), (∀ p, pt p < 64) → ∀ p, prd F n g m o d j pt p < 64
  | 0, _, _, h => h
  | j + 1, d, pt, h => by
    simp only [prd]
    refine prd_lt j (d + 1) _ ?_
    split
    · exact stpd_lt h
    · exact h
theorem prt_lt {F : bkF} (hO : FOK F) (n : Nat) (g : lends) (m o : Nat) : ∀ p, prt F n g m o p < 64 := by
  refine prd_lt _ _ _ (fun p => ?_)
  have h3 : 2 ^ F 3 ≤ 2 ^ 6 := Nat.pow_le_pow_right (by decide) hO.2.2.2.1
  show (if ldy F m o = 0 then 0 else 2 ^ F 3 - 1) < 64
  split <;> omega
/-- the i-th of the pairs, in order of the first, then the second -/
def opi (pt : Nat) (q : Nat) : Nat → Nat → Nat ⊕ Nat
  | 0, i => .inr i
  | j + 1, i => if pt.testBit q = true then if i = 0 then .inl q else opi pt (q + 1) j (i - 1) else opi pt (q + 1) j i
def opo (P : Nat) (pt : Nat → Nat) (p : Nat) : Nat → Nat → Option (Nat × Nat)
  | 0, _ => none
  | j + 1, i => match opi (pt p) 0 P i with
    | .inl q => some (p, q)
    | .inr i2 => opo P pt (p + 1) j i2
def eQ (second : Bool) : Option (Nat × Nat) → Int32
  | none => -1
  | some (p, q) => if second = true then nI q else nI p
