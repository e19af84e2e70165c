def dupz (p : Nat → Bool) (v : Nat → Nat) (i : Nat) : Nat → Nat → Nat
  | 0, a => a
  | j + 1, a => dupz p v (i + 1) j (if p i = true then a ||| 2 ^ v i else a)
theorem dupz_lt {p : Nat → Bool} {v : Nat → Nat} (hv : ∀ i, p i = true → v i ≤ 20) : ∀ (j i a : Nat), a < 2 ^ 21 → dupz p v i j a < 2 ^ 21
  | 0, _, _, h => h
  | j + 1, i, a, h => by
    simp only [dupz]
    refine dupz_lt hv j (i + 1) _ ?_
    split
    · rename_i hp
      exact Nat.or_lt_two_pow h (Nat.pow_lt_pow_right (by decide) (by have := hv i hp; omega))
    · exact h
def ltp (F : bkF) (m o l : Nat) : Bool := decide (l < F 6) && (decide (F (168 + 3 * l) = m) && decide (F (169 + 3 * l) = o) || decide (F (168 + 3 * l) = o) && decide (F (169 + 3 * l) = m))
def ldy (F : bkF) (m o : Nat) : Nat := dupz (ltp F m o) (fun l => F (170 + 3 * l)) 0 (F 6) 0
theorem ldy_lt {F : bkF} (hO : FOK F) (m o : Nat) : ldy F m o < 2 ^ 21 := dupz_lt (fun l h => by
  have hl : l < F 6 := by simp only [ltp, Bool.and_eq_true, decide_eq_true_eq] at h; exact h.1
  have := fk_l hO hl
  have := hO.1
  omega) (F 6) 0 0 (by decide)
def pin (F : bkF) (pg : Nat → Bool) (c : Nat → Nat) (o : Nat) : Nat := bup (fun q => decide (0 < alw F pg c o q)) 0 (F 3) 0
def kpp (F : bkF) (pg : Nat → Bool) (c : Nat → Nat) (m o : Nat) (pt : Nat → Nat) (p : Nat) : Nat := if pg m = true then 0 else if (c m).testBit p = true then pt p &&& pin F pg (upc c m (2 ^ p)) o else 0
theorem ur_ur (R : HR) (a k : Nat) (x : Option Nat) : ur (ur R a k x) a k x = ur R a k x := by
  funext q j
  by_cases hq : q = a
  · subst hq
    by_cases hj : j = k
    · subst hj; simp [ur, va_up]
    · simp [ur, va_up, hj]
  · simp [ur, hq]
