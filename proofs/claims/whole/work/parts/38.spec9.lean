def oup (p : Nat → Bool) (i : Nat) : Nat → Bool
  | 0 => false
  | j + 1 => p i || oup p (i + 1) j
def twp (F : bkF) (r i j : Nat) : Bool := r.testBit i && r.testBit j && (decide (F (128 + 5 * i) = F (128 + 5 * j)) && decide (F (129 + 5 * i) = F (129 + 5 * j)) && decide (F (130 + 5 * i) = F (130 + 5 * j))) && decide (F (8 + F (128 + 5 * i)) ≠ 3)
def tw (F : bkF) (r : Nat) : Bool := oup (fun i => oup (twp F r i) 0 i) 0 (F 5)
theorem bit2_b {r i j : Nat} (hr : r < 2 ^ 31) (hi : i < 32) (hj : j < 32) : ((nI r >>> (nI i &&& 31)) &&& (nI r >>> (nI j &&& 31))) &&& nI 1 = bI (r.testBit i && r.testBit j) := by
  rw [pk_shrN hr _ i (sml i hi), pk_shrN hr _ j (sml j hj), nx_and2]
  have hb : r / 2 ^ i &&& r / 2 ^ j < 2 ^ 32 := Nat.lt_of_le_of_lt Nat.and_le_left (Nat.lt_of_le_of_lt (Nat.div_le_self _ _) (by omega))
  rw [pk_andN hb 1 (by decide)]
  have e : (r / 2 ^ i &&& r / 2 ^ j) % 2 = if (r.testBit i && r.testBit j) = true then 1 else 0 := by
    have h0 : (r / 2 ^ i &&& r / 2 ^ j).testBit 0 = (r.testBit i && r.testBit j) := by
      rw [Nat.testBit_and, Nat.testBit_div_two_pow, Nat.testBit_div_two_pow, Nat.zero_add, Nat.zero_add]
    rw [← h0]
    have h1 := Nat.testBit_eq_decide_div_mod_eq (x := r / 2 ^ i &&& r / 2 ^ j) (i := 0)
    rw [Nat.pow_zero, Nat.div_one] at h1
    rw [h1]
    have h2 : (r / 2 ^ i &&& r / 2 ^ j) % 2 = 0 ∨ (r / 2 ^ i &&& r / 2 ^ j) % 2 = 1 := by omega
    rcases h2 with h | h <;> simp [h]
  rw [Nat.pow_one, e]
  cases r.testBit i && r.testBit j <;> rfl
def bitc (w : Nat) : Nat := cup (fun i => w.testBit i) 0 8
def hold (F : bkF) (n : Nat) (g : lends) (d w : Nat) : Bool := !tw F (andn (ofd F d) w) && decide (0 < wys (F 3) (pgk F n g d (andn (ofd F d) w) (F 5)) (cdk F n g d (andn (ofd F d) w) (F 5)) (F 2) 0 0)
def lkz (F : bkF) (n : Nat) (g : lends) (d w : Nat) : Nat → Option Nat → Nat → Option Nat
  | 0, f, _ => f
  | j + 1, f, few => if andn w (ofd F d) = 0 then if bitc w < few then if hold F n g d w = true then lkz F n g d (w + 1) j (some w) (bitc w) else lkz F n g d (w + 1) j f few else lkz F n g d (w + 1) j f few else lkz F n g d (w + 1) j f few
def fls (F : bkF) (n : Nat) (g : lends) (d : Nat) : Option Nat := lkz F n g d 0 (2 ^ F 5) none 9
theorem ofd_bit {F : bkF} {d s : Nat} (hs : s < F 5) : (ofd F d).testBit s = decide (F (129 + 5 * s) = d) := by
  unfold ofd; rw [bup_bit]; simp [hs]
theorem ofd_lt {F : bkF} (hO : FOK F) (d : Nat) : ofd F d < 256 := bup_lt (N := 8) (F 5) 0 0 (by decide) (by have := hO.2.2.2.2.2.1; omega)
