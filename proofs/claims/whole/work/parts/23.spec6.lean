theorem eP_inj {x y : Option Nat} (hx : ∀ p, x = some p → p < 2 ^ 31) (hy : ∀ p, y = some p → p < 2 ^ 31) : eP x = eP y ↔ x = y := by
  have key : ∀ p, p < 2 ^ 31 → ¬ nI p = -2 := fun p hp h => by
    have h0 := nI_pos hp
    rw [h] at h0
    exact h0 (by decide)
  cases x with
  | none =>
    cases y with
    | none => simp
    | some q => simp only [eP, reduceCtorEq, iff_false]; exact fun h => key q (hy q rfl) h.symm
  | some p =>
    cases y with
    | none => simp only [eP, reduceCtorEq, iff_false]; exact key p (hx p rfl)
    | some q => simp only [eP, Option.some.injEq]; exact nI_eq (hx p rfl) (hy q rfl)
def finesf (F : bkF) (n : Nat) (g : lends) (br : Nat → Nat) (od : Option Nat) (d i : Nat) : Int32 := if F (58 + 6 * i) ≤ d then if owe F n g i = od then if doneV F n g br i = true then 0 else nI (F (60 + 6 * i)) else 0 else 0
def earnf (F : bkF) (n : Nat) (g : lends) (br : Nat → Nat) (od : Option Nat) (d i : Nat) : Int32 := if F (58 + 6 * i) ≤ d then if owe F n g i = od then if doneV F n g br i = true then nI (F (59 + 6 * i)) - nI (F (61 + 6 * i)) else 0 else 0 else 0
def yl (p : Bool) (F : bkF) (i : Nat) : Int32 := if p then nI (F (59 + 6 * i)) else -nI (F (60 + 6 * i))
def balonf (F : bkF) (n : Nat) (g : lends) (br : Nat → Nat) (d i : Nat) : Int32 := if F (58 + 6 * i) = d then yl (doneV F n g br i) F i else 0
def isOfV (F : bkF) (m d i : Nat) : Bool := decide (F (56 + 6 * i) = m) && decide (F (58 + 6 * i) = d)
def baliff (F : bkF) (m : Nat) (op : Option Nat) (d i : Nat) : Int32 := if isOfV F m d i = true then yl (wouldV F op i) F i else 0
def pricef (F : bkF) (m f u i : Nat) : Int32 := if F (56 + 6 * i) = m then if f ≤ F (58 + 6 * i) then if F (58 + 6 * i) ≤ u then nI (F (60 + 6 * i)) else 0 else 0 else 0
def befV (F : bkF) (n : Nat) (g : lends) (o : Nat) : Bool := match oweI F n g o with
  | none => false
  | some i => decide ((g i).2.2.2 = F (58 + 6 * o)) && couldV F (some (g i).2.1) o
def ldp (F : bkF) (n : Nat) (g : lends) (i : Nat) : Nat → Nat → Int32
  | 0, a => nI a
  | j + 1, a => if befV F n g i = true then if F (60 + 6 * i) < F (61 + 6 * i) then -2 else ldp F n g (i + 1) j (if a < F (61 + 6 * i) then F (61 + 6 * i) else a) else ldp F n g (i + 1) j a
def crs (F : bkF) (n : Nat) (g : lends) (br : Nat → Nat) (m d i c : Nat) : Nat := if isOfV F m d i = true then if doneV F n g br i = true then (if 99 < c + F (59 + 6 * i) then 99 else c + F (59 + 6 * i)) else c - F (60 + 6 * i) else c
def crl (F : bkF) (n : Nat) (g : lends) (br : Nat → Nat) (m d i : Nat) : Nat → Nat → Nat
  | 0, c => c
  | j + 1, c => crl F n g br m d (i + 1) j (crs F n g br m d i c)
def crd (F : bkF) (n : Nat) (g : lends) (br : Nat → Nat) (m d : Nat) : Nat → Nat → Nat
  | 0, c => c
  | j + 1, c => crd F n g br m (d + 1) j (crl F n g br m d 0 (F 4) c)
theorem clamp_up {c w : Nat} (hc : c < 100) (hw : w < 100) : (if nI 0 < (if nI c + nI w < nI 99 then nI c + nI w else nI 99) then (if nI c + nI w < nI 99 then nI c + nI w else nI 99) else nI 0) = nI (if 99 < c + w then 99 else c + w) := by
  rw [nI_add]
  by_cases h : c + w < 99
  · rw [if_pos ((nI_ltI (by omega) (by decide)).mpr h), if_neg (show ¬ 99 < c + w by omega)]
    by_cases h0 : 0 < c + w
    · rw [if_pos ((nI_ltI (by decide) (by omega)).mpr h0)]
    · rw [if_neg (fun q => h0 ((nI_ltI (by decide) (by omega)).mp q)), show c + w = 0 by omega]
  · rw [if_neg (fun q => h ((nI_ltI (by omega) (by decide)).mp q)), if_pos (by decide)]
    by_cases h2 : 99 < c + w
    · rw [if_pos h2]
    · rw [if_neg h2, show c + w = 99 by omega]
theorem clamp_dn {c w : Nat} (hc : c < 100) (hw : w < 100) : (if nI 0 < (if nI c + -nI w < nI 99 then nI c + -nI w else nI 99) then (if nI c + -nI w < nI 99 then nI c + -nI w else nI 99) else nI 0) = nI (c - w) := by
  have e : nI c + -nI w = nI c - nI w := by rw [Int32.sub_eq_add_neg]
  rw [e]
  by_cases h : w ≤ c
  · rw [pk_sub h]
    by_cases h9 : c - w < 99
    · rw [if_pos ((nI_ltI (by omega) (by decide)).mpr h9)]
      by_cases h0 : 0 < c - w
      · rw [if_pos ((nI_ltI (by decide) (by omega)).mpr h0)]
      · rw [if_neg (fun q => h0 ((nI_ltI (by decide) (by omega)).mp q)), show c - w = 0 by omega]
    · rw [if_neg (fun q => h9 ((nI_ltI (by omega) (by decide)).mp q)), if_pos (by decide), show c - w = 99 by omega]
  · have hn := pk_sneg (a := c) (b := w) (by omega) (by omega)
    have h1 : nI c - nI w < nI 99 := Int32.lt_trans hn (by decide)
    rw [if_pos h1, if_neg (fun q => Int32.lt_irrefl (Int32.lt_trans (a := nI 0) q hn)), show c - w = 0 by omega]
theorem crs_lt {F : bkF} {n : Nat} {g : lends} {br : Nat → Nat} {m d i c : Nat} (h : c < 100) : crs F n g br m d i c < 100 := by
  unfold crs; split
  · split
    · split <;> omega
    · omega
  · exact h
theorem crl_lt {F : bkF} {n : Nat} {g : lends} {br : Nat → Nat} {m d : Nat} : ∀ (j i c : Nat), c < 100 → crl F n g br m d i j c < 100
  | 0, _, _, h => h
  | j + 1, i, _, h => crl_lt j (i + 1) _ (crs_lt h)
