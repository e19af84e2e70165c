/-! whole numbers as Int32 -/
def zI (x : Int) : Int32 := Int32.ofInt x
theorem zI_add (a b : Int) : zI a + zI b = zI (a + b) := (Int32.ofInt_add _ _).symm
theorem zI_nat (n : Nat) : nI n = zI n := by
  apply Int32.toBitVec_inj.mp
  show BitVec.ofNat 32 n = BitVec.ofInt 32 n
  rw [BitVec.ofInt_natCast]
theorem zI_neg (a : Int) : -zI a = zI (-a) := (Int32.ofInt_neg _).symm
theorem zI_sub (a b : Int) : zI a - zI b = zI (a - b) := (Int32.ofInt_sub _ _).symm
theorem zI_toInt {a : Int} (h1 : -1000000 < a) (h2 : a < 1000000) : (zI a).toInt = a := by
  unfold zI
  rw [Int32.toInt_ofInt]
  exact Int.bmod_eq_of_le (by rw [show Int32.size = 4294967296 from rfl]; omega) (by rw [show Int32.size = 4294967296 from rfl]; omega)
theorem zI_lt {a b : Int} (a1 : -1000000 < a) (a2 : a < 1000000) (b1 : -1000000 < b) (b2 : b < 1000000) : zI a < zI b ↔ a < b := by rw [Int32.lt_iff_toInt_lt, zI_toInt a1 a2, zI_toInt b1 b2]
theorem zI_le {a b : Int} (a1 : -1000000 < a) (a2 : a < 1000000) (b1 : -1000000 < b) (b2 : b < 1000000) : zI a ≤ zI b ↔ a ≤ b := by rw [Int32.le_iff_toInt_le, zI_toInt a1 a2, zI_toInt b1 b2]
theorem zI_eq {a b : Int} (a1 : -1000000 < a) (a2 : a < 1000000) (b1 : -1000000 < b) (b2 : b < 1000000) : zI a = zI b ↔ a = b := by rw [← Int32.toInt_inj, zI_toInt a1 a2, zI_toInt b1 b2]
theorem zI_max {a b : Int} (a1 : -1000000 < a) (a2 : a < 1000000) (b1 : -1000000 < b) (b2 : b < 1000000) : (if zI a < zI b then zI b else zI a) = zI (if a < b then b else a) := by
  by_cases h : a < b
  · rw [if_pos h, if_pos ((zI_lt a1 a2 b1 b2).mpr h)]
  · rw [if_neg h, if_neg (fun q => h ((zI_lt a1 a2 b1 b2).mp q))]
def suz (f : Nat → Int) (i : Nat) : Nat → Int → Int
  | 0, a => a
  | j + 1, a => suz f (i + 1) j (a + f i)
theorem sui_z {f : Nat → Int32} {h : Nat → Int} : ∀ (j i : Nat) (a : Int), (∀ k, i ≤ k → k < i + j → f k = zI (h k)) → sui f i j (zI a) = zI (suz h i j a)
  | 0, _, _, _ => rfl
  | j + 1, i, a, hh => by
    simp only [sui, suz]
    rw [hh i (Nat.le_refl _) (by omega), zI_add]
    exact sui_z j (i + 1) _ (fun k h1 h2 => hh k (by omega) (by omega))
theorem suz_b {h : Nat → Int} (hb : ∀ k, -100 < h k ∧ h k < 100) : ∀ (j i : Nat) (a : Int), a - 100 * j ≤ suz h i j a ∧ suz h i j a ≤ a + 100 * j
  | 0, _, a => by simp [suz]
  | j + 1, i, a => by
    simp only [suz]
    have h1 := suz_b hb j (i + 1) (a + h i)
    have h2 := hb i
    omega
def ylz (p : Bool) (F : bkF) (i : Nat) : Int := if p then (F (59 + 6 * i) : Int) else -(F (60 + 6 * i) : Int)
def baliz (F : bkF) (m : Nat) (op : Option Nat) (d i : Nat) : Int := if i < F 4 then if isOfV F m d i = true then ylz (wouldV F op i) F i else 0 else 0
def balz (F : bkF) (m : Nat) (op : Option Nat) (d : Nat) : Int := suz (baliz F m op d) 0 (F 4) 0
theorem balz_eq {F : bkF} (m : Nat) (op : Option Nat) (d : Nat) : sui (baliff F m op d) 0 (F 4) 0 = zI (balz F m op d) := by
  refine sui_z (F 4) 0 0 (fun k _ h2 => ?_)
  simp only [baliff, baliz, if_pos (show k < F 4 by omega)]
  by_cases h : isOfV F m d k = true
  · rw [if_pos h, if_pos h]
    unfold yl ylz
    cases wouldV F op k with
    | true => exact zI_nat _
    | false => show -nI _ = zI (-_); rw [zI_nat, zI_neg]
  · rw [if_neg h, if_neg h]; rfl
theorem balz_b {F : bkF} (hO : FOK F) (m : Nat) (op : Option Nat) (d : Nat) : -1201 < balz F m op d ∧ balz F m op d < 1201 := by
  have hb : ∀ k, -100 < baliz F m op d k ∧ baliz F m op d k < 100 := fun k => by
    unfold baliz ylz
    by_cases hk : k < F 4
    · have := fk_o hO hk
      rw [if_pos hk]
      split
      · split <;> omega
      · omega
    · rw [if_neg hk]; omega
  have h4 := hO.2.2.2.2.1
  have := suz_b hb (F 4) 0 0
  unfold balz
  omega
/-- bits, from i on, among j -/
def bup (p : Nat → Bool) (i : Nat) : Nat → Nat → Nat
  | 0, a => a
  | j + 1, a => bup p (i + 1) j (a ||| if p i then 2 ^ i else 0)
theorem bup_bit {p : Nat → Bool} : ∀ (j i a k : Nat), (bup p i j a).testBit k = (a.testBit k || (decide (i ≤ k) && decide (k < i + j) && p k))
  | 0, i, a, k => by
    simp only [bup]
    by_cases h : i ≤ k ∧ k < i + 0
    · omega
    · have : (decide (i ≤ k) && decide (k < i + 0)) = false := by simp
      rw [this]; simp
  | j + 1, i, a, k => by
    simp only [bup]
    rw [bup_bit j (i + 1)]
    rw [Nat.testBit_or]
    by_cases e : k = i
    · subst e
      by_cases hp : p k = true
      · simp [hp, Nat.testBit_two_pow]
      · simp [hp]
    · have h1 : (if p i = true then 2 ^ i else 0).testBit k = false := by
        split
        · rw [Nat.testBit_two_pow]; simp; omega
        · simp
      rw [h1, Bool.or_false]
      congr 2
      by_cases h2 : i ≤ k
      · have a1 : decide (i ≤ k) = true := by simp [h2]
        have a2 : decide (i + 1 ≤ k) = true := by simp; omega
        have a3 : decide (k < i + 1 + j) = decide (k < i + (j + 1)) := by congr 1; apply propext; omega
        rw [a1, a2, a3]
      · have a1 : decide (i ≤ k) = false := by simp; omega
        have a2 : decide (i + 1 ≤ k) = false := by simp; omega
        rw [a1, a2, Bool.false_and, Bool.false_and]
theorem bup_lt {p : Nat → Bool} {N : Nat} : ∀ (j i a : Nat), a < 2 ^ N → i + j ≤ N → bup p i j a < 2 ^ N
  | 0, _, _, h, _ => h
  | j + 1, i, a, h, hn => by
    simp only [bup]
    refine bup_lt j (i + 1) _ (Nat.or_lt_two_pow h ?_) (by omega)
    split
    · exact Nat.pow_lt_pow_right (by decide) (by omega)
    · exact Nat.two_pow_pos N
def andn (h t : Nat) : Nat := h &&& (t ^^^ 4294967295)
theorem andn_bit {h t k : Nat} (hk : k < 32) : (andn h t).testBit k = (h.testBit k && !t.testBit k) := by
  unfold andn
  rw [Nat.testBit_and, Nat.testBit_xor, show (4294967295 : Nat) = 2 ^ 32 - 1 from rfl, Nat.testBit_two_pow_sub_one]
  simp [hk]
theorem andn_le (h t : Nat) : andn h t ≤ h := Nat.and_le_left
theorem andn_I (h t : Nat) : nI h &&& (nI t ^^^ -1) = nI (andn h t) := by
  have e : (-1 : Int32) = nI 4294967295 := by decide
  have ex : nI t ^^^ nI 4294967295 = nI (t ^^^ 4294967295) := by
    apply Int32.toBitVec_inj.mp
    rw [Int32.toBitVec_xor]
    show BitVec.ofNat 32 t ^^^ BitVec.ofNat 32 4294967295 = BitVec.ofNat 32 (t ^^^ 4294967295)
    rw [BitVec.ofNat_xor]
  rw [e, ex, nx_and2]; rfl
theorem one_shl {p : Nat} (hp : p < 31) : nI 1 <<< (nI p &&& 31) = nI (2 ^ p) := by
  rw [sh_n (by omega) (by have : 2 ^ p < 2 ^ 31 := Nat.pow_lt_pow_right (by decide) hp
                          omega), Nat.one_mul]
def hlpb (F : bkF) (d m p : Nat) : Bool := fitF F m p && decide (balz F m none d < balz F m (some p) d)
def hlp (F : bkF) (d m : Nat) : Nat := bup (hlpb F d m) 0 (F 3) 0
/-- the best among those that are allowed, from i on, among j -/
def mxz (ok : Nat → Bool) (w : Nat → Int) (i : Nat) : Nat → Int → Int
  | 0, a => a
  | j + 1, a => mxz ok w (i + 1) j (if ok i then (if a < w i then w i else a) else a)
def bzc (F : bkF) (d : Nat) : Nat → Nat → Int
  | 0, _ => 0
  | k + 1, s => mxz (fun p => (hlp F d (F 2 - (k + 1))).testBit p && !s.testBit p) (fun p => balz F (F 2 - (k + 1)) (some p) d + bzc F d k (s ||| 2 ^ p)) 0 (F 3) (balz F (F 2 - (k + 1)) none d + bzc F d k s)
theorem mxz_b {ok : Nat → Bool} {w : Nat → Int} {lo hi : Int} (hw : ∀ i, lo < w i ∧ w i < hi) : ∀ (j i : Nat) (a : Int), lo < a → a < hi → lo < mxz ok w i j a ∧ mxz ok w i j a < hi
  | 0, _, _, h1, h2 => ⟨h1, h2⟩
  | j + 1, i, a, h1, h2 => by
    simp only [mxz]
    have h3 := hw i
    refine mxz_b hw j (i + 1) _ ?_ ?_ <;> (split <;> (try split) <;> omega)
theorem bzc_b {F : bkF} (hO : FOK F) (d : Nat) : ∀ (k s : Nat), -1201 * (k + 1 : Int) < bzc F d k s ∧ bzc F d k s < 1201 * (k + 1 : Int)
  | 0, _ => by simp [bzc]
  | k + 1, s => by
    simp only [bzc]
    have h0 := bzc_b hO d k s
    have hb := balz_b hO (F 2 - (k + 1)) none d
    refine mxz_b (fun p => ?_) (F 3) 0 _ (by push_cast; omega) (by push_cast; omega)
    have h1 := bzc_b hO d k (s ||| 2 ^ p)
    have h2 := balz_b hO (F 2 - (k + 1)) (some p) d
    push_cast
    omega
/-- what the planner holds once it has weighed a day -/
def PlI (I : HI) (F : bkF) (d : Nat) : Prop :=
  (∀ m, m < F 2 → I 146 m = zI (balz F m none d)) ∧ (∀ m, m < F 2 → ∀ p, p < F 3 → fitF F m p = true → I 147 (m * 6 + p) = zI (balz F m (some p) d)) ∧ (∀ m, m < F 2 → I 148 m = nI (hlp F d m))
theorem hlp_bit {F : bkF} {d m p : Nat} (hp : p < F 3) : (hlp F d m).testBit p = hlpb F d m p := by
  unfold hlp
  rw [bup_bit]
  simp [hp]
theorem hlp_lt {F : bkF} (hO : FOK F) (d m : Nat) : hlp F d m < 64 := bup_lt (N := 6) (F 3) 0 0 (by decide) (by have := hO.2.2.2.1; omega)
def fbz (F : bkF) (d m s : Nat) : Option Nat := if balz F m none d + bzc F d (F 2 - (m + 1)) s = bzc F d (F 2 - m) s then none else fup (fun p => (hlp F d m).testBit p && !s.testBit p && decide (balz F m (some p) d + bzc F d (F 2 - (m + 1)) (s ||| 2 ^ p) = bzc F d (F 2 - m) s)) 0 (F 3)
def chz (F : bkF) (d m : Nat) : Nat → Nat → Option Nat → Option Nat
  | 0, _, c => c
  | j + 1, s, _ => chz F d (m + 1) j (match fbz F d m s with | none => s | some p => s ||| 2 ^ p) (fbz F d m s)
def PbI (I : HI) (F : bkF) (d lo : Nat) : Prop := ∀ m, lo ≤ m → m ≤ F 2 → ∀ s, s < 64 → I 149 (m * 64 + s) = zI (bzc F d (F 2 - m) s)
