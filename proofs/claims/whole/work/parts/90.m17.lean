theorem sun_0 {f : Nat → Nat} : ∀ (j i a : Nat), (∀ k, i ≤ k → k < i + j → f k = 0) → sun f i j a = a
  | 0, _, _, _ => rfl
  | j + 1, i, a, h => by
    show sun f (i + 1) j (a + f i) = a
    rw [h i (Nat.le_refl _) (by omega), Nat.add_zero]
    exact sun_0 j (i + 1) a (fun k q1 q2 => h k (by omega) (by omega))
theorem sun_cg {f g : Nat → Nat} : ∀ (j i a : Nat), (∀ k, i ≤ k → k < i + j → f k = g k) → sun f i j a = sun g i j a
  | 0, _, _, _ => rfl
  | j + 1, i, a, h => by
    show sun f (i + 1) j (a + f i) = sun g (i + 1) j (a + g i)
    rw [h i (Nat.le_refl _) (by omega)]
    exact sun_cg j (i + 1) _ (fun k q1 q2 => h k (by omega) (by omega))
theorem or_64 {s p : Nat} (hs : s < 64) (hp : p < 6) : s ||| 2 ^ p < 64 := Nat.or_lt_two_pow (n := 6) hs (p2lt hp)
def wst (P : Nat) (c s : Nat) (w : Nat → Nat) (p : Nat) : Nat := if (c.testBit p && !s.testBit p) = true then w (s ||| 2 ^ p) else 0
theorem wys_st {P : Nat} {G : Nat → Bool} {C : Nat → Nat} (hGC : ∀ m, G m = true → C m = 0) (k m s : Nat) : sun (wst P (C m) s (wys P G C k (m + 1))) 0 P (if G m = true then wys P G C k (m + 1) s else 0) = wys P G C (k + 1) m s := by
  show _ = if G m = true then wys P G C k (m + 1) s else sun (fun p => if ((C m).testBit p && !s.testBit p) = true then wys P G C k (m + 1) (s ||| 2 ^ p) else 0) 0 P 0
  by_cases h : G m = true
  · rw [if_pos h, if_pos h]
    exact sun_0 _ _ _ (fun p _ _ => by unfold wst; rw [hGC m h, Nat.zero_testBit]; rfl)
  · rw [if_neg h, if_neg h]; rfl
def Gt (F : bkF) (s : LSt) (d r : Nat) (t1 t2 : Option (Nat × Option Nat)) (m : Nat) : Bool := mwV F s.1 s.2.1 d r m none && (tl t1 m none && tl t2 m none)
def Ctp (F : bkF) (s : LSt) (d r : Nat) (t1 t2 : Option (Nat × Option Nat)) (m p : Nat) : Bool := mwV F s.1 s.2.1 d r m (some p) && (tl t1 m (some p) && tl t2 m (some p))
def Ct (F : bkF) (s : LSt) (d r : Nat) (t1 t2 : Option (Nat × Option Nat)) (m : Nat) : Nat := bup (Ctp F s d r t1 t2 m) 0 (F 3) 0
theorem bup_0 {p : Nat → Bool} (h : ∀ k, p k = false) : ∀ (j i a : Nat), bup p i j a = a
  | 0, _, _ => rfl
  | j + 1, i, a => by
    show bup p (i + 1) j (a ||| if p i then 2 ^ i else 0) = a
    rw [h i]
    have e : (a ||| if false = true then 2 ^ i else 0) = a := by rw [if_neg (by decide), Nat.or_zero]
    rw [e]; exact bup_0 h j (i + 1) a
theorem Gt_Ct {F : bkF} {s : LSt} {d r : Nat} {t1 t2 : Option (Nat × Option Nat)} (m : Nat) (h : Gt F s d r t1 t2 m = true) : Ct F s d r t1 t2 m = 0 := by
  unfold Gt at h
  rw [Bool.and_eq_true] at h
  have h1 : pgk F s.1 s.2.1 d r (F 5) m = true := h.1
  refine bup_0 (fun p => ?_) _ _ _
  show ((!pgk F s.1 s.2.1 d r (F 5) m && _) && _) = false
  rw [h1]; rfl
theorem Ct_lt {F : bkF} {s : LSt} {d r : Nat} {t1 t2 : Option (Nat × Option Nat)} (hO : FOK F) (m : Nat) : Ct F s d r t1 t2 m < 64 := bup_lt (N := 6) (F 3) 0 0 (by decide) (by have := hO.2.2.2.1; omega)
section
variable {b : Nat} {ad : Nat → Nat} {I J : HI} {L M : HL} {R : HR} {Q : QT} {F : bkF} {s : LSt} {a o : Nat}
theorem l_cw4 {d r m c z a0 : Nat} {g : Bool} {w : Nat → Nat} (hR : RO R) (hr : RfI I F s) (hm : m < F 2) (hc : c < 64) (hz : z < 64) (hL : ∀ y, y < 64 → L 170 (64 * (m + 1) + y) = lN (w y)) (hQ : VV yX12_countWearers cX12_countWearers 11 (some .long) 4 Q b ad 242 [some (.ref (b + 157)), some (.int (nI d)), some (.int (nI r)), some (.int (nI (F 2))), (some (.int (nI m))), (some (.int (bI g))), (some (.int (nI c))), (some (.int (nI z))), (some (.long (lN (sun (wst (F 3) c z w) 0 (F 3) a0)))), none, (some (.int (nI (F 3))))] [] I L R) : VV yX12_countWearers cX12_countWearers 11 (some .long) 4 Q b ad 176 [some (.ref (b + 157)), some (.int (nI d)), some (.int (nI r)), some (.int (nI (F 2))), (some (.int (nI m))), (some (.int (bI g))), (some (.int (nI c))), (some (.int (nI z))), (some (.long (lN a0))), none, (some (.int (nI 0)))] [] I L R := by
  have hO := hr.1.2.2.1
  have o2 := hO.2.2.1
  have o3 := hO.2.2.2.1
  have o5 := hO.2.2.2.2.2.1
  have o0 := hO.1
  have hF := hr.1.1.2
  have hS := hr.2.1
  have hK := hr.2.2
  have loop : ∀ (j p a : Nat), p + j = F 3 → sun (wst (F 3) c z w) p j a = sun (wst (F 3) c z w) 0 (F 3) a0 → VV yX12_countWearers cX12_countWearers 11 (some .long) 4 Q b ad 176 [some (.ref (b + 157)), some (.int (nI d)), some (.int (nI r)), some (.int (nI (F 2))), (some (.int (nI m))), (some (.int (bI g))), (some (.int (nI c))), (some (.int (nI z))), (some (.long (lN a))), none, (some (.int (nI p)))] [] I L R := by
    intro j
    induction j with
    | zero =>
      intro p a hp he
      have hp : p = F 3 := hp
      have he : a = _ := he
      subst he; subst hp
      refine v_iload_10 dX12_countWearers_176 ?_
      refine v_aload_0 dX12_countWearers_178 ?_
      refine u_getR dX12_countWearers_179 gf_X12_20 (by first | assumption | rfl | exact led_1 (by assumption) | exact led_2 (by assumption) | exact bk_m (by assumption) (by first | assumption | omega) | exact bk_p (by assumption) (by first | assumption | omega) | exact bk_o (by assumption) (by first | assumption | omega) | exact bk_s (by assumption) (by first | assumption | omega) | exact bk_1 (by assumption) | exact bk_2 (by assumption) | exact bk_3 (by assumption) | exact bk_4 (by assumption) | exact bk_5 (by assumption) | exact bk_6 (by assumption) | exact bk_7 (by assumption) | exact bk_8 (by assumption) | exact sh_ring _ (by first | assumption | omega) | exact sh_imgs _ (by first | assumption | omega)) (ro_X12_15 (by assumption)) ?_
      refine v_iconst (v := nI 3) dX12_countWearers_182 (by decide) ?_
      refine u_iald dX12_countWearers_183 (by first | assumption | rfl | exact led_1 (by assumption) | exact led_2 (by assumption) | exact bk_m (by assumption) (by first | assumption | omega) | exact bk_p (by assumption) (by first | assumption | omega) | exact bk_o (by assumption) (by first | assumption | omega) | exact bk_s (by assumption) (by first | assumption | omega) | exact bk_1 (by assumption) | exact bk_2 (by assumption) | exact bk_3 (by assumption) | exact bk_4 (by assumption) | exact bk_5 (by assumption) | exact bk_6 (by assumption) | exact bk_7 (by assumption) | exact bk_8 (by assumption) | exact sh_ring _ (by first | assumption | omega) | exact sh_imgs _ (by first | assumption | omega)) (by first | with_reducible rfl | (simp only [nlit, nI_add, pk_mul]; with_reducible rfl) | rfl) (by first | assumption | omega) (by first | assumption | decide) ?_
      rw [hF 3 (by decide)]
      refine v_icmp_ge (tgt := 242) dX12_countWearers_184 (by decide) (fun hc184 => ?_) (fun hc184 => ?_)
      · (try rw [nI_leI (by omega) (by omega)] at hc184)
        exact hQ
      · exact absurd (nI_le (by omega) (by omega)) hc184
    | succ j ih =>
      intro p a hpj he
      have hp : p < F 3 := by omega
      have he : sun (wst (F 3) c z w) (p + 1) j (a + wst (F 3) c z w p) = sun (wst (F 3) c z w) 0 (F 3) a0 := he
      have hor := or_64 (p := p) hz (by omega)
      have hix : 64 * (m + 1) + (z ||| 2 ^ p) < 448 := by omega
      refine v_iload_10 dX12_countWearers_176 ?_
      refine v_aload_0 dX12_countWearers_178 ?_
      refine u_getR dX12_countWearers_179 gf_X12_20 (by first | assumption | rfl | exact led_1 (by assumption) | exact led_2 (by assumption) | exact bk_m (by assumption) (by first | assumption | omega) | exact bk_p (by assumption) (by first | assumption | omega) | exact bk_o (by assumption) (by first | assumption | omega) | exact bk_s (by assumption) (by first | assumption | omega) | exact bk_1 (by assumption) | exact bk_2 (by assumption) | exact bk_3 (by assumption) | exact bk_4 (by assumption) | exact bk_5 (by assumption) | exact bk_6 (by assumption) | exact bk_7 (by assumption) | exact bk_8 (by assumption) | exact sh_ring _ (by first | assumption | omega) | exact sh_imgs _ (by first | assumption | omega)) (ro_X12_15 (by assumption)) ?_
      refine v_iconst (v := nI 3) dX12_countWearers_182 (by decide) ?_
      refine u_iald dX12_countWearers_183 (by first | assumption | rfl | exact led_1 (by assumption) | exact led_2 (by assumption) | exact bk_m (by assumption) (by first | assumption | omega) | exact bk_p (by assumption) (by first | assumption | omega) | exact bk_o (by assumption) (by first | assumption | omega) | exact bk_s (by assumption) (by first | assumption | omega) | exact bk_1 (by assumption) | exact bk_2 (by assumption) | exact bk_3 (by assumption) | exact bk_4 (by assumption) | exact bk_5 (by assumption) | exact bk_6 (by assumption) | exact bk_7 (by assumption) | exact bk_8 (by assumption) | exact sh_ring _ (by first | assumption | omega) | exact sh_imgs _ (by first | assumption | omega)) (by first | with_reducible rfl | (simp only [nlit, nI_add, pk_mul]; with_reducible rfl) | rfl) (by first | assumption | omega) (by first | assumption | decide) ?_
      rw [hF 3 (by decide)]
      refine v_icmp_ge (tgt := 242) dX12_countWearers_184 (by decide) (fun hc184 => ?_) (fun hc184 => ?_)
      · exact absurd hc184 (nI_ge (by omega) (by omega))
      · (try rw [nI_leI (by omega) (by omega)] at hc184)
        refine v_lload_8 dX12_countWearers_187 ?_
        refine v_iload_6 dX12_countWearers_189 ?_
        refine v_iload_10 dX12_countWearers_191 ?_
        refine u_callS_2 dX12_countWearers_193 ml_X12_158 ms_X12_has (by decide) (Nat.le_of_ble_eq_true rfl) (c_X12_has (by omega) (by omega) ?_)
        refine v_if_eq (tgt := 232) dX12_countWearers_196 (by decide) (fun hc196 => ?_) (fun hc196 => ?_)
        · (first | rw [bI_0, Bool.not_eq_false] at hc196 | rw [bI_0] at hc196 | rw [show (0 : Int32) = nI 0 from rfl, nI_eq (by omega) (by omega)] at hc196 | skip)
          refine v_lconst (v := 0) dX12_countWearers_232 (by decide) ?_
          refine v_ladd dX12_countWearers_233 ?_
          first | rw [lN_add] | rw [show ∀ q : Int64, q + 0 = q from Int64.add_zero]
          refine v_lstore_8 rfl dX12_countWearers_234 ?_
          refine v_iinc_10 (v := 1) rfl dX12_countWearers_236 (by decide) ?_
          rw [show nI p + 1 = nI (p + 1) from nI_1 p]
          refine v_goto (tgt := 176) dX12_countWearers_239 (by decide) ?_
          first
            | (have e : wst (F 3) c z w p = w (z ||| 2 ^ p) := (by unfold wst; rw [hc196, hc206]; rfl); rw [e] at he; exact ih (p + 1) _ (by omega) he)
            | (have e : wst (F 3) c z w p = 0 := (by unfold wst; rw [hc196, hc206]; rfl); rw [e, Nat.add_zero] at he; exact ih (p + 1) _ (by omega) he)
            | (have e : wst (F 3) c z w p = 0 := (by unfold wst; rw [hc196]; rfl); rw [e, Nat.add_zero] at he; exact ih (p + 1) _ (by omega) he)
        · (first | rw [bI_0, Bool.not_eq_false] at hc196 | rw [bI_0] at hc196 | rw [show (0 : Int32) = nI 0 from rfl, nI_eq (by omega) (by omega)] at hc196 | skip)
          refine v_iload_7 dX12_countWearers_199 ?_
          refine v_iload_10 dX12_countWearers_201 ?_
          refine u_callS_2 dX12_countWearers_203 ml_X12_158 ms_X12_has (by decide) (Nat.le_of_ble_eq_true rfl) (c_X12_has (by omega) (by omega) ?_)
          refine v_if_ne (tgt := 232) dX12_countWearers_206 (by decide) (fun hc206 => ?_) (fun hc206 => ?_)
          · (first | rw [bI_0, Bool.not_eq_false] at hc206 | rw [bI_0] at hc206 | rw [show (0 : Int32) = nI 0 from rfl, nI_eq (by omega) (by omega)] at hc206 | skip)
            refine v_lconst (v := 0) dX12_countWearers_232 (by decide) ?_
            refine v_ladd dX12_countWearers_233 ?_
            first | rw [lN_add] | rw [show ∀ q : Int64, q + 0 = q from Int64.add_zero]
            refine v_lstore_8 rfl dX12_countWearers_234 ?_
            refine v_iinc_10 (v := 1) rfl dX12_countWearers_236 (by decide) ?_
            rw [show nI p + 1 = nI (p + 1) from nI_1 p]
            refine v_goto (tgt := 176) dX12_countWearers_239 (by decide) ?_
            first
              | (have e : wst (F 3) c z w p = w (z ||| 2 ^ p) := (by unfold wst; rw [hc196, hc206]; rfl); rw [e] at he; exact ih (p + 1) _ (by omega) he)
              | (have e : wst (F 3) c z w p = 0 := (by unfold wst; rw [hc196, hc206]; rfl); rw [e, Nat.add_zero] at he; exact ih (p + 1) _ (by omega) he)
              | (have e : wst (F 3) c z w p = 0 := (by unfold wst; rw [hc196]; rfl); rw [e, Nat.add_zero] at he; exact ih (p + 1) _ (by omega) he)
          · (first | rw [bI_0, Bool.not_eq_false] at hc206 | rw [bI_0] at hc206 | rw [show (0 : Int32) = nI 0 from rfl, nI_eq (by omega) (by omega)] at hc206 | skip)
            refine v_aload_0 dX12_countWearers_209 ?_
            refine u_getR dX12_countWearers_210 gf_X12_50 (by first | assumption | rfl | exact led_1 (by assumption) | exact led_2 (by assumption) | exact bk_m (by assumption) (by first | assumption | omega) | exact bk_p (by assumption) (by first | assumption | omega) | exact bk_o (by assumption) (by first | assumption | omega) | exact bk_s (by assumption) (by first | assumption | omega) | exact bk_1 (by assumption) | exact bk_2 (by assumption) | exact bk_3 (by assumption) | exact bk_4 (by assumption) | exact bk_5 (by assumption) | exact bk_6 (by assumption) | exact bk_7 (by assumption) | exact bk_8 (by assumption) | exact sh_ring _ (by first | assumption | omega) | exact sh_imgs _ (by first | assumption | omega)) (ro_X12_32 (by assumption)) ?_
            refine v_bipush (v := nI 64) dX12_countWearers_213 (by decide) ?_
            refine v_iload_4 dX12_countWearers_215 ?_
            refine v_iconst (v := nI 1) dX12_countWearers_217 (by decide) ?_
            refine v_iadd dX12_countWearers_218 ?_
            rw [nI_add]
            refine v_imul dX12_countWearers_219 ?_
            rw [pk_mul]
            refine v_iload_7 dX12_countWearers_220 ?_
            refine v_iconst (v := nI 1) dX12_countWearers_222 (by decide) ?_
            refine v_iload_10 dX12_countWearers_223 ?_
            refine v_ishl dX12_countWearers_225 ?_
            rw [one_shl (by omega)]
            refine v_ior dX12_countWearers_226 ?_
            rw [nx_or]
            refine v_iadd dX12_countWearers_227 ?_
            rw [nI_add]
            refine u_lald dX12_countWearers_228 (by first | assumption | rfl | exact led_1 (by assumption) | exact led_2 (by assumption) | exact bk_m (by assumption) (by first | assumption | omega) | exact bk_p (by assumption) (by first | assumption | omega) | exact bk_o (by assumption) (by first | assumption | omega) | exact bk_s (by assumption) (by first | assumption | omega) | exact bk_1 (by assumption) | exact bk_2 (by assumption) | exact bk_3 (by assumption) | exact bk_4 (by assumption) | exact bk_5 (by assumption) | exact bk_6 (by assumption) | exact bk_7 (by assumption) | exact bk_8 (by assumption) | exact sh_ring _ (by first | assumption | omega) | exact sh_imgs _ (by first | assumption | omega)) (by first | with_reducible rfl | (simp only [nlit, nI_add, pk_mul]; with_reducible rfl) | rfl) (by first | assumption | omega) (by first | assumption | decide) ?_
            rw [hL _ hor]
            refine v_goto (tgt := 233) dX12_countWearers_229 (by decide) ?_
            refine v_ladd dX12_countWearers_233 ?_
            first | rw [lN_add] | rw [show ∀ q : Int64, q + 0 = q from Int64.add_zero]
            refine v_lstore_8 rfl dX12_countWearers_234 ?_
            refine v_iinc_10 (v := 1) rfl dX12_countWearers_236 (by decide) ?_
            rw [show nI p + 1 = nI (p + 1) from nI_1 p]
            refine v_goto (tgt := 176) dX12_countWearers_239 (by decide) ?_
            first
              | (have e : wst (F 3) c z w p = w (z ||| 2 ^ p) := (by unfold wst; rw [hc196, hc206]; rfl); rw [e] at he; exact ih (p + 1) _ (by omega) he)
              | (have e : wst (F 3) c z w p = 0 := (by unfold wst; rw [hc196, hc206]; rfl); rw [e, Nat.add_zero] at he; exact ih (p + 1) _ (by omega) he)
              | (have e : wst (F 3) c z w p = 0 := (by unfold wst; rw [hc196]; rfl); rw [e, Nat.add_zero] at he; exact ih (p + 1) _ (by omega) he)
  exact loop (F 3) 0 a0 (by omega) rfl
theorem l_cw3 {d r m c : Nat} {g : Bool} {w : Nat → Nat} (hR : RO R) (hr : RfI I F s) (hm : m < F 2) (hc : c < 64) (hL : ∀ y, y < 64 → L 170 (64 * (m + 1) + y) = lN (w y)) (hQ : ∀ M : HL, (∀ x, x ≠ 170 → M x = L x) → (∀ z, z < 64 → M 170 (64 * m + z) = lN (sun (wst (F 3) c z w) 0 (F 3) (if g = true then w z else 0))) → ∀ x p : Option Value, VV yX12_countWearers cX12_countWearers 11 (some .long) 4 Q b ad 263 [some (.ref (b + 157)), some (.int (nI d)), some (.int (nI r)), some (.int (nI (F 2))), (some (.int (nI m))), (some (.int (bI g))), (some (.int (nI c))), (some (.int (nI 64))), x, none, p] [] I M R) (x p : Option Value) : VV yX12_countWearers cX12_countWearers 11 (some .long) 4 Q b ad 140 [some (.ref (b + 157)), some (.int (nI d)), some (.int (nI r)), some (.int (nI (F 2))), (some (.int (nI m))), (some (.int (bI g))), (some (.int (nI c))), (some (.int (nI 0))), x, none, p] [] I L R := by
  have hO := hr.1.2.2.1
  have o2 := hO.2.2.1
  have o3 := hO.2.2.2.1
  have o5 := hO.2.2.2.2.2.1
  have o0 := hO.1
  have hF := hr.1.1.2
  have hS := hr.2.1
  have hK := hr.2.2
  have loop : ∀ (j z : Nat) (M : HL) (x p : Option Value), z + j = 64 → (∀ x, x ≠ 170 → M x = L x) → (∀ k, 64 * (m + 1) ≤ k → M 170 k = L 170 k) → (∀ y, y < z → M 170 (64 * m + y) = lN (sun (wst (F 3) c y w) 0 (F 3) (if g = true then w y else 0))) → VV yX12_countWearers cX12_countWearers 11 (some .long) 4 Q b ad 140 [some (.ref (b + 157)), some (.int (nI d)), some (.int (nI r)), some (.int (nI (F 2))), (some (.int (nI m))), (some (.int (bI g))), (some (.int (nI c))), (some (.int (nI z))), x, none, p] [] I M R := by
    intro j
    induction j with
    | zero =>
      intro z M x p hz m1 m2 m3
      have hz : z = 64 := hz
      subst hz
      refine v_iload_7 dX12_countWearers_140 ?_
      refine v_bipush (v := nI 64) dX12_countWearers_142 (by decide) ?_
      refine v_icmp_ge (tgt := 263) dX12_countWearers_144 (by decide) (fun hc144 => ?_) (fun hc144 => ?_)
      · (try rw [nI_leI (by omega) (by omega)] at hc144)
        exact hQ M m1 m3 _ _
      · exact absurd (by decide) hc144
    | succ j ih =>
      intro z M x p hzj m1 m2 m3
      have hz : z < 64 := by omega
      have hL2 : ∀ y, y < 64 → M 170 (64 * (m + 1) + y) = lN (w y) := fun y hy => by rw [m2 _ (by omega)]; exact hL y hy
      have fin : ∀ a, (if g = true then w z else 0) = a → VV yX12_countWearers cX12_countWearers 11 (some .long) 4 Q b ad 242 [some (.ref (b + 157)), some (.int (nI d)), some (.int (nI r)), some (.int (nI (F 2))), (some (.int (nI m))), (some (.int (bI g))), (some (.int (nI c))), (some (.int (nI z))), (some (.long (lN (sun (wst (F 3) c z w) 0 (F 3) a)))), none, (some (.int (nI (F 3))))] [] I M R := by
        intro a ea
        refine v_aload_0 dX12_countWearers_242 ?_
        refine u_getR dX12_countWearers_243 gf_X12_50 (by first | assumption | rfl | exact led_1 (by assumption) | exact led_2 (by assumption) | exact bk_m (by assumption) (by first | assumption | omega) | exact bk_p (by assumption) (by first | assumption | omega) | exact bk_o (by assumption) (by first | assumption | omega) | exact bk_s (by assumption) (by first | assumption | omega) | exact bk_1 (by assumption) | exact bk_2 (by assumption) | exact bk_3 (by assumption) | exact bk_4 (by assumption) | exact bk_5 (by assumption) | exact bk_6 (by assumption) | exact bk_7 (by assumption) | exact bk_8 (by assumption) | exact sh_ring _ (by first | assumption | omega) | exact sh_imgs _ (by first | assumption | omega)) (ro_X12_32 (by assumption)) ?_
        refine v_bipush (v := nI 64) dX12_countWearers_246 (by decide) ?_
        refine v_iload_4 dX12_countWearers_248 ?_
        refine v_imul dX12_countWearers_250 ?_
        rw [pk_mul]
        refine v_iload_7 dX12_countWearers_251 ?_
        refine v_iadd dX12_countWearers_253 ?_
        rw [nI_add]
        refine v_lload_8 dX12_countWearers_254 ?_
        refine u_last dX12_countWearers_256 (by first | assumption | rfl | exact led_1 (by assumption) | exact led_2 (by assumption) | exact bk_m (by assumption) (by first | assumption | omega) | exact bk_p (by assumption) (by first | assumption | omega) | exact bk_o (by assumption) (by first | assumption | omega) | exact bk_s (by assumption) (by first | assumption | omega) | exact bk_1 (by assumption) | exact bk_2 (by assumption) | exact bk_3 (by assumption) | exact bk_4 (by assumption) | exact bk_5 (by assumption) | exact bk_6 (by assumption) | exact bk_7 (by assumption) | exact bk_8 (by assumption) | exact sh_ring _ (by first | assumption | omega) | exact sh_imgs _ (by first | assumption | omega)) (by first | with_reducible rfl | (simp only [nlit, nI_add, pk_mul]; with_reducible rfl) | rfl) (by first | assumption | omega) (by first | assumption | decide) ?_
        refine v_iinc_7 (v := 1) rfl dX12_countWearers_257 (by decide) ?_
        rw [show nI z + 1 = nI (z + 1) from nI_1 z]
        refine v_goto (tgt := 140) dX12_countWearers_260 (by decide) ?_
        refine ih (z + 1) _ _ _ (by omega) (fun x q => by rw [ul_ne q]; exact m1 x q) (fun k q => by rw [ul_o (by omega)]; exact m2 k q) (fun y hy => ?_)
        by_cases e : y = z
        · subst e; rw [ul_s, ea]
        · rw [ul_o (by omega)]; exact m3 y (by omega)
      refine v_iload_7 dX12_countWearers_140 ?_
      refine v_bipush (v := nI 64) dX12_countWearers_142 (by decide) ?_
      refine v_icmp_ge (tgt := 263) dX12_countWearers_144 (by decide) (fun hc144 => ?_) (fun hc144 => ?_)
      · first | omega | (have q := (nI_leI (by omega) (by omega)).mp hc144; omega)
      · (try rw [nI_leI (by omega) (by omega)] at hc144)
        refine v_iload_5 dX12_countWearers_147 ?_
        refine v_if_eq (tgt := 170) dX12_countWearers_149 (by decide) (fun hc149 => ?_) (fun hc149 => ?_)
        · (first | rw [bI_0, Bool.not_eq_false] at hc149 | rw [bI_0] at hc149 | rw [show (0 : Int32) = nI 0 from rfl, nI_eq (by omega) (by omega)] at hc149 | skip)
          refine v_lconst (v := 0) dX12_countWearers_170 (by decide) ?_
          refine v_lstore_8 rfl dX12_countWearers_171 ?_
          refine v_iconst (v := nI 0) dX12_countWearers_173 (by decide) ?_
          refine v_istore_10 rfl dX12_countWearers_174 ?_
          first
            | exact l_cw4 (a0 := w z) hR hr hm hc hz hL2 (fin _ (if_pos hc149))
            | exact l_cw4 (a0 := 0) hR hr hm hc hz hL2 (fin _ (if_neg (by rw [hc149]; decide)))
        · (first | rw [bI_0, Bool.not_eq_false] at hc149 | rw [bI_0] at hc149 | rw [show (0 : Int32) = nI 0 from rfl, nI_eq (by omega) (by omega)] at hc149 | skip)
          refine v_aload_0 dX12_countWearers_152 ?_
          refine u_getR dX12_countWearers_153 gf_X12_50 (by first | assumption | rfl | exact led_1 (by assumption) | exact led_2 (by assumption) | exact bk_m (by assumption) (by first | assumption | omega) | exact bk_p (by assumption) (by first | assumption | omega) | exact bk_o (by assumption) (by first | assumption | omega) | exact bk_s (by assumption) (by first | assumption | omega) | exact bk_1 (by assumption) | exact bk_2 (by assumption) | exact bk_3 (by assumption) | exact bk_4 (by assumption) | exact bk_5 (by assumption) | exact bk_6 (by assumption) | exact bk_7 (by assumption) | exact bk_8 (by assumption) | exact sh_ring _ (by first | assumption | omega) | exact sh_imgs _ (by first | assumption | omega)) (ro_X12_32 (by assumption)) ?_
          refine v_bipush (v := nI 64) dX12_countWearers_156 (by decide) ?_
          refine v_iload_4 dX12_countWearers_158 ?_
          refine v_iconst (v := nI 1) dX12_countWearers_160 (by decide) ?_
          refine v_iadd dX12_countWearers_161 ?_
          rw [nI_add]
          refine v_imul dX12_countWearers_162 ?_
          rw [pk_mul]
          refine v_iload_7 dX12_countWearers_163 ?_
          refine v_iadd dX12_countWearers_165 ?_
          rw [nI_add]
          refine u_lald dX12_countWearers_166 (by first | assumption | rfl | exact led_1 (by assumption) | exact led_2 (by assumption) | exact bk_m (by assumption) (by first | assumption | omega) | exact bk_p (by assumption) (by first | assumption | omega) | exact bk_o (by assumption) (by first | assumption | omega) | exact bk_s (by assumption) (by first | assumption | omega) | exact bk_1 (by assumption) | exact bk_2 (by assumption) | exact bk_3 (by assumption) | exact bk_4 (by assumption) | exact bk_5 (by assumption) | exact bk_6 (by assumption) | exact bk_7 (by assumption) | exact bk_8 (by assumption) | exact sh_ring _ (by first | assumption | omega) | exact sh_imgs _ (by first | assumption | omega)) (by first | with_reducible rfl | (simp only [nlit, nI_add, pk_mul]; with_reducible rfl) | rfl) (by first | assumption | omega) (by first | assumption | decide) ?_
          rw [hL2 z hz]
          refine v_goto (tgt := 171) dX12_countWearers_167 (by decide) ?_
          refine v_lstore_8 rfl dX12_countWearers_171 ?_
          refine v_iconst (v := nI 0) dX12_countWearers_173 (by decide) ?_
          refine v_istore_10 rfl dX12_countWearers_174 ?_
          first
            | exact l_cw4 (a0 := w z) hR hr hm hc hz hL2 (fin _ (if_pos hc149))
            | exact l_cw4 (a0 := 0) hR hr hm hc hz hL2 (fin _ (if_neg (by rw [hc149]; decide)))
  exact loop 64 0 L x p (by omega) (fun _ _ => rfl) (fun _ _ => rfl) (fun y hy => absurd hy (Nat.not_lt_zero _))
theorem l_cw2 {d r m : Nat} {g : Bool} {t1 t2 : Option (Nat × Option Nat)} (hR : RO R) (hr : RfI I F s) (hm : m < F 2) (hd : d < 2 ^ 31) (hrr : r < 2 ^ 31) (hrd : ∀ z, z < F 5 → r.testBit z = true → F (129 + 5 * z) = d) (ht1 : TlI I 28 t1) (ht2 : TlI I 30 t2) (x v : Option Value) (hQ : VV yX12_countWearers cX12_countWearers 11 (some .long) 4 Q b ad 137 [some (.ref (b + 157)), some (.int (nI d)), some (.int (nI r)), some (.int (nI (F 2))), (some (.int (nI m))), (some (.int (bI g))), (some (.int (nI (Ct F s d r t1 t2 m)))), (some (.int (nI (F 3)))), x, none, v] [] I L R) : VV yX12_countWearers cX12_countWearers 11 (some .long) 4 Q b ad 83 [some (.ref (b + 157)), some (.int (nI d)), some (.int (nI r)), some (.int (nI (F 2))), (some (.int (nI m))), (some (.int (bI g))), (some (.int (nI 0))), (some (.int (nI 0))), x, none, v] [] I L R := by
  have hO := hr.1.2.2.1
  have o2 := hO.2.2.1
  have o3 := hO.2.2.2.1
  have o5 := hO.2.2.2.2.2.1
  have o0 := hO.1
  have hF := hr.1.1.2
  have hS := hr.2.1
  have hK := hr.2.2
  have loop : ∀ (j p a : Nat), p + j = F 3 → bup (Ctp F s d r t1 t2 m) p j a = Ct F s d r t1 t2 m → VV yX12_countWearers cX12_countWearers 11 (some .long) 4 Q b ad 83 [some (.ref (b + 157)), some (.int (nI d)), some (.int (nI r)), some (.int (nI (F 2))), (some (.int (nI m))), (some (.int (bI g))), (some (.int (nI a))), (some (.int (nI p))), x, none, v] [] I L R := by
    intro j
    induction j with
    | zero =>
      intro p a hp he
      have hp : p = F 3 := hp
      have he : a = _ := he
      subst he; subst hp
      refine v_iload_7 dX12_countWearers_83 ?_
      refine v_aload_0 dX12_countWearers_85 ?_
      refine u_getR dX12_countWearers_86 gf_X12_20 (by first | assumption | rfl | exact led_1 (by assumption) | exact led_2 (by assumption) | exact bk_m (by assumption) (by first | assumption | omega) | exact bk_p (by assumption) (by first | assumption | omega) | exact bk_o (by assumption) (by first | assumption | omega) | exact bk_s (by assumption) (by first | assumption | omega) | exact bk_1 (by assumption) | exact bk_2 (by assumption) | exact bk_3 (by assumption) | exact bk_4 (by assumption) | exact bk_5 (by assumption) | exact bk_6 (by assumption) | exact bk_7 (by assumption) | exact bk_8 (by assumption) | exact sh_ring _ (by first | assumption | omega) | exact sh_imgs _ (by first | assumption | omega)) (ro_X12_15 (by assumption)) ?_
      refine v_iconst (v := nI 3) dX12_countWearers_89 (by decide) ?_
      refine u_iald dX12_countWearers_90 (by first | assumption | rfl | exact led_1 (by assumption) | exact led_2 (by assumption) | exact bk_m (by assumption) (by first | assumption | omega) | exact bk_p (by assumption) (by first | assumption | omega) | exact bk_o (by assumption) (by first | assumption | omega) | exact bk_s (by assumption) (by first | assumption | omega) | exact bk_1 (by assumption) | exact bk_2 (by assumption) | exact bk_3 (by assumption) | exact bk_4 (by assumption) | exact bk_5 (by assumption) | exact bk_6 (by assumption) | exact bk_7 (by assumption) | exact bk_8 (by assumption) | exact sh_ring _ (by first | assumption | omega) | exact sh_imgs _ (by first | assumption | omega)) (by first | with_reducible rfl | (simp only [nlit, nI_add, pk_mul]; with_reducible rfl) | rfl) (by first | assumption | omega) (by first | assumption | decide) ?_
      rw [hF 3 (by decide)]
      refine v_icmp_ge (tgt := 137) dX12_countWearers_91 (by decide) (fun hc91 => ?_) (fun hc91 => ?_)
      · (try rw [nI_leI (by omega) (by omega)] at hc91)
        exact hQ
      · exact absurd (nI_le (by omega) (by omega)) hc91
    | succ j ih =>
      intro p a hpj he
      have hp : p < F 3 := by omega
      have he : bup (Ctp F s d r t1 t2 m) (p + 1) j (a ||| if Ctp F s d r t1 t2 m p = true then 2 ^ p else 0) = Ct F s d r t1 t2 m := he
      refine v_iload_7 dX12_countWearers_83 ?_
      refine v_aload_0 dX12_countWearers_85 ?_
      refine u_getR dX12_countWearers_86 gf_X12_20 (by first | assumption | rfl | exact led_1 (by assumption) | exact led_2 (by assumption) | exact bk_m (by assumption) (by first | assumption | omega) | exact bk_p (by assumption) (by first | assumption | omega) | exact bk_o (by assumption) (by first | assumption | omega) | exact bk_s (by assumption) (by first | assumption | omega) | exact bk_1 (by assumption) | exact bk_2 (by assumption) | exact bk_3 (by assumption) | exact bk_4 (by assumption) | exact bk_5 (by assumption) | exact bk_6 (by assumption) | exact bk_7 (by assumption) | exact bk_8 (by assumption) | exact sh_ring _ (by first | assumption | omega) | exact sh_imgs _ (by first | assumption | omega)) (ro_X12_15 (by assumption)) ?_
      refine v_iconst (v := nI 3) dX12_countWearers_89 (by decide) ?_
      refine u_iald dX12_countWearers_90 (by first | assumption | rfl | exact led_1 (by assumption) | exact led_2 (by assumption) | exact bk_m (by assumption) (by first | assumption | omega) | exact bk_p (by assumption) (by first | assumption | omega) | exact bk_o (by assumption) (by first | assumption | omega) | exact bk_s (by assumption) (by first | assumption | omega) | exact bk_1 (by assumption) | exact bk_2 (by assumption) | exact bk_3 (by assumption) | exact bk_4 (by assumption) | exact bk_5 (by assumption) | exact bk_6 (by assumption) | exact bk_7 (by assumption) | exact bk_8 (by assumption) | exact sh_ring _ (by first | assumption | omega) | exact sh_imgs _ (by first | assumption | omega)) (by first | with_reducible rfl | (simp only [nlit, nI_add, pk_mul]; with_reducible rfl) | rfl) (by first | assumption | omega) (by first | assumption | decide) ?_
      rw [hF 3 (by decide)]
      refine v_icmp_ge (tgt := 137) dX12_countWearers_91 (by decide) (fun hc91 => ?_) (fun hc91 => ?_)
      · exact absurd hc91 (nI_ge (by omega) (by omega))
      · (try rw [nI_leI (by omega) (by omega)] at hc91)
        refine v_iload_6 dX12_countWearers_94 ?_
        refine v_aload_0 dX12_countWearers_96 ?_
        refine v_iload_4 dX12_countWearers_97 ?_
        refine v_iload_1 dX12_countWearers_99 ?_
        refine v_iload_7 dX12_countWearers_100 ?_
        refine v_iload_2 dX12_countWearers_102 ?_
        refine u_callV_4 dX12_countWearers_103 ml_X12_377 mv_X12_mayWear (by first | assumption | rfl | exact led_1 (by assumption) | exact led_2 (by assumption) | exact bk_m (by assumption) (by first | assumption | omega) | exact bk_p (by assumption) (by first | assumption | omega) | exact bk_o (by assumption) (by first | assumption | omega) | exact bk_s (by assumption) (by first | assumption | omega) | exact bk_1 (by assumption) | exact bk_2 (by assumption) | exact bk_3 (by assumption) | exact bk_4 (by assumption) | exact bk_5 (by assumption) | exact bk_6 (by assumption) | exact bk_7 (by assumption) | exact bk_8 (by assumption) | exact sh_ring _ (by first | assumption | omega) | exact sh_imgs _ (by first | assumption | omega)) (by decide) rfl (by decide) (Nat.le_of_ble_eq_true rfl) (c_X12_mayWear (s := s) (op := some p) hR hr hm hd hrr hrd (fun q e => by cases e; exact hp) ?_)
        refine v_if_eq (tgt := 127) dX12_countWearers_106 (by decide) (fun hc106 => ?_) (fun hc106 => ?_)
        · (first | rw [bI_0, Bool.not_eq_false] at hc106 | rw [bI_0] at hc106 | rw [show (0 : Int32) = nI 0 from rfl, nI_eq (by omega) (by omega)] at hc106 | skip)
          refine v_iconst (v := nI 0) dX12_countWearers_127 (by decide) ?_
          refine v_ior dX12_countWearers_128 ?_
          rw [nx_or]
          refine v_istore_6 rfl dX12_countWearers_129 ?_
          refine v_iinc_7 (v := 1) rfl dX12_countWearers_131 (by decide) ?_
          rw [show nI p + 1 = nI (p + 1) from nI_1 p]
          refine v_goto (tgt := 83) dX12_countWearers_134 (by decide) ?_
          first
            | (have e : Ctp F s d r t1 t2 m p = true := (by unfold Ctp; rw [hc106, hc117]; rfl); rw [e] at he; exact ih (p + 1) _ (by omega) he)
            | (have e : Ctp F s d r t1 t2 m p = false := (by unfold Ctp; rw [hc106, hc117]; rfl); rw [e] at he; exact ih (p + 1) _ (by omega) he)
            | (have e : Ctp F s d r t1 t2 m p = false := (by unfold Ctp; rw [hc106, Bool.false_and]); rw [e] at he; exact ih (p + 1) _ (by omega) he)
        · (first | rw [bI_0, Bool.not_eq_false] at hc106 | rw [bI_0] at hc106 | rw [show (0 : Int32) = nI 0 from rfl, nI_eq (by omega) (by omega)] at hc106 | skip)
          refine v_aload_0 dX12_countWearers_109 ?_
          refine v_iload_4 dX12_countWearers_110 ?_
          refine v_iload_7 dX12_countWearers_112 ?_
          refine u_callV_2 dX12_countWearers_114 ml_X12_381 mv_X12_isTold (by first | assumption | rfl | exact led_1 (by assumption) | exact led_2 (by assumption) | exact bk_m (by assumption) (by first | assumption | omega) | exact bk_p (by assumption) (by first | assumption | omega) | exact bk_o (by assumption) (by first | assumption | omega) | exact bk_s (by assumption) (by first | assumption | omega) | exact bk_1 (by assumption) | exact bk_2 (by assumption) | exact bk_3 (by assumption) | exact bk_4 (by assumption) | exact bk_5 (by assumption) | exact bk_6 (by assumption) | exact bk_7 (by assumption) | exact bk_8 (by assumption) | exact sh_ring _ (by first | assumption | omega) | exact sh_imgs _ (by first | assumption | omega)) (by decide) rfl (by decide) (Nat.le_of_ble_eq_true rfl) (c_X12_isTold (op := some p) ht1 ht2 (by omega) (fun q e => by cases e; omega) ?_)
          refine v_if_eq (tgt := 127) dX12_countWearers_117 (by decide) (fun hc117 => ?_) (fun hc117 => ?_)
          · (first | rw [bI_0, Bool.not_eq_false] at hc117 | rw [bI_0] at hc117 | rw [show (0 : Int32) = nI 0 from rfl, nI_eq (by omega) (by omega)] at hc117 | skip)
            refine v_iconst (v := nI 0) dX12_countWearers_127 (by decide) ?_
            refine v_ior dX12_countWearers_128 ?_
            rw [nx_or]
            refine v_istore_6 rfl dX12_countWearers_129 ?_
            refine v_iinc_7 (v := 1) rfl dX12_countWearers_131 (by decide) ?_
            rw [show nI p + 1 = nI (p + 1) from nI_1 p]
            refine v_goto (tgt := 83) dX12_countWearers_134 (by decide) ?_
            first
              | (have e : Ctp F s d r t1 t2 m p = true := (by unfold Ctp; rw [hc106, hc117]; rfl); rw [e] at he; exact ih (p + 1) _ (by omega) he)
              | (have e : Ctp F s d r t1 t2 m p = false := (by unfold Ctp; rw [hc106, hc117]; rfl); rw [e] at he; exact ih (p + 1) _ (by omega) he)
              | (have e : Ctp F s d r t1 t2 m p = false := (by unfold Ctp; rw [hc106, Bool.false_and]); rw [e] at he; exact ih (p + 1) _ (by omega) he)
          · (first | rw [bI_0, Bool.not_eq_false] at hc117 | rw [bI_0] at hc117 | rw [show (0 : Int32) = nI 0 from rfl, nI_eq (by omega) (by omega)] at hc117 | skip)
            refine v_iconst (v := nI 1) dX12_countWearers_120 (by decide) ?_
            refine v_iload_7 dX12_countWearers_121 ?_
            refine v_ishl dX12_countWearers_123 ?_
            rw [one_shl (by omega)]
            refine v_goto (tgt := 128) dX12_countWearers_124 (by decide) ?_
            refine v_ior dX12_countWearers_128 ?_
            rw [nx_or]
            refine v_istore_6 rfl dX12_countWearers_129 ?_
            refine v_iinc_7 (v := 1) rfl dX12_countWearers_131 (by decide) ?_
            rw [show nI p + 1 = nI (p + 1) from nI_1 p]
            refine v_goto (tgt := 83) dX12_countWearers_134 (by decide) ?_
            first
              | (have e : Ctp F s d r t1 t2 m p = true := (by unfold Ctp; rw [hc106, hc117]; rfl); rw [e] at he; exact ih (p + 1) _ (by omega) he)
              | (have e : Ctp F s d r t1 t2 m p = false := (by unfold Ctp; rw [hc106, hc117]; rfl); rw [e] at he; exact ih (p + 1) _ (by omega) he)
              | (have e : Ctp F s d r t1 t2 m p = false := (by unfold Ctp; rw [hc106, Bool.false_and]); rw [e] at he; exact ih (p + 1) _ (by omega) he)
  exact loop (F 3) 0 0 (by omega) rfl
theorem c_X12_countWearers {d r : Nat} {t1 t2 : Option (Nat × Option Nat)} (hR : RO R) (hr : RfI I F s) (hd : d < 2 ^ 31) (hrr : r < 2 ^ 31) (hrd : ∀ z, z < F 5 → r.testBit z = true → F (129 + 5 * z) = d) (ht1 : TlI I 28 t1) (ht2 : TlI I 30 t2) (hQ : ∀ M : HL, (∀ x, x ≠ 170 → M x = L x) → Q (some (.long (lN (wys (F 3) (Gt F s d r t1 t2) (Ct F s d r t1 t2) (F 2) 0 0)))) SH I M R) : KK 4 mX12_countWearers b ad [.ref (b + 157), .int (nI d), .int (nI r)] I L R Q := by
  have hO := hr.1.2.2.1
  have o2 := hO.2.2.1
  have o3 := hO.2.2.2.1
  have o5 := hO.2.2.2.2.2.1
  have o0 := hO.1
  have hF := hr.1.1.2
  have hS := hr.2.1
  have hK := hr.2.2
  have outer : ∀ (k : Nat) (v : Int32) (M : HL) (x5 x6 x7 x8 x10 : Option Value), v = nI k - nI 1 → k ≤ F 2 → (∀ x, x ≠ 170 → M x = L x) → (∀ y, y < 64 → M 170 (64 * k + y) = lN (wys (F 3) (Gt F s d r t1 t2) (Ct F s d r t1 t2) (F 2 - k) k y)) → VV yX12_countWearers cX12_countWearers 11 (some .long) 4 Q b ad 41 [some (.ref (b + 157)), some (.int (nI d)), some (.int (nI r)), some (.int (nI (F 2))), (some (.int v)), x5, x6, x7, x8, none, x10] [] I M R := by
    intro k
    induction k with
    | zero =>
      intro v M x5 x6 x7 x8 x10 hv hk m1 m2
      have hv : v = -1 := hv
      subst hv
      have m0 : M 170 0 = lN (wys (F 3) (Gt F s d r t1 t2) (Ct F s d r t1 t2) (F 2) 0 0) := m2 0 (by decide)
      refine v_iload_4 dX12_countWearers_41 ?_
      refine v_if_lt (tgt := 269) dX12_countWearers_43 (by decide) (fun hc43 => ?_) (fun hc43 => ?_)
      · (first | rw [show (0 : Int32) = nI 0 from rfl, nI_ltI (by omega) (by omega)] at hc43 | rw [show (0 : Int32) = nI 0 from rfl, nI_leI (by omega) (by omega)] at hc43 | skip)
        refine v_aload_0 dX12_countWearers_269 ?_
        refine u_getR dX12_countWearers_270 gf_X12_50 (by first | assumption | rfl | exact led_1 (by assumption) | exact led_2 (by assumption) | exact bk_m (by assumption) (by first | assumption | omega) | exact bk_p (by assumption) (by first | assumption | omega) | exact bk_o (by assumption) (by first | assumption | omega) | exact bk_s (by assumption) (by first | assumption | omega) | exact bk_1 (by assumption) | exact bk_2 (by assumption) | exact bk_3 (by assumption) | exact bk_4 (by assumption) | exact bk_5 (by assumption) | exact bk_6 (by assumption) | exact bk_7 (by assumption) | exact bk_8 (by assumption) | exact sh_ring _ (by first | assumption | omega) | exact sh_imgs _ (by first | assumption | omega)) (ro_X12_32 (by assumption)) ?_
        refine v_iconst (v := nI 0) dX12_countWearers_273 (by decide) ?_
        refine u_lald dX12_countWearers_274 (by first | assumption | rfl | exact led_1 (by assumption) | exact led_2 (by assumption) | exact bk_m (by assumption) (by first | assumption | omega) | exact bk_p (by assumption) (by first | assumption | omega) | exact bk_o (by assumption) (by first | assumption | omega) | exact bk_s (by assumption) (by first | assumption | omega) | exact bk_1 (by assumption) | exact bk_2 (by assumption) | exact bk_3 (by assumption) | exact bk_4 (by assumption) | exact bk_5 (by assumption) | exact bk_6 (by assumption) | exact bk_7 (by assumption) | exact bk_8 (by assumption) | exact sh_ring _ (by first | assumption | omega) | exact sh_imgs _ (by first | assumption | omega)) (by first | with_reducible rfl | (simp only [nlit, nI_add, pk_mul]; with_reducible rfl) | rfl) (by first | assumption | omega) (by first | assumption | decide) ?_
        rw [m0]
        refine v_lret dX12_countWearers_275 rfl rfl rfl rfl ?_
        exact hQ M m1
      · exact absurd (by decide) hc43
    | succ m ih =>
      intro v M x5 x6 x7 x8 x10 hv hk m1 m2
      have hm : m < F 2 := hk
      rw [pk_sub (by omega), Nat.add_sub_cancel] at hv
      subst hv
      have cut : ∀ g, Gt F s d r t1 t2 m = g → VV yX12_countWearers cX12_countWearers 11 (some .long) 4 Q b ad 75 [some (.ref (b + 157)), some (.int (nI d)), some (.int (nI r)), some (.int (nI (F 2))), (some (.int (nI m))), x5, x6, x7, x8, none, x10] [.int (bI g)] I M R := by
        intro g eg
        refine v_istore_5 rfl dX12_countWearers_75 ?_
        refine v_iconst (v := nI 0) dX12_countWearers_77 (by decide) ?_
        refine v_istore_6 rfl dX12_countWearers_78 ?_
        refine v_iconst (v := nI 0) dX12_countWearers_80 (by decide) ?_
        refine v_istore_7 rfl dX12_countWearers_81 ?_
        refine l_cw2 (s := s) hR hr hm hd hrr hrd ht1 ht2 _ _ ?_
        refine v_iconst (v := nI 0) dX12_countWearers_137 (by decide) ?_
        refine v_istore_7 rfl dX12_countWearers_138 ?_
        refine l_cw3 (s := s) (w := wys (F 3) (Gt F s d r t1 t2) (Ct F s d r t1 t2) (F 2 - (m + 1)) (m + 1)) hR hr hm (Ct_lt hO m) m2 (fun M2 k1 k2 x p => ?_) _ _
        refine v_iinc_4 (v := -1) rfl dX12_countWearers_263 (by decide) ?_
        refine v_goto (tgt := 41) dX12_countWearers_266 (by decide) ?_
        refine ih _ M2 _ _ _ _ _ (by rw [Int32.sub_eq_add_neg]; rfl) (by omega) (fun x q => by rw [k1 x q]; exact m1 x q) (fun y hy => ?_)
        rw [k2 y hy, ← eg, wys_st Gt_Ct, show F 2 - (m + 1) + 1 = F 2 - m by omega]
      refine v_iload_4 dX12_countWearers_41 ?_
      refine v_if_lt (tgt := 269) dX12_countWearers_43 (by decide) (fun hc43 => ?_) (fun hc43 => ?_)
      · exact absurd (nI_pos2 (by omega)) (Int32.not_le.mpr hc43)
      · (first | rw [show (0 : Int32) = nI 0 from rfl, nI_ltI (by omega) (by omega)] at hc43 | rw [show (0 : Int32) = nI 0 from rfl, nI_leI (by omega) (by omega)] at hc43 | skip)
        refine v_aload_0 dX12_countWearers_46 ?_
        refine v_iload_4 dX12_countWearers_47 ?_
        refine v_iload_1 dX12_countWearers_49 ?_
        refine v_bipush (v := -2) dX12_countWearers_50 (by decide) ?_
        refine v_iload_2 dX12_countWearers_52 ?_
        refine u_callV_4 dX12_countWearers_53 ml_X12_377 mv_X12_mayWear (by first | assumption | rfl | exact led_1 (by assumption) | exact led_2 (by assumption) | exact bk_m (by assumption) (by first | assumption | omega) | exact bk_p (by assumption) (by first | assumption | omega) | exact bk_o (by assumption) (by first | assumption | omega) | exact bk_s (by assumption) (by first | assumption | omega) | exact bk_1 (by assumption) | exact bk_2 (by assumption) | exact bk_3 (by assumption) | exact bk_4 (by assumption) | exact bk_5 (by assumption) | exact bk_6 (by assumption) | exact bk_7 (by assumption) | exact bk_8 (by assumption) | exact sh_ring _ (by first | assumption | omega) | exact sh_imgs _ (by first | assumption | omega)) (by decide) rfl (by decide) (Nat.le_of_ble_eq_true rfl) (c_X12_mayWear (s := s) (op := none) hR hr hm hd hrr hrd (fun q e => by cases e) ?_)
        refine v_if_eq (tgt := 74) dX12_countWearers_56 (by decide) (fun hc56 => ?_) (fun hc56 => ?_)
        · (first | rw [bI_0, Bool.not_eq_false] at hc56 | rw [bI_0] at hc56 | rw [show (0 : Int32) = nI 0 from rfl, nI_eq (by omega) (by omega)] at hc56 | skip)
          refine v_iconst (v := nI 0) dX12_countWearers_74 (by decide) ?_
          first
            | (refine cut true ?_; unfold Gt; rw [hc56, hc67]; rfl)
            | (refine cut false ?_; unfold Gt; rw [hc56, hc67]; rfl)
            | (refine cut false ?_; unfold Gt; rw [hc56, Bool.false_and])
        · (first | rw [bI_0, Bool.not_eq_false] at hc56 | rw [bI_0] at hc56 | rw [show (0 : Int32) = nI 0 from rfl, nI_eq (by omega) (by omega)] at hc56 | skip)
          refine v_aload_0 dX12_countWearers_59 ?_
          refine v_iload_4 dX12_countWearers_60 ?_
          refine v_bipush (v := -2) dX12_countWearers_62 (by decide) ?_
          refine u_callV_2 dX12_countWearers_64 ml_X12_381 mv_X12_isTold (by first | assumption | rfl | exact led_1 (by assumption) | exact led_2 (by assumption) | exact bk_m (by assumption) (by first | assumption | omega) | exact bk_p (by assumption) (by first | assumption | omega) | exact bk_o (by assumption) (by first | assumption | omega) | exact bk_s (by assumption) (by first | assumption | omega) | exact bk_1 (by assumption) | exact bk_2 (by assumption) | exact bk_3 (by assumption) | exact bk_4 (by assumption) | exact bk_5 (by assumption) | exact bk_6 (by assumption) | exact bk_7 (by assumption) | exact bk_8 (by assumption) | exact sh_ring _ (by first | assumption | omega) | exact sh_imgs _ (by first | assumption | omega)) (by decide) rfl (by decide) (Nat.le_of_ble_eq_true rfl) (c_X12_isTold (op := none) ht1 ht2 (by omega) (fun q e => by cases e) ?_)
          refine v_if_eq (tgt := 74) dX12_countWearers_67 (by decide) (fun hc67 => ?_) (fun hc67 => ?_)
          · (first | rw [bI_0, Bool.not_eq_false] at hc67 | rw [bI_0] at hc67 | rw [show (0 : Int32) = nI 0 from rfl, nI_eq (by omega) (by omega)] at hc67 | skip)
            refine v_iconst (v := nI 0) dX12_countWearers_74 (by decide) ?_
            first
              | (refine cut true ?_; unfold Gt; rw [hc56, hc67]; rfl)
              | (refine cut false ?_; unfold Gt; rw [hc56, hc67]; rfl)
              | (refine cut false ?_; unfold Gt; rw [hc56, Bool.false_and])
          · (first | rw [bI_0, Bool.not_eq_false] at hc67 | rw [bI_0] at hc67 | rw [show (0 : Int32) = nI 0 from rfl, nI_eq (by omega) (by omega)] at hc67 | skip)
            refine v_iconst (v := nI 1) dX12_countWearers_70 (by decide) ?_
            refine v_goto (tgt := 75) dX12_countWearers_71 (by decide) ?_
            first
              | (refine cut true ?_; unfold Gt; rw [hc56, hc67]; rfl)
              | (refine cut false ?_; unfold Gt; rw [hc56, hc67]; rfl)
              | (refine cut false ?_; unfold Gt; rw [hc56, Bool.false_and])
  have fill : ∀ (j i : Nat) (M : HL), i + j = 64 → (∀ x, x ≠ 170 → M x = L x) → (∀ y, y < i → M 170 (64 * F 2 + y) = lN 1) → VV yX12_countWearers cX12_countWearers 11 (some .long) 4 Q b ad 10 [some (.ref (b + 157)), some (.int (nI d)), some (.int (nI r)), some (.int (nI (F 2))), (some (.int (nI i))), none, none, none, none, none, none] [] I M R := by
    intro j
    induction j with
    | zero =>
      intro i M hi m1 m2
      have hi : i = 64 := hi
      subst hi
      refine v_iload_4 dX12_countWearers_10 ?_
      refine v_bipush (v := nI 64) dX12_countWearers_12 (by decide) ?_
      refine v_icmp_ge (tgt := 36) dX12_countWearers_14 (by decide) (fun hc14 => ?_) (fun hc14 => ?_)
      · (try rw [nI_leI (by omega) (by omega)] at hc14)
        refine v_iload_3 dX12_countWearers_36 ?_
        refine v_iconst (v := nI 1) dX12_countWearers_37 (by decide) ?_
        refine v_isub dX12_countWearers_38 ?_
        refine v_istore_4 rfl dX12_countWearers_39 ?_
        exact outer (F 2) _ M _ _ _ _ _ rfl (Nat.le_refl _) m1 (fun y hy => by rw [m2 y hy, Nat.sub_self]; rfl)
      · exact absurd (by decide) hc14
    | succ j ih =>
      intro i M hij m1 m2
      refine v_iload_4 dX12_countWearers_10 ?_
      refine v_bipush (v := nI 64) dX12_countWearers_12 (by decide) ?_
      refine v_icmp_ge (tgt := 36) dX12_countWearers_14 (by decide) (fun hc14 => ?_) (fun hc14 => ?_)
      · first | omega | (have q := (nI_leI (by omega) (by omega)).mp hc14; omega)
      · (try rw [nI_leI (by omega) (by omega)] at hc14)
        refine v_aload_0 dX12_countWearers_17 ?_
        refine u_getR dX12_countWearers_18 gf_X12_50 (by first | assumption | rfl | exact led_1 (by assumption) | exact led_2 (by assumption) | exact bk_m (by assumption) (by first | assumption | omega) | exact bk_p (by assumption) (by first | assumption | omega) | exact bk_o (by assumption) (by first | assumption | omega) | exact bk_s (by assumption) (by first | assumption | omega) | exact bk_1 (by assumption) | exact bk_2 (by assumption) | exact bk_3 (by assumption) | exact bk_4 (by assumption) | exact bk_5 (by assumption) | exact bk_6 (by assumption) | exact bk_7 (by assumption) | exact bk_8 (by assumption) | exact sh_ring _ (by first | assumption | omega) | exact sh_imgs _ (by first | assumption | omega)) (ro_X12_32 (by assumption)) ?_
        refine v_bipush (v := nI 64) dX12_countWearers_21 (by decide) ?_
        refine v_iload_3 dX12_countWearers_23 ?_
        refine v_imul dX12_countWearers_24 ?_
        rw [pk_mul]
        refine v_iload_4 dX12_countWearers_25 ?_
        refine v_iadd dX12_countWearers_27 ?_
        rw [nI_add]
        refine v_lconst (v := 1) dX12_countWearers_28 (by decide) ?_
        refine u_last dX12_countWearers_29 (by first | assumption | rfl | exact led_1 (by assumption) | exact led_2 (by assumption) | exact bk_m (by assumption) (by first | assumption | omega) | exact bk_p (by assumption) (by first | assumption | omega) | exact bk_o (by assumption) (by first | assumption | omega) | exact bk_s (by assumption) (by first | assumption | omega) | exact bk_1 (by assumption) | exact bk_2 (by assumption) | exact bk_3 (by assumption) | exact bk_4 (by assumption) | exact bk_5 (by assumption) | exact bk_6 (by assumption) | exact bk_7 (by assumption) | exact bk_8 (by assumption) | exact sh_ring _ (by first | assumption | omega) | exact sh_imgs _ (by first | assumption | omega)) (by first | with_reducible rfl | (simp only [nlit, nI_add, pk_mul]; with_reducible rfl) | rfl) (by first | assumption | omega) (by first | assumption | decide) ?_
        refine v_iinc_4 (v := 1) rfl dX12_countWearers_30 (by decide) ?_
        rw [show nI i + 1 = nI (i + 1) from nI_1 i]
        refine v_goto (tgt := 10) dX12_countWearers_33 (by decide) ?_
        refine ih (i + 1) _ (by omega) (fun x q => by rw [ul_ne q]; exact m1 x q) (fun y hy => ?_)
        by_cases e : y = i
        · subst e; rw [ul_s]; rfl
        · rw [ul_o (by omega)]; exact m2 y (by omega)
  refine K.of (M := mX12_countWearers) (lv := [some (.ref (b + 157)), some (.int (nI d)), some (.int (nI r)), none, none, none, none, none, none, none, none]) (by decide) (Nat.le_of_ble_eq_true rfl) rfl ?_
  refine v_aload_0 dX12_countWearers_0 ?_
  refine u_getR dX12_countWearers_1 gf_X12_20 (by first | assumption | rfl | exact led_1 (by assumption) | exact led_2 (by assumption) | exact bk_m (by assumption) (by first | assumption | omega) | exact bk_p (by assumption) (by first | assumption | omega) | exact bk_o (by assumption) (by first | assumption | omega) | exact bk_s (by assumption) (by first | assumption | omega) | exact bk_1 (by assumption) | exact bk_2 (by assumption) | exact bk_3 (by assumption) | exact bk_4 (by assumption) | exact bk_5 (by assumption) | exact bk_6 (by assumption) | exact bk_7 (by assumption) | exact bk_8 (by assumption) | exact sh_ring _ (by first | assumption | omega) | exact sh_imgs _ (by first | assumption | omega)) (ro_X12_15 (by assumption)) ?_
  refine v_iconst (v := nI 2) dX12_countWearers_4 (by decide) ?_
  refine u_iald dX12_countWearers_5 (by first | assumption | rfl | exact led_1 (by assumption) | exact led_2 (by assumption) | exact bk_m (by assumption) (by first | assumption | omega) | exact bk_p (by assumption) (by first | assumption | omega) | exact bk_o (by assumption) (by first | assumption | omega) | exact bk_s (by assumption) (by first | assumption | omega) | exact bk_1 (by assumption) | exact bk_2 (by assumption) | exact bk_3 (by assumption) | exact bk_4 (by assumption) | exact bk_5 (by assumption) | exact bk_6 (by assumption) | exact bk_7 (by assumption) | exact bk_8 (by assumption) | exact sh_ring _ (by first | assumption | omega) | exact sh_imgs _ (by first | assumption | omega)) (by first | with_reducible rfl | (simp only [nlit, nI_add, pk_mul]; with_reducible rfl) | rfl) (by first | assumption | omega) (by first | assumption | decide) ?_
  rw [hF 2 (by decide)]
  refine v_istore_3 rfl dX12_countWearers_6 ?_
  refine v_iconst (v := nI 0) dX12_countWearers_7 (by decide) ?_
  refine v_istore_4 rfl dX12_countWearers_8 ?_
  exact fill 64 0 L (by omega) (fun _ _ => rfl) (fun y hy => absurd hy (Nat.not_lt_zero _))
end
