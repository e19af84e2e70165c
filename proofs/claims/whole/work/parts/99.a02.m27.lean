/-- the reference's search of pairs: z is the number of the pair -/
def lvi (f : Nat → Bool) (z : Int32) (q : Nat) : Nat → Nat → Nat ⊕ Nat
  | 0, c => .inr c
  | j + 1, c => if f q = true then if nI c = z then .inl q else lvi f z (q + 1) j (c + 1) else lvi f z (q + 1) j c
def lvo (P : Nat) (f : Nat → Nat → Bool) (z : Int32) (p : Nat) : Nat → Nat → (Nat × Nat) ⊕ Nat
  | 0, c => .inr c
  | j + 1, c => match lvi (f p) z 0 P c with
    | .inl q => .inl (p, q)
    | .inr c2 => lvo P f z (p + 1) j c2
def lvB : (Nat × Nat) ⊕ Nat → Int32
  | .inl (p, q) => nI (6 * p + q)
  | .inr c => nI c - nI 1000
theorem nI_m1 {c : Nat} (h : c < 2 ^ 31) : nI c ≠ -1 := fun e => by
  have := congrArg Int32.toInt e
  rw [show (nI c).toInt = (c : Int) from Int32.toInt_ofNat_of_lt (by omega)] at this
  have e2 : ((-1 : Int32).toInt) = -1 := by decide
  omega
theorem lvi_none {f : Nat → Bool} : ∀ (j q c : Nat), c + j < 2 ^ 31 → lvi f (-1) q j c = .inr (c + cup f q j)
  | 0, _, _, _ => rfl
  | j + 1, q, c, h => by
    simp only [lvi, cup]
    by_cases e : f q = true
    · rw [if_pos e, if_neg (nI_m1 (by omega)), lvi_none j (q + 1) (c + 1) (by omega), if_pos e]
      congr 1; omega
    · rw [if_neg e, lvi_none j (q + 1) c (by omega), if_neg e]
      congr 1; omega
theorem sun_ge {f : Nat → Nat} : ∀ (j i a : Nat), sun f i j a = a + sun f i j 0
  | 0, _, a => rfl
  | j + 1, i, a => by
    show sun f (i + 1) j (a + f i) = a + sun f (i + 1) j (0 + f i)
    rw [sun_ge j (i + 1) (a + f i), sun_ge j (i + 1) (0 + f i)]; omega
theorem lvo_none {P : Nat} {f : Nat → Nat → Bool} : ∀ (j p c : Nat), c + P * j < 2 ^ 31 → lvo P f (-1) p j c = .inr (sun (fun p => cup (f p) 0 P) p j c)
  | 0, _, _, _ => rfl
  | j + 1, p, c, h => by
    have h1 := cup_le (f p) P 0
    rw [Nat.mul_succ] at h
    simp only [lvo, sun]
    rw [lvi_none P 0 c (by omega)]
    exact lvo_none j (p + 1) _ (by omega)
theorem nI_inj2 {a c : Nat} (ha : a < 2 ^ 31) (hc : c < 2 ^ 31) (h : nI a = nI c) : a = c := (nI_eq ha hc).mp h
theorem lvi_at {f : Nat → Bool} {pt i : Nat} (hi : i < 2 ^ 31) : ∀ (j q c : Nat), (∀ x, q ≤ x → x < q + j → pt.testBit x = f x) → c ≤ i → (∃ x, x < q + j ∧ lvi f (nI i) q j c = .inl x ∧ opi pt q j (i - c) = .inl x ∧ i < c + cup f q j) ∨ (c + cup f q j ≤ i ∧ lvi f (nI i) q j c = .inr (c + cup f q j) ∧ opi pt q j (i - c) = .inr (i - (c + cup f q j)))
  | 0, q, c, _, hc => Or.inr ⟨hc, rfl, rfl⟩
  | j + 1, q, c, hb, hc => by
    have hq := hb q (Nat.le_refl _) (by omega)
    have hb2 : ∀ x, q + 1 ≤ x → x < q + 1 + j → pt.testBit x = f x := fun x h1 h2 => hb x (by omega) (by omega)
    simp only [lvi, opi, cup, hq]
    by_cases e : f q = true
    · simp only [e, if_true]
      by_cases ec : c = i
      · subst ec
        exact Or.inl ⟨q, by omega, by rw [if_pos rfl], by rw [if_pos (by omega)], by omega⟩
      · rw [if_neg (fun w => ec (nI_inj2 (by omega) hi w)), if_neg (by omega)]
        rcases lvi_at hi j (q + 1) (c + 1) hb2 (by omega) with ⟨x, h1, h2, h3, h4⟩ | ⟨h1, h2, h3⟩
        · exact Or.inl ⟨x, by omega, h2, by rw [show i - c - 1 = i - (c + 1) by omega]; exact h3, by omega⟩
        · refine Or.inr ⟨by omega, ?_, ?_⟩
          · rw [h2]; congr 1; omega
          · rw [show i - c - 1 = i - (c + 1) by omega, h3]; congr 1; omega
    · have e : f q = false := by simpa using e
      simp only [e, Bool.false_eq_true, if_false]
      rcases lvi_at hi j (q + 1) c hb2 hc with ⟨x, h1, h2, h3, h4⟩ | ⟨h1, h2, h3⟩
      · exact Or.inl ⟨x, by omega, h2, h3, by omega⟩
      · refine Or.inr ⟨by omega, ?_, ?_⟩
        · rw [h2]; congr 1; omega
        · rw [h3]; congr 1; omega
theorem lvo_at {P : Nat} {f : Nat → Nat → Bool} {pt : Nat → Nat} {i : Nat} (hi : i < 2 ^ 31) : ∀ (j p c : Nat), (∀ y, p ≤ y → y < p + j → ∀ x, x < P → (pt y).testBit x = f y x) → c ≤ i → (∃ y x, y < p + j ∧ x < P ∧ lvo P f (nI i) p j c = .inl (y, x) ∧ opo P pt p j (i - c) = some (y, x) ∧ i < sun (fun p => cup (f p) 0 P) p j c) ∨ (sun (fun p => cup (f p) 0 P) p j c ≤ i ∧ lvo P f (nI i) p j c = .inr (sun (fun p => cup (f p) 0 P) p j c))
  | 0, p, c, _, hc => Or.inr ⟨hc, rfl⟩
  | j + 1, p, c, hb, hc => by
    simp only [lvo, opo, sun]
    rcases lvi_at (f := f p) (pt := pt p) hi P 0 c (fun x _ h2 => hb p (Nat.le_refl _) (by omega) x (by omega)) hc with ⟨x, h1, h2, h3, h4⟩ | ⟨h1, h2, h3⟩
    · refine Or.inl ⟨p, x, by omega, by omega, ?_, ?_, ?_⟩
      · rw [h2]
      · rw [h3]
      · rw [sun_ge]; omega
    · rw [h2, h3]
      show (∃ y x, _ ∧ _ ∧ lvo P f (nI i) (p + 1) j _ = _ ∧ opo P pt (p + 1) j (i - (c + cup (f p) 0 P)) = _ ∧ _) ∨ (_ ∧ lvo P f (nI i) (p + 1) j _ = _)
      rcases lvo_at hi j (p + 1) (c + cup (f p) 0 P) (fun y a1 a2 => hb y (by omega) (by omega)) h1 with ⟨y, x, g1, g2, g3, g4, g5⟩ | ⟨g1, g2⟩
      · exact Or.inl ⟨y, x, by omega, g2, g3, g4, g5⟩
      · exact Or.inr ⟨g1, g2⟩
section
variable {b : Nat} {ad : Nat → Nat} {I J : HI} {L M : HL} {R : HR} {Q : QT} {tp : Nat → Nat} {nt tr fa pl : Nat} {F : bkF} {S : Nat → LSt} {u r : Nat} {im : Nat → LSt} {ic : Nat}
theorem c_X12_loversAt {m o : Nat} {z : Int32} (hR : RO R) (h0 : RefB I tp nt tr fa pl F S u r im ic) (hm : m < F 2) (ho : o < F 2) (hmo : m ≠ o) (hQ : ∀ (J : HI) (M : HL), RefB J tp nt tr fa pl F S u r im ic → (∀ x, x < 157 → J x = I x) → (∀ x, x ≠ 170 → M x = L x) → Q (some (.int (lvB (lvo (F 3) (lvA F (S 0) m o) z 0 (F 3) 0)))) SH J M R) : KK 8 mX12_loversAt b ad [.ref (b + 157), .int (nI m), .int (nI o), .int z] I L R Q := by
  have hO := h0.2.2.1.1.2.2.1
  have o0 := hO.1
  have o2 := hO.2.2.1
  have o3 := hO.2.2.2.1
  have inner : ∀ (j q p c : Nat) (J : HI) (M : HL) (rest : Nat → (Nat × Nat) ⊕ Nat), q + j = F 3 → p < F 3 → RefB J tp nt tr fa pl F S u r im ic → (∀ x, x < 157 → J x = I x) → (∀ x, x ≠ 170 → M x = L x) → (match lvi (lvA F (S 0) m o p) z q j c with | .inl q => .inl (p, q) | .inr c2 => rest c2) = lvo (F 3) (lvA F (S 0) m o) z 0 (F 3) 0 → (∀ (c2 : Nat) (J : HI) (M : HL), RefB J tp nt tr fa pl F S u r im ic → (∀ x, x < 157 → J x = I x) → (∀ x, x ≠ 170 → M x = L x) → rest c2 = lvo (F 3) (lvA F (S 0) m o) z 0 (F 3) 0 → VV yX12_loversAt cX12_loversAt 7 (some .int) 8 Q b ad 6 [some (.ref (b + 157)), some (.int (nI m)), some (.int (nI o)), some (.int z), some (.int (nI c2)), some (.int (nI (p + 1))), some (.int (nI (F 3)))] [] J M R) → VV yX12_loversAt cX12_loversAt 7 (some .int) 8 Q b ad 20 [some (.ref (b + 157)), some (.int (nI m)), some (.int (nI o)), some (.int z), some (.int (nI c)), some (.int (nI p)), some (.int (nI q))] [] J M R := by
    intro j
    induction j with
    | zero =>
      intro q p c J M rest hl hp h jx mx he next
      have hF := h.2.2.1.1.1.2
      have e3 : q = F 3 := by omega
      subst e3
      refine v_iload_6 dX12_loversAt_20 ?_
      refine v_aload_0 dX12_loversAt_22 ?_
      refine u_getR dX12_loversAt_23 gf_X12_20 (by first | assumption | rfl | exact led_1 (by assumption) | exact led_2 (by assumption) | exact bk_m (by assumption) (by first | assumption | omega) | exact bk_p (by assumption) (by first | assumption | omega) | exact bk_o (by assumption) (by first | assumption | omega) | exact bk_s (by assumption) (by first | assumption | omega) | exact bk_1 (by assumption) | exact bk_2 (by assumption) | exact bk_3 (by assumption) | exact bk_4 (by assumption) | exact bk_5 (by assumption) | exact bk_6 (by assumption) | exact bk_7 (by assumption) | exact bk_8 (by assumption) | exact sh_ring _ (by first | assumption | omega) | exact sh_imgs _ (by first | assumption | omega)) (ro_X12_15 (by assumption)) ?_
      refine v_iconst (v := nI 3) dX12_loversAt_26 (by decide) ?_
      refine u_iald dX12_loversAt_27 (by first | assumption | rfl | exact led_1 (by assumption) | exact led_2 (by assumption) | exact bk_m (by assumption) (by first | assumption | omega) | exact bk_p (by assumption) (by first | assumption | omega) | exact bk_o (by assumption) (by first | assumption | omega) | exact bk_s (by assumption) (by first | assumption | omega) | exact bk_1 (by assumption) | exact bk_2 (by assumption) | exact bk_3 (by assumption) | exact bk_4 (by assumption) | exact bk_5 (by assumption) | exact bk_6 (by assumption) | exact bk_7 (by assumption) | exact bk_8 (by assumption) | exact sh_ring _ (by first | assumption | omega) | exact sh_imgs _ (by first | assumption | omega)) (by first | with_reducible rfl | (simp only [nlit, nI_add, pk_mul]; with_reducible rfl) | rfl) (by first | assumption | omega) (by first | assumption | decide) ?_
      rw [hF 3 (by decide)]
      refine v_icmp_ge (tgt := 78) dX12_loversAt_28 (by decide) (fun hc28 => ?_) (fun hc28 => ?_)
      · (try rw [nI_leI (by omega) (by omega)] at hc28)
        refine v_iinc_5 (v := 1) rfl dX12_loversAt_78 (by decide) ?_
        rw [show nI p + 1 = nI (p + 1) from nI_1 p]
        refine v_goto (tgt := 6) dX12_loversAt_81 (by decide) ?_
        exact next c J M h jx mx he
      · exact absurd (nI_le (by omega) (by omega)) hc28
    | succ j ih =>
      intro q p c J M rest hl hp h jx mx he next
      have hF := h.2.2.1.1.1.2
      simp only [lvi] at he
      refine v_iload_6 dX12_loversAt_20 ?_
      refine v_aload_0 dX12_loversAt_22 ?_
      refine u_getR dX12_loversAt_23 gf_X12_20 (by first | assumption | rfl | exact led_1 (by assumption) | exact led_2 (by assumption) | exact bk_m (by assumption) (by first | assumption | omega) | exact bk_p (by assumption) (by first | assumption | omega) | exact bk_o (by assumption) (by first | assumption | omega) | exact bk_s (by assumption) (by first | assumption | omega) | exact bk_1 (by assumption) | exact bk_2 (by assumption) | exact bk_3 (by assumption) | exact bk_4 (by assumption) | exact bk_5 (by assumption) | exact bk_6 (by assumption) | exact bk_7 (by assumption) | exact bk_8 (by assumption) | exact sh_ring _ (by first | assumption | omega) | exact sh_imgs _ (by first | assumption | omega)) (ro_X12_15 (by assumption)) ?_
      refine v_iconst (v := nI 3) dX12_loversAt_26 (by decide) ?_
      refine u_iald dX12_loversAt_27 (by first | assumption | rfl | exact led_1 (by assumption) | exact led_2 (by assumption) | exact bk_m (by assumption) (by first | assumption | omega) | exact bk_p (by assumption) (by first | assumption | omega) | exact bk_o (by assumption) (by first | assumption | omega) | exact bk_s (by assumption) (by first | assumption | omega) | exact bk_1 (by assumption) | exact bk_2 (by assumption) | exact bk_3 (by assumption) | exact bk_4 (by assumption) | exact bk_5 (by assumption) | exact bk_6 (by assumption) | exact bk_7 (by assumption) | exact bk_8 (by assumption) | exact sh_ring _ (by first | assumption | omega) | exact sh_imgs _ (by first | assumption | omega)) (by first | with_reducible rfl | (simp only [nlit, nI_add, pk_mul]; with_reducible rfl) | rfl) (by first | assumption | omega) (by first | assumption | decide) ?_
      rw [hF 3 (by decide)]
      refine v_icmp_ge (tgt := 78) dX12_loversAt_28 (by decide) (fun hc28 => ?_) (fun hc28 => ?_)
      · exact absurd hc28 (nI_ge (by omega) (by omega))
      · (try rw [nI_leI (by omega) (by omega)] at hc28)
        refine v_iload_5 dX12_loversAt_31 ?_
        refine v_iload_6 dX12_loversAt_33 ?_
        refine v_icmp_eq (tgt := 72) dX12_loversAt_35 (by decide) (fun hc35 => ?_) (fun hc35 => ?_)
        · (try rw [nI_eq (by omega) (by omega)] at hc35)
          refine v_iinc_6 (v := 1) rfl dX12_loversAt_72 (by decide) ?_
          rw [show nI q + 1 = nI (q + 1) from nI_1 q]
          refine v_goto (tgt := 20) dX12_loversAt_75 (by decide) ?_
          first
            | (have e2 : lvA F (S 0) m o p q = false := (by rw [← hc35]; exact lvA_same hm ho hmo); rw [e2, if_neg (by decide)] at he; exact ih (q + 1) p c _ _ rest (by omega) hp h jx mx he next)
            | (rw [hc48, if_neg (by decide)] at he; exact ih (q + 1) p c _ _ rest (by omega) hp h2 jx2 mx2 he next)
            | (rw [hc48, if_pos rfl, if_neg hc57] at he; exact ih (q + 1) p (c + 1) _ _ rest (by omega) hp h2 jx2 mx2 he next)
        · (try rw [nI_eq (by omega) (by omega)] at hc35)
          refine v_aload_0 dX12_loversAt_38 ?_
          refine v_iload_1 dX12_loversAt_39 ?_
          refine v_iload_2 dX12_loversAt_40 ?_
          refine v_iload_5 dX12_loversAt_41 ?_
          refine v_iload_6 dX12_loversAt_43 ?_
          refine u_callV_4 dX12_loversAt_45 ml_X12_410 mv_X12_areLovers (by first | assumption | rfl | exact led_1 (by assumption) | exact led_2 (by assumption) | exact bk_m (by assumption) (by first | assumption | omega) | exact bk_p (by assumption) (by first | assumption | omega) | exact bk_o (by assumption) (by first | assumption | omega) | exact bk_s (by assumption) (by first | assumption | omega) | exact bk_1 (by assumption) | exact bk_2 (by assumption) | exact bk_3 (by assumption) | exact bk_4 (by assumption) | exact bk_5 (by assumption) | exact bk_6 (by assumption) | exact bk_7 (by assumption) | exact bk_8 (by assumption) | exact sh_ring _ (by first | assumption | omega) | exact sh_imgs _ (by first | assumption | omega)) (by decide) rfl (by decide) (Nat.le_of_ble_eq_true rfl) (c_X12_areLovers (q := q) hR h hm ho hp (by omega) (fun J2 M2 h2 jx1 mx1 => ?_))
          have jx2 : ∀ x, x < 157 → J2 x = I x := fun x hx => (jx1 x hx).trans (jx x hx)
          have mx2 : ∀ x, x ≠ 170 → M2 x = L x := fun x hx => (mx1 x hx).trans (mx x hx)
          refine v_if_ne (tgt := 54) dX12_loversAt_48 (by decide) (fun hc48 => ?_) (fun hc48 => ?_)
          · (first | rw [bI_0, Bool.not_eq_false] at hc48 | rw [bI_0] at hc48 | rw [show (0 : Int32) = nI 0 from rfl, nI_eq (by omega) (by omega)] at hc48 | skip)
            refine v_iload_4 dX12_loversAt_54 ?_
            refine v_iload_3 dX12_loversAt_56 ?_
            refine v_icmp_ne (tgt := 69) dX12_loversAt_57 (by decide) (fun hc57 => ?_) (fun hc57 => ?_)
            · skip
              refine v_iinc_4 (v := 1) rfl dX12_loversAt_69 (by decide) ?_
              rw [show nI c + 1 = nI (c + 1) from nI_1 c]
              refine v_iinc_6 (v := 1) rfl dX12_loversAt_72 (by decide) ?_
              rw [show nI q + 1 = nI (q + 1) from nI_1 q]
              refine v_goto (tgt := 20) dX12_loversAt_75 (by decide) ?_
              first
                | (have e2 : lvA F (S 0) m o p q = false := (by rw [← hc35]; exact lvA_same hm ho hmo); rw [e2, if_neg (by decide)] at he; exact ih (q + 1) p c _ _ rest (by omega) hp h jx mx he next)
                | (rw [hc48, if_neg (by decide)] at he; exact ih (q + 1) p c _ _ rest (by omega) hp h2 jx2 mx2 he next)
                | (rw [hc48, if_pos rfl, if_neg hc57] at he; exact ih (q + 1) p (c + 1) _ _ rest (by omega) hp h2 jx2 mx2 he next)
            · skip
              refine v_bipush (v := nI 6) dX12_loversAt_60 (by decide) ?_
              refine v_iload_5 dX12_loversAt_62 ?_
              refine v_imul dX12_loversAt_64 ?_
              rw [show nI 6 * nI p = nI (6 * p) from pk_mul _ _]
              refine v_iload_6 dX12_loversAt_65 ?_
              refine v_iadd dX12_loversAt_67 ?_
              rw [show nI (6 * p) + nI q = nI (6 * p + q) from nI_add _ _]
              refine v_iret dX12_loversAt_68 rfl rfl rfl rfl ?_
              rw [hc48, if_pos rfl, if_pos hc57] at he
              have hQ2 := hQ _ _ h2 jx2 mx2
              rw [← he] at hQ2
              exact hQ2
          · (first | rw [bI_0, Bool.not_eq_false] at hc48 | rw [bI_0] at hc48 | rw [show (0 : Int32) = nI 0 from rfl, nI_eq (by omega) (by omega)] at hc48 | skip)
            refine v_goto (tgt := 72) dX12_loversAt_51 (by decide) ?_
            refine v_iinc_6 (v := 1) rfl dX12_loversAt_72 (by decide) ?_
            rw [show nI q + 1 = nI (q + 1) from nI_1 q]
            refine v_goto (tgt := 20) dX12_loversAt_75 (by decide) ?_
            first
              | (have e2 : lvA F (S 0) m o p q = false := (by rw [← hc35]; exact lvA_same hm ho hmo); rw [e2, if_neg (by decide)] at he; exact ih (q + 1) p c _ _ rest (by omega) hp h jx mx he next)
              | (rw [hc48, if_neg (by decide)] at he; exact ih (q + 1) p c _ _ rest (by omega) hp h2 jx2 mx2 he next)
              | (rw [hc48, if_pos rfl, if_neg hc57] at he; exact ih (q + 1) p (c + 1) _ _ rest (by omega) hp h2 jx2 mx2 he next)
  have outer : ∀ (j p c : Nat) (J : HI) (M : HL) (x6 : Option Value), p + j = F 3 → (∀ v, x6 ≠ some (.long v)) → RefB J tp nt tr fa pl F S u r im ic → (∀ x, x < 157 → J x = I x) → (∀ x, x ≠ 170 → M x = L x) → lvo (F 3) (lvA F (S 0) m o) z p j c = lvo (F 3) (lvA F (S 0) m o) z 0 (F 3) 0 → VV yX12_loversAt cX12_loversAt 7 (some .int) 8 Q b ad 6 [some (.ref (b + 157)), some (.int (nI m)), some (.int (nI o)), some (.int z), some (.int (nI c)), some (.int (nI p)), x6] [] J M R := by
    intro j
    induction j with
    | zero =>
      intro p c J M x6 hl h6 h jx mx he
      have hF := h.2.2.1.1.1.2
      have hQ2 := hQ _ _ h jx mx
      rw [← he] at hQ2
      refine v_iload_5 dX12_loversAt_6 ?_
      refine v_aload_0 dX12_loversAt_8 ?_
      refine u_getR dX12_loversAt_9 gf_X12_20 (by first | assumption | rfl | exact led_1 (by assumption) | exact led_2 (by assumption) | exact bk_m (by assumption) (by first | assumption | omega) | exact bk_p (by assumption) (by first | assumption | omega) | exact bk_o (by assumption) (by first | assumption | omega) | exact bk_s (by assumption) (by first | assumption | omega) | exact bk_1 (by assumption) | exact bk_2 (by assumption) | exact bk_3 (by assumption) | exact bk_4 (by assumption) | exact bk_5 (by assumption) | exact bk_6 (by assumption) | exact bk_7 (by assumption) | exact bk_8 (by assumption) | exact sh_ring _ (by first | assumption | omega) | exact sh_imgs _ (by first | assumption | omega)) (ro_X12_15 (by assumption)) ?_
      refine v_iconst (v := nI 3) dX12_loversAt_12 (by decide) ?_
      refine u_iald dX12_loversAt_13 (by first | assumption | rfl | exact led_1 (by assumption) | exact led_2 (by assumption) | exact bk_m (by assumption) (by first | assumption | omega) | exact bk_p (by assumption) (by first | assumption | omega) | exact bk_o (by assumption) (by first | assumption | omega) | exact bk_s (by assumption) (by first | assumption | omega) | exact bk_1 (by assumption) | exact bk_2 (by assumption) | exact bk_3 (by assumption) | exact bk_4 (by assumption) | exact bk_5 (by assumption) | exact bk_6 (by assumption) | exact bk_7 (by assumption) | exact bk_8 (by assumption) | exact sh_ring _ (by first | assumption | omega) | exact sh_imgs _ (by first | assumption | omega)) (by first | with_reducible rfl | (simp only [nlit, nI_add, pk_mul]; with_reducible rfl) | rfl) (by first | assumption | omega) (by first | assumption | decide) ?_
      rw [hF 3 (by decide)]
      refine v_icmp_ge (tgt := 84) dX12_loversAt_14 (by decide) (fun hc14 => ?_) (fun hc14 => ?_)
      · (try rw [nI_leI (by omega) (by omega)] at hc14)
        refine v_iload_4 dX12_loversAt_84 ?_
        refine v_sipush (v := nI 1000) dX12_loversAt_86 (by decide) ?_
        refine v_isub dX12_loversAt_89 ?_
        refine v_iret dX12_loversAt_90 rfl rfl rfl rfl ?_
        exact hQ2
      · exact absurd (nI_le (by omega) (by omega)) hc14
    | succ j ih =>
      intro p c J M x6 hl h6 h jx mx he
      have hF := h.2.2.1.1.1.2
      simp only [lvo] at he
      refine v_iload_5 dX12_loversAt_6 ?_
      refine v_aload_0 dX12_loversAt_8 ?_
      refine u_getR dX12_loversAt_9 gf_X12_20 (by first | assumption | rfl | exact led_1 (by assumption) | exact led_2 (by assumption) | exact bk_m (by assumption) (by first | assumption | omega) | exact bk_p (by assumption) (by first | assumption | omega) | exact bk_o (by assumption) (by first | assumption | omega) | exact bk_s (by assumption) (by first | assumption | omega) | exact bk_1 (by assumption) | exact bk_2 (by assumption) | exact bk_3 (by assumption) | exact bk_4 (by assumption) | exact bk_5 (by assumption) | exact bk_6 (by assumption) | exact bk_7 (by assumption) | exact bk_8 (by assumption) | exact sh_ring _ (by first | assumption | omega) | exact sh_imgs _ (by first | assumption | omega)) (ro_X12_15 (by assumption)) ?_
      refine v_iconst (v := nI 3) dX12_loversAt_12 (by decide) ?_
      refine u_iald dX12_loversAt_13 (by first | assumption | rfl | exact led_1 (by assumption) | exact led_2 (by assumption) | exact bk_m (by assumption) (by first | assumption | omega) | exact bk_p (by assumption) (by first | assumption | omega) | exact bk_o (by assumption) (by first | assumption | omega) | exact bk_s (by assumption) (by first | assumption | omega) | exact bk_1 (by assumption) | exact bk_2 (by assumption) | exact bk_3 (by assumption) | exact bk_4 (by assumption) | exact bk_5 (by assumption) | exact bk_6 (by assumption) | exact bk_7 (by assumption) | exact bk_8 (by assumption) | exact sh_ring _ (by first | assumption | omega) | exact sh_imgs _ (by first | assumption | omega)) (by first | with_reducible rfl | (simp only [nlit, nI_add, pk_mul]; with_reducible rfl) | rfl) (by first | assumption | omega) (by first | assumption | decide) ?_
      rw [hF 3 (by decide)]
      refine v_icmp_ge (tgt := 84) dX12_loversAt_14 (by decide) (fun hc14 => ?_) (fun hc14 => ?_)
      · exact absurd hc14 (nI_ge (by omega) (by omega))
      · (try rw [nI_leI (by omega) (by omega)] at hc14)
        refine v_iconst (v := nI 0) dX12_loversAt_17 (by decide) ?_
        refine v_istore_6 rfl dX12_loversAt_18 ?_
        exact inner (F 3) 0 p c J M (fun c2 => lvo (F 3) (lvA F (S 0) m o) z (p + 1) j c2) (by omega) (by omega) h jx mx he (fun c2 J M h jx mx he => ih (p + 1) c2 J M _ (by omega) (by intro v e; cases e) h jx mx he)
  refine K.of (M := mX12_loversAt) (lv := [some (.ref (b + 157)), some (.int (nI m)), some (.int (nI o)), some (.int z), none, none, none]) (by decide) (Nat.le_of_ble_eq_true rfl) rfl ?_
  refine v_iconst (v := nI 0) dX12_loversAt_0 (by decide) ?_
  refine v_istore_4 rfl dX12_loversAt_1 ?_
  refine v_iconst (v := nI 0) dX12_loversAt_3 (by decide) ?_
  refine v_istore_5 rfl dX12_loversAt_4 ?_
  exact outer (F 3) 0 0 I L _ (by omega) (by intro v e; cases e) h0 (fun _ _ => rfl) (fun _ _ => rfl) rfl
end
