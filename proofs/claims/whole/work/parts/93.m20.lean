theorem wys_0 {P : Nat} {G : Nat → Bool} {C : Nat → Nat} {m : Nat} (hG : G m = false) (hC : ∀ p, p < P → (C m).testBit p = false) : ∀ (k m0 s : Nat), m0 ≤ m → m < m0 + k → wys P G C k m0 s = 0
  | 0, _, _, h1, h2 => by omega
  | k + 1, m0, s, h1, h2 => by
    simp only [wys]
    by_cases e : m0 = m
    · subst e
      rw [if_neg (by rw [hG]; decide)]
      exact sun_0 _ _ _ (fun p _ hp => by rw [hC p (by omega)]; rfl)
    · have ih := fun s => wys_0 hG hC k (m0 + 1) s (by omega) (by omega)
      split
      · exact ih s
      · exact sun_0 _ _ _ (fun p _ _ => by rw [ih]; split <;> rfl)
theorem wys_one {F : bkF} {s : LSt} {d m p : Nat} (hm : m < F 2) (hp : p < F 3) : wys (F 3) (Gt F s d (tru F s d) (some (m, some p)) none) (Ct F s d (tru F s d) (some (m, some p)) none) (F 2) 0 0 = alw F (pgT F s d) (cdT F s d) m p := by
  have eG : ∀ x, Gt F s d (tru F s d) (some (m, some p)) none x = (pgT F s d x && !decide (x = m)) := fun x => by
    show (pgT F s d x && ((!decide (x = m) || decide (none = some p)) && true)) = _
    rw [show decide ((none : Option Nat) = some p) = false from rfl, Bool.or_false, Bool.and_true]
  have eC : ∀ x q, q < F 3 → (Ct F s d (tru F s d) (some (m, some p)) none x).testBit q = (!pgT F s d x && (cdT F s d x).testBit q && (!decide (x = m) || decide (q = p))) := fun x q hq => by
    unfold Ct
    rw [bup_bit]
    show (Nat.testBit 0 q || (decide (0 ≤ q) && decide (q < 0 + F 3) && ((!pgT F s d x && (cdT F s d x).testBit q) && ((!decide (x = m) || decide (some q = some p)) && true)))) = _
    rw [show decide (some q = some p) = decide (q = p) from decide_eq_decide.mpr (by simp)]
    simp [hq]
  unfold alw
  by_cases h1 : pgT F s d m = true
  · rw [if_pos h1]
    refine wys_0 (m := m) (by rw [eG]; simp) (fun q hq => by rw [eC m q hq, h1]; rfl) _ _ _ (Nat.zero_le _) (by omega)
  · rw [if_neg h1]
    have h1 : pgT F s d m = false := by cases h : pgT F s d m <;> simp_all
    by_cases h2 : (cdT F s d m).testBit p = true
    · rw [if_pos h2]
      refine wys_cg (fun x => ?_) (fun x hx q hq => ?_) _ _ _
      · rw [eG]
        by_cases e : x = m
        · subst e; rw [h1]; rfl
        · simp [e]
      · rw [eC x q hq]
        unfold upc
        by_cases e : x = m
        · subst e
          rw [h1]
          simp only [decide_true, Bool.not_true, Bool.not_false, Bool.true_and, Bool.false_or, if_true]
          rw [Nat.testBit_two_pow]
          by_cases eq : q = p
          · subst eq; rw [h2]; simp
          · rw [decide_eq_false eq, decide_eq_false (fun w => eq w.symm), Bool.and_false]
        · rw [eG] at hx
          simp only [e, decide_false, Bool.not_false, Bool.and_true] at hx
          rw [hx]; simp [e]
    · rw [if_neg h2]
      have h2 : (cdT F s d m).testBit p = false := by cases h : (cdT F s d m).testBit p <;> simp_all
      refine wys_0 (m := m) (by rw [eG]; simp) (fun q hq => ?_) _ _ _ (Nat.zero_le _) (by omega)
      rw [eC m q hq]
      by_cases eq : q = p
      · subst eq; rw [h2]; simp
      · simp [eq]
section
variable {b : Nat} {ad : Nat → Nat} {I J : HI} {L M : HL} {R : HR} {Q : QT} {tp : Nat → Nat} {nt tr fa pl : Nat} {F : bkF} {S : Nat → LSt} {u r : Nat} {im : Nat → LSt} {ic : Nat}
theorem rf_k {k : Nat} {v : Int32} (h : RefB I tp nt tr fa pl F S u r im ic) (hk : 28 ≤ k) : RefB (ui I 157 k v) tp nt tr fa pl F S u r im ic :=
  rf_fr h h.2.1.2.2.2 id (by rw [ui_o (by omega)]; exact h.2.1.1) (fun j hj => ui_o (by omega)) (fun x hx => ui_ne (by omega))
theorem l_may {d m : Nat} (hR : RO R) (h0 : RefB I tp nt tr fa pl F S u r im ic) (hm : m < F 2) (hd : d < 2 ^ 31) (i28 : I 157 28 = nI m) (i30 : I 157 30 = -1) (hQ : ∀ (J : HI) (M : HL), RefB J tp nt tr fa pl F S u r im ic → (∀ x, x < 157 → J x = I x) → (∀ x, x ≠ 170 → M x = L x) → VV yX12_may cX12_may 6 (some .int) 8 Q b ad 96 [some (.ref (b + 157)), some (.int (nI d)), some (.int (nI m)), some (.int (nI (tru F (S 0) d))), some (.int (nI (pin F (pgT F (S 0) d) (cdT F (S 0) d) m))), some (.int (nI (F 3)))] [] J M R) : VV yX12_may cX12_may 6 (some .int) 8 Q b ad 49 [some (.ref (b + 157)), some (.int (nI d)), some (.int (nI m)), some (.int (nI (tru F (S 0) d))), some (.int (nI 0)), some (.int (nI 0))] [] I L R := by
  have hO := h0.2.2.1.1.2.2.1
  have o2 := hO.2.2.1
  have o3 := hO.2.2.2.1
  have loop : ∀ (j p a : Nat) (J : HI) (M : HL), p + j = F 3 → RefB J tp nt tr fa pl F S u r im ic → J 157 28 = nI m → J 157 30 = -1 → (∀ x, x < 157 → J x = I x) → (∀ x, x ≠ 170 → M x = L x) → bup (fun q => decide (0 < alw F (pgT F (S 0) d) (cdT F (S 0) d) m q)) p j a = pin F (pgT F (S 0) d) (cdT F (S 0) d) m → VV yX12_may cX12_may 6 (some .int) 8 Q b ad 49 [some (.ref (b + 157)), some (.int (nI d)), some (.int (nI m)), some (.int (nI (tru F (S 0) d))), some (.int (nI a)), some (.int (nI p))] [] J M R := by
    intro j
    induction j with
    | zero =>
      intro p a J M hp h j28 j30 jx mx he
      have hF := h.2.2.1.1.1.2
      have hp : p = F 3 := hp
      have he : a = _ := he
      subst he; subst hp
      refine v_iload_5 dX12_may_49 ?_
      refine v_aload_0 dX12_may_51 ?_
      refine u_getR dX12_may_52 gf_X12_20 (by first | assumption | rfl | exact led_1 (by assumption) | exact led_2 (by assumption) | exact bk_m (by assumption) (by first | assumption | omega) | exact bk_p (by assumption) (by first | assumption | omega) | exact bk_o (by assumption) (by first | assumption | omega) | exact bk_s (by assumption) (by first | assumption | omega) | exact bk_1 (by assumption) | exact bk_2 (by assumption) | exact bk_3 (by assumption) | exact bk_4 (by assumption) | exact bk_5 (by assumption) | exact bk_6 (by assumption) | exact bk_7 (by assumption) | exact bk_8 (by assumption) | exact sh_ring _ (by first | assumption | omega) | exact sh_imgs _ (by first | assumption | omega)) (ro_X12_15 (by assumption)) ?_
      refine v_iconst (v := nI 3) dX12_may_55 (by decide) ?_
      refine u_iald dX12_may_56 (by first | assumption | rfl | exact led_1 (by assumption) | exact led_2 (by assumption) | exact bk_m (by assumption) (by first | assumption | omega) | exact bk_p (by assumption) (by first | assumption | omega) | exact bk_o (by assumption) (by first | assumption | omega) | exact bk_s (by assumption) (by first | assumption | omega) | exact bk_1 (by assumption) | exact bk_2 (by assumption) | exact bk_3 (by assumption) | exact bk_4 (by assumption) | exact bk_5 (by assumption) | exact bk_6 (by assumption) | exact bk_7 (by assumption) | exact bk_8 (by assumption) | exact sh_ring _ (by first | assumption | omega) | exact sh_imgs _ (by first | assumption | omega)) (by first | with_reducible rfl | (simp only [nlit, nI_add, pk_mul]; with_reducible rfl) | rfl) (by first | assumption | omega) (by first | assumption | decide) ?_
      rw [hF 3 (by decide)]
      refine v_icmp_ge (tgt := 96) dX12_may_57 (by decide) (fun hc57 => ?_) (fun hc57 => ?_)
      · (try rw [nI_leI (by omega) (by omega)] at hc57)
        exact hQ J M h jx mx
      · exact absurd (nI_le (by omega) (by omega)) hc57
    | succ j ih =>
      intro p a J M hpj h j28 j30 jx mx he
      have hF := h.2.2.1.1.1.2
      have hp : p < F 3 := by omega
      have he : bup (fun q => decide (0 < alw F (pgT F (S 0) d) (cdT F (S 0) d) m q)) (p + 1) j (a ||| if decide (0 < alw F (pgT F (S 0) d) (cdT F (S 0) d) m p) then 2 ^ p else 0) = pin F (pgT F (S 0) d) (cdT F (S 0) d) m := he
      have h2 := rf_k (k := 29) (v := nI p) h (by decide)
      have ht1 : TlI (ui J 157 29 (nI p)) 28 (some (m, some p)) := ⟨by rw [ui_o (by decide)]; exact j28, ui_s _ _ _ _, by omega, fun q e => by cases e; omega⟩
      have ht2 : TlI (ui J 157 29 (nI p)) 30 none := by show _ = _; rw [ui_o (by decide)]; exact j30
      have hw := wys_one (s := S 0) (d := d) hm hp
      refine v_iload_5 dX12_may_49 ?_
      refine v_aload_0 dX12_may_51 ?_
      refine u_getR dX12_may_52 gf_X12_20 (by first | assumption | rfl | exact led_1 (by assumption) | exact led_2 (by assumption) | exact bk_m (by assumption) (by first | assumption | omega) | exact bk_p (by assumption) (by first | assumption | omega) | exact bk_o (by assumption) (by first | assumption | omega) | exact bk_s (by assumption) (by first | assumption | omega) | exact bk_1 (by assumption) | exact bk_2 (by assumption) | exact bk_3 (by assumption) | exact bk_4 (by assumption) | exact bk_5 (by assumption) | exact bk_6 (by assumption) | exact bk_7 (by assumption) | exact bk_8 (by assumption) | exact sh_ring _ (by first | assumption | omega) | exact sh_imgs _ (by first | assumption | omega)) (ro_X12_15 (by assumption)) ?_
      refine v_iconst (v := nI 3) dX12_may_55 (by decide) ?_
      refine u_iald dX12_may_56 (by first | assumption | rfl | exact led_1 (by assumption) | exact led_2 (by assumption) | exact bk_m (by assumption) (by first | assumption | omega) | exact bk_p (by assumption) (by first | assumption | omega) | exact bk_o (by assumption) (by first | assumption | omega) | exact bk_s (by assumption) (by first | assumption | omega) | exact bk_1 (by assumption) | exact bk_2 (by assumption) | exact bk_3 (by assumption) | exact bk_4 (by assumption) | exact bk_5 (by assumption) | exact bk_6 (by assumption) | exact bk_7 (by assumption) | exact bk_8 (by assumption) | exact sh_ring _ (by first | assumption | omega) | exact sh_imgs _ (by first | assumption | omega)) (by first | with_reducible rfl | (simp only [nlit, nI_add, pk_mul]; with_reducible rfl) | rfl) (by first | assumption | omega) (by first | assumption | decide) ?_
      rw [hF 3 (by decide)]
      refine v_icmp_ge (tgt := 96) dX12_may_57 (by decide) (fun hc57 => ?_) (fun hc57 => ?_)
      · exact absurd hc57 (nI_ge (by omega) (by omega))
      · (try rw [nI_leI (by omega) (by omega)] at hc57)
        refine v_aload_0 dX12_may_60 ?_
        refine v_iload_5 dX12_may_61 ?_
        refine u_putI dX12_may_63 gf_X12_368 (by first | assumption | rfl | exact led_1 (by assumption) | exact led_2 (by assumption) | exact bk_m (by assumption) (by first | assumption | omega) | exact bk_p (by assumption) (by first | assumption | omega) | exact bk_o (by assumption) (by first | assumption | omega) | exact bk_s (by assumption) (by first | assumption | omega) | exact bk_1 (by assumption) | exact bk_2 (by assumption) | exact bk_3 (by assumption) | exact bk_4 (by assumption) | exact bk_5 (by assumption) | exact bk_6 (by assumption) | exact bk_7 (by assumption) | exact bk_8 (by assumption) | exact sh_ring _ (by first | assumption | omega) | exact sh_imgs _ (by first | assumption | omega)) rfl rfl rfl ?_
        refine v_iload_4 dX12_may_66 ?_
        refine v_aload_0 dX12_may_68 ?_
        refine v_iload_1 dX12_may_69 ?_
        refine v_iload_3 dX12_may_70 ?_
        refine u_callV_2 dX12_may_71 ml_X12_396 mv_X12_countWearers (by first | assumption | rfl | exact led_1 (by assumption) | exact led_2 (by assumption) | exact bk_m (by assumption) (by first | assumption | omega) | exact bk_p (by assumption) (by first | assumption | omega) | exact bk_o (by assumption) (by first | assumption | omega) | exact bk_s (by assumption) (by first | assumption | omega) | exact bk_1 (by assumption) | exact bk_2 (by assumption) | exact bk_3 (by assumption) | exact bk_4 (by assumption) | exact bk_5 (by assumption) | exact bk_6 (by assumption) | exact bk_7 (by assumption) | exact bk_8 (by assumption) | exact sh_ring _ (by first | assumption | omega) | exact sh_imgs _ (by first | assumption | omega)) (by decide) rfl (by decide) (Nat.le_of_ble_eq_true rfl) (c_X12_countWearers (s := S 0) (t1 := some (m, some p)) (t2 := none) hR h2.2.2.1 hd (tru_ok hO).1 (tru_ok hO).2 ht1 ht2 (fun M2 k2 => ?_))
        refine v_lconst (v := 0) dX12_may_74 (by decide) ?_
        refine v_lcmp dX12_may_75 ?_
        refine v_if_le (tgt := 86) dX12_may_76 (by decide) (fun hc76 => ?_) (fun hc76 => ?_)
        · (first | rw [show (0 : Int32) = nI 0 from rfl, nI_ltI (by omega) (by omega)] at hc76 | rw [show (0 : Int32) = nI 0 from rfl, nI_leI (by omega) (by omega)] at hc76 | skip)
          refine v_iconst (v := nI 0) dX12_may_86 (by decide) ?_
          refine v_ior dX12_may_87 ?_
          rw [nx_or]
          refine v_istore_4 rfl dX12_may_88 ?_
          refine v_iinc_5 (v := 1) rfl dX12_may_90 (by decide) ?_
          rw [show nI p + 1 = nI (p + 1) from nI_1 p]
          refine v_goto (tgt := 49) dX12_may_93 (by decide) ?_
          first
            | (have hw0 := (lg_le (wys_lt o3 o2)).mp hc76; rw [hw] at hw0; rw [decide_eq_false (by omega)] at he; exact ih (p + 1) _ _ _ (by omega) h2 ht1.1 ht2 (fun x q => by rw [ui_ne (by omega)]; exact jx x q) (fun x q => by rw [k2 x q]; exact mx x q) he)
            | (have hw0 : ¬ wys _ _ _ _ _ _ = 0 := fun q => hc76 ((lg_le (wys_lt o3 o2)).mpr q); rw [hw] at hw0; rw [decide_eq_true (Nat.pos_of_ne_zero hw0)] at he; exact ih (p + 1) _ _ _ (by omega) h2 ht1.1 ht2 (fun x q => by rw [ui_ne (by omega)]; exact jx x q) (fun x q => by rw [k2 x q]; exact mx x q) he)
        · (first | rw [show (0 : Int32) = nI 0 from rfl, nI_ltI (by omega) (by omega)] at hc76 | rw [show (0 : Int32) = nI 0 from rfl, nI_leI (by omega) (by omega)] at hc76 | skip)
          refine v_iconst (v := nI 1) dX12_may_79 (by decide) ?_
          refine v_iload_5 dX12_may_80 ?_
          refine v_ishl dX12_may_82 ?_
          rw [one_shl (by omega)]
          refine v_goto (tgt := 87) dX12_may_83 (by decide) ?_
          refine v_ior dX12_may_87 ?_
          rw [nx_or]
          refine v_istore_4 rfl dX12_may_88 ?_
          refine v_iinc_5 (v := 1) rfl dX12_may_90 (by decide) ?_
          rw [show nI p + 1 = nI (p + 1) from nI_1 p]
          refine v_goto (tgt := 49) dX12_may_93 (by decide) ?_
          first
            | (have hw0 := (lg_le (wys_lt o3 o2)).mp hc76; rw [hw] at hw0; rw [decide_eq_false (by omega)] at he; exact ih (p + 1) _ _ _ (by omega) h2 ht1.1 ht2 (fun x q => by rw [ui_ne (by omega)]; exact jx x q) (fun x q => by rw [k2 x q]; exact mx x q) he)
            | (have hw0 : ¬ wys _ _ _ _ _ _ = 0 := fun q => hc76 ((lg_le (wys_lt o3 o2)).mpr q); rw [hw] at hw0; rw [decide_eq_true (Nat.pos_of_ne_zero hw0)] at he; exact ih (p + 1) _ _ _ (by omega) h2 ht1.1 ht2 (fun x q => by rw [ui_ne (by omega)]; exact jx x q) (fun x q => by rw [k2 x q]; exact mx x q) he)
  exact loop (F 3) 0 0 I L (by omega) h0 i28 i30 (fun _ _ => rfl) (fun _ _ => rfl) rfl
theorem r_may {x : Int32} {y : Int32} (hR : RO R) (h : RefB I tp nt tr fa pl F S u r im ic) (hQ : YQ I L R tp nt (t_may F (S 0) x y) fa pl F S u r im ic (a_may F (S 0) x y) Q) : KK 8 mX12_may b ad [.ref (b + 157), .int x, .int y] I L R Q := by
  have hO := h.2.2.1.1.2.2.1
  have o0 := hO.1
  have o1 := hO.2.1
  have o2 := hO.2.2.1
  have o3 := hO.2.2.2.1
  have o4 := hO.2.2.2.2.1
  have o5 := hO.2.2.2.2.2.1
  have o6 := hO.2.2.2.2.2.2.1
  have hK := h.2.2.1.2.2
  have hn20 := hK.1
  have hok : ∀ i, i < (S 0).1 → ok4 ((S 0).2.1 i) := fun i hi => (hK.2.1 i hi).1
  refine K.of (M := mX12_may) (lv := [some (.ref (b + 157)), some (.int x), some (.int y), none, none, none]) (by decide) (Nat.le_of_ble_eq_true rfl) rfl ?_
  refine v_aload_0 dX12_may_0 ?_
  refine u_callV_0 dX12_may_1 ml_X12_173 mv_X12_good (by first | assumption | rfl | exact led_1 (by assumption) | exact led_2 (by assumption) | exact bk_m (by assumption) (by first | assumption | omega) | exact bk_p (by assumption) (by first | assumption | omega) | exact bk_o (by assumption) (by first | assumption | omega) | exact bk_s (by assumption) (by first | assumption | omega) | exact bk_1 (by assumption) | exact bk_2 (by assumption) | exact bk_3 (by assumption) | exact bk_4 (by assumption) | exact bk_5 (by assumption) | exact bk_6 (by assumption) | exact bk_7 (by assumption) | exact bk_8 (by assumption) | exact sh_ring _ (by first | assumption | omega) | exact sh_imgs _ (by first | assumption | omega)) (by decide) rfl (by decide) (Nat.le_of_ble_eq_true rfl) (c_X12_good ?_)
  have h := rf_good h
  have hr : RfI _ F (S 0) := h.2.2.1
  have hS := hr.2.1
  refine v_aload_0 dX12_may_4 ?_
  refine v_iload_2 dX12_may_5 ?_
  refine u_callV_1 dX12_may_6 ml_X12_307 mv_X12_isMask (by first | assumption | rfl | exact led_1 (by assumption) | exact led_2 (by assumption) | exact bk_m (by assumption) (by first | assumption | omega) | exact bk_p (by assumption) (by first | assumption | omega) | exact bk_o (by assumption) (by first | assumption | omega) | exact bk_s (by assumption) (by first | assumption | omega) | exact bk_1 (by assumption) | exact bk_2 (by assumption) | exact bk_3 (by assumption) | exact bk_4 (by assumption) | exact bk_5 (by assumption) | exact bk_6 (by assumption) | exact bk_7 (by assumption) | exact bk_8 (by assumption) | exact sh_ring _ (by first | assumption | omega) | exact sh_imgs _ (by first | assumption | omega)) (by decide) rfl (by decide) (Nat.le_of_ble_eq_true rfl) (c_X12_isMask hR hr.1 ?_)
  refine v_if_ne (tgt := 18) dX12_may_9 (by decide) (fun hc9 => ?_) (fun hc9 => ?_)
  · (first | rw [bI_0, Bool.not_eq_false] at hc9 | rw [bI_0] at hc9 | rw [show (0 : Int32) = nI 0 from rfl, nI_eq (by omega) (by omega)] at hc9 | skip)
    refine v_aload_0 dX12_may_18 ?_
    refine v_iload_1 dX12_may_19 ?_
    refine u_callV_1 dX12_may_20 ml_X12_313 mv_X12_isDay (by first | assumption | rfl | exact led_1 (by assumption) | exact led_2 (by assumption) | exact bk_m (by assumption) (by first | assumption | omega) | exact bk_p (by assumption) (by first | assumption | omega) | exact bk_o (by assumption) (by first | assumption | omega) | exact bk_s (by assumption) (by first | assumption | omega) | exact bk_1 (by assumption) | exact bk_2 (by assumption) | exact bk_3 (by assumption) | exact bk_4 (by assumption) | exact bk_5 (by assumption) | exact bk_6 (by assumption) | exact bk_7 (by assumption) | exact bk_8 (by assumption) | exact sh_ring _ (by first | assumption | omega) | exact sh_imgs _ (by first | assumption | omega)) (by decide) rfl (by decide) (Nat.le_of_ble_eq_true rfl) (c_X12_isDay hR hr.1 ?_)
    refine v_if_ne (tgt := 32) dX12_may_23 (by decide) (fun hc23 => ?_) (fun hc23 => ?_)
    · (first | rw [bI_0, Bool.not_eq_false] at hc23 | rw [bI_0] at hc23 | rw [show (0 : Int32) = nI 0 from rfl, nI_eq (by omega) (by omega)] at hc23 | skip)
      obtain ⟨m, rfl, hm⟩ := inb_ex (by omega) hc9
      have em : tN (nI m) = m := tN_nI (by omega)
      obtain ⟨d, rfl, hd1, hd⟩ := ind_ex (by omega) hc23
      have ed : tN (nI d) = d := tN_nI (by omega)
      refine v_aload_0 dX12_may_32 ?_
      refine v_iload_1 dX12_may_33 ?_
      refine u_callV_1 dX12_may_34 ml_X12_403 mv_X12_trueOf (by first | assumption | rfl | exact led_1 (by assumption) | exact led_2 (by assumption) | exact bk_m (by assumption) (by first | assumption | omega) | exact bk_p (by assumption) (by first | assumption | omega) | exact bk_o (by assumption) (by first | assumption | omega) | exact bk_s (by assumption) (by first | assumption | omega) | exact bk_1 (by assumption) | exact bk_2 (by assumption) | exact bk_3 (by assumption) | exact bk_4 (by assumption) | exact bk_5 (by assumption) | exact bk_6 (by assumption) | exact bk_7 (by assumption) | exact bk_8 (by assumption) | exact sh_ring _ (by first | assumption | omega) | exact sh_imgs _ (by first | assumption | omega)) (by decide) rfl (by decide) (Nat.le_of_ble_eq_true rfl) (c_X12_trueOf (s := S 0) hR hr (by omega) (fun M k1 => ?_))
      refine v_istore_3 rfl dX12_may_37 ?_
      refine v_iconst (v := nI 0) dX12_may_38 (by decide) ?_
      refine v_istore_4 rfl dX12_may_39 ?_
      refine v_aload_0 dX12_may_41 ?_
      refine v_iload_2 dX12_may_42 ?_
      refine u_putI dX12_may_43 gf_X12_365 (by first | assumption | rfl | exact led_1 (by assumption) | exact led_2 (by assumption) | exact bk_m (by assumption) (by first | assumption | omega) | exact bk_p (by assumption) (by first | assumption | omega) | exact bk_o (by assumption) (by first | assumption | omega) | exact bk_s (by assumption) (by first | assumption | omega) | exact bk_1 (by assumption) | exact bk_2 (by assumption) | exact bk_3 (by assumption) | exact bk_4 (by assumption) | exact bk_5 (by assumption) | exact bk_6 (by assumption) | exact bk_7 (by assumption) | exact bk_8 (by assumption) | exact sh_ring _ (by first | assumption | omega) | exact sh_imgs _ (by first | assumption | omega)) rfl rfl rfl ?_
      refine v_iconst (v := nI 0) dX12_may_46 (by decide) ?_
      refine v_istore_5 rfl dX12_may_47 ?_
      refine l_may (S := S) hR (rf_k (rf_nt h) (by decide)) hm (by omega) (ui_s _ _ _ _) (by rw [ui_o (by decide), ui_s]) (fun J3 M3 h3 x3 m3 => ?_)
      refine v_aload_0 dX12_may_96 ?_
      refine u_callV_0 dX12_may_97 ml_X12_384 mv_X12_tellNone (by first | assumption | rfl | exact led_1 (by assumption) | exact led_2 (by assumption) | exact bk_m (by assumption) (by first | assumption | omega) | exact bk_p (by assumption) (by first | assumption | omega) | exact bk_o (by assumption) (by first | assumption | omega) | exact bk_s (by assumption) (by first | assumption | omega) | exact bk_1 (by assumption) | exact bk_2 (by assumption) | exact bk_3 (by assumption) | exact bk_4 (by assumption) | exact bk_5 (by assumption) | exact bk_6 (by assumption) | exact bk_7 (by assumption) | exact bk_8 (by assumption) | exact sh_ring _ (by first | assumption | omega) | exact sh_imgs _ (by first | assumption | omega)) (by decide) rfl (by decide) (Nat.le_of_ble_eq_true rfl) (c_X12_tellNone ?_)
      refine v_iload_4 dX12_may_100 ?_
      refine v_iret dX12_may_102 rfl rfl rfl rfl ?_
      exact hQ.fin (rf_nt h3) (fun x hx => by rw [ui_ne (by omega), ui_ne (by omega), x3 x hx, ui_ne (by omega), ui_ne (by omega), ui_ne (by omega), ui_ne (by omega), ui_ne (by omega)]) (fun x q => by rw [m3 x q]; exact k1 x q) (by rw [t_may, hc9, hc23]; rfl) (by rw [a_may, if_pos (by rw [hc9, hc23]; rfl), em, ed])
    · (first | rw [bI_0, Bool.not_eq_false] at hc23 | rw [bI_0] at hc23 | rw [show (0 : Int32) = nI 0 from rfl, nI_eq (by omega) (by omega)] at hc23 | skip)
      refine v_aload_0 dX12_may_26 ?_
      refine v_iconst (v := nI 2) dX12_may_27 (by decide) ?_
      refine u_callV_1 dX12_may_28 ml_X12_176 mv_X12_no (by first | assumption | rfl | exact led_1 (by assumption) | exact led_2 (by assumption) | exact bk_m (by assumption) (by first | assumption | omega) | exact bk_p (by assumption) (by first | assumption | omega) | exact bk_o (by assumption) (by first | assumption | omega) | exact bk_s (by assumption) (by first | assumption | omega) | exact bk_1 (by assumption) | exact bk_2 (by assumption) | exact bk_3 (by assumption) | exact bk_4 (by assumption) | exact bk_5 (by assumption) | exact bk_6 (by assumption) | exact bk_7 (by assumption) | exact bk_8 (by assumption) | exact sh_ring _ (by first | assumption | omega) | exact sh_imgs _ (by first | assumption | omega)) (by decide) rfl (by decide) (Nat.le_of_ble_eq_true rfl) (c_X12_no (k := 2) ?_)
      refine v_iret dX12_may_31 rfl rfl rfl rfl ?_
      first
        | exact hQ.fin h (fun x hx => by simp only [ui_ne (show x ≠ 157 by omega)]) (fun _ _ => rfl) (by simp [t_may, trc, hc9, hc23] <;> rfl) (by simp [a_may, hc9, hc23] <;> rfl)
        | exact hQ.fin (rf_tr h (by decide)) (fun x hx => by simp only [ui_ne (show x ≠ 157 by omega)]) (fun _ _ => rfl) (by simp [t_may, trc, hc9, hc23] <;> rfl) (by simp [a_may, hc9, hc23] <;> rfl)
  · (first | rw [bI_0, Bool.not_eq_false] at hc9 | rw [bI_0] at hc9 | rw [show (0 : Int32) = nI 0 from rfl, nI_eq (by omega) (by omega)] at hc9 | skip)
    refine v_aload_0 dX12_may_12 ?_
    refine v_iconst (v := nI 1) dX12_may_13 (by decide) ?_
    refine u_callV_1 dX12_may_14 ml_X12_176 mv_X12_no (by first | assumption | rfl | exact led_1 (by assumption) | exact led_2 (by assumption) | exact bk_m (by assumption) (by first | assumption | omega) | exact bk_p (by assumption) (by first | assumption | omega) | exact bk_o (by assumption) (by first | assumption | omega) | exact bk_s (by assumption) (by first | assumption | omega) | exact bk_1 (by assumption) | exact bk_2 (by assumption) | exact bk_3 (by assumption) | exact bk_4 (by assumption) | exact bk_5 (by assumption) | exact bk_6 (by assumption) | exact bk_7 (by assumption) | exact bk_8 (by assumption) | exact sh_ring _ (by first | assumption | omega) | exact sh_imgs _ (by first | assumption | omega)) (by decide) rfl (by decide) (Nat.le_of_ble_eq_true rfl) (c_X12_no (k := 1) ?_)
    refine v_iret dX12_may_17 rfl rfl rfl rfl ?_
    first
      | exact hQ.fin h (fun x hx => by simp only [ui_ne (show x ≠ 157 by omega)]) (fun _ _ => rfl) (by simp [t_may, trc, hc9] <;> rfl) (by simp [a_may, hc9] <;> rfl)
      | exact hQ.fin (rf_tr h (by decide)) (fun x hx => by simp only [ui_ne (show x ≠ 157 by omega)]) (fun _ _ => rfl) (by simp [t_may, trc, hc9] <;> rfl) (by simp [a_may, hc9] <;> rfl)
end
