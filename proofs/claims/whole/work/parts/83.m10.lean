theorem ipos_eq {F : bkF} {s : LSt} {i p u' : Nat} (h : LOK F s) (hi : i < s.1) (hq : okq F ((s.2.1 i).1, p, (s.2.1 i).2.2.1, (s.2.1 i).2.2.2)) (hl : LOK F (s.1 - 1, cutg s.2.1 i, s.2.2)) (hf : free (s.1 - 1) (cutg s.2.1 i) ((s.2.1 i).1, p, (s.2.1 i).2.2.1, (s.2.1 i).2.2.2)) : ipos (s.1 - 1) (cutg s.2.1 i) ((s.2.1 i).1, p, (s.2.1 i).2.2.1, (s.2.1 i).2.2.2) = i := by
  have hik := hq.1.2.2.2.1
  have hik : (s.2.1 i).2.2.1 ≤ (s.2.1 i).2.2.2 := hik
  rcases Nat.lt_trichotomy (ipos (s.1 - 1) (cutg s.2.1 i) ((s.2.1 i).1, p, (s.2.1 i).2.2.1, (s.2.1 i).2.2.2)) i with c | c | c
  · exfalso
    generalize hk : ipos (s.1 - 1) (cutg s.2.1 i) ((s.2.1 i).1, p, (s.2.1 i).2.2.1, (s.2.1 i).2.2.2) = k at c
    have a := (ipos_hi hl hq hf (z := k) (by show ipos (s.1 - 1) (cutg s.2.1 i) _ ≤ k; omega) (by show k < s.1 - 1; omega)).1
    have e : cutg s.2.1 i k = s.2.1 k := by unfold cutg; rw [if_pos c]
    have a' : (s.2.1 i).1 < (cutg s.2.1 i k).1 ∨ (s.2.1 i).1 = (cutg s.2.1 i k).1 ∧ (s.2.1 i).2.2.2 < (cutg s.2.1 i k).2.2.1 := a
    rw [e] at a'
    have r := (h.rel c hi).1
    have ok := (h.2.1 k (by omega)).1.2.2.2.1
    omega
  · exact c
  · exfalso
    have hle := ipos_le (s.1 - 1) (cutg s.2.1 i) ((s.2.1 i).1, p, (s.2.1 i).2.2.1, (s.2.1 i).2.2.2)
    have a := (ipos_lo hl hq hf (z := i) c).1
    have e : cutg s.2.1 i i = s.2.1 (i + 1) := by unfold cutg; rw [if_neg (by omega)]
    have a' : (cutg s.2.1 i i).1 < (s.2.1 i).1 ∨ (cutg s.2.1 i i).1 = (s.2.1 i).1 ∧ (cutg s.2.1 i i).2.2.2 < (s.2.1 i).2.2.1 := a
    rw [e] at a'
    have r := (h.rel (show i < i + 1 by omega) (show i + 1 < s.1 by omega)).1
    have ok := (h.2.1 (i + 1) (by omega)).1.2.2.2.1
    omega
theorem sti_pass {F : bkF} {I J : HI} {s : LSt} {i p : Nat} (h : LOK F s) (hS : StI I 162 0 s) (hi : i < s.1) (hn : s.1 ≤ 20) (hq : okq F ((s.2.1 i).1, p, (s.2.1 i).2.2.1, (s.2.1 i).2.2.2)) (hl : LOK F (endS s i (s.2.1 i).2.2.1)) (hf : free (endS s i (s.2.1 i).2.2.1).1 (endS s i (s.2.1 i).2.2.1).2.1 ((s.2.1 i).1, p, (s.2.1 i).2.2.1, (s.2.1 i).2.2.2)) (hJ : J 162 = ui I 162 (1 + 4 * i + 1) (nI p) 162) : StI J 162 0 (insS (endS s i (s.2.1 i).2.2.1) ((s.2.1 i).1, p, (s.2.1 i).2.2.1, (s.2.1 i).2.2.2)) := by
  refine StI.fr (I := ui I 162 (1 + 4 * i + 1) (nI p)) ?_ hJ
  have e : endS s i (s.2.1 i).2.2.1 = (s.1 - 1, cutg s.2.1 i, s.2.2) := by unfold endS; rw [if_neg (by omega)]
  rw [e] at hl hf ⊢
  have e2 := ipos_eq (u' := 0) h hi hq hl hf
  unfold insS
  show StI _ 162 0 (s.1 - 1 + 1, insg (cutg s.2.1 i) _ (ipos (s.1 - 1) (cutg s.2.1 i) _), s.2.2)
  rw [e2, show s.1 - 1 + 1 = s.1 by omega]
  refine ⟨by rw [ui_o (by omega)]; exact hS.1, fun j hj => ?_, fun p hp => by rw [ui_o (by omega)]; exact hS.2.2 p hp⟩
  have hj : j < s.1 := hj
  have := hS.2.1 j hj
  show _ = nI (insg _ _ _ j).1 ∧ _ = nI (insg _ _ _ j).2.1 ∧ _ = nI (insg _ _ _ j).2.2.1 ∧ _ = nI (insg _ _ _ j).2.2.2
  by_cases ej : j = i
  · subst ej
    unfold insg
    rw [if_neg (by omega), if_pos rfl]
    exact ⟨by rw [ui_o (by omega)]; exact this.1, by rw [show 0 + 2 + 4 * j = 1 + 4 * j + 1 by omega, ui_s], by rw [ui_o (by omega)]; exact this.2.2.1, by rw [ui_o (by omega)]; exact this.2.2.2⟩
  · have eg : insg (cutg s.2.1 i) ((s.2.1 i).1, p, (s.2.1 i).2.2.1, (s.2.1 i).2.2.2) i j = s.2.1 j := by
      unfold insg cutg
      by_cases c : j < i
      · rw [if_pos c]; simp only [c, if_true]
      · rw [if_neg c, if_neg ej]; simp only [show ¬ j - 1 < i by omega, if_false]; rw [show j - 1 + 1 = j by omega]
    rw [eg, ui_o (by omega), ui_o (by omega), ui_o (by omega), ui_o (by omega)]; exact this
section
variable {b : Nat} {ad : Nat → Nat} {I J : HI} {L M : HL} {R : HR} {Q : QT} {tp : Nat → Nat} {nt tr fa pl : Nat} {F : bkF} {S : Nat → LSt} {u r : Nat} {im : Nat → LSt} {ic : Nat}
theorem r_pass {x : Int32} {y : Int32} {z : Int32} (hR : RO R) (h : RefB I tp nt tr fa pl F S u r im ic) (hl : ∀ k, live u r k → LOK F (S k)) (hQ0 : k_pass F (S 0) x y z ≠ 0 → YQ I L R tp nt (k_pass F (S 0) x y z) fa pl F S u r im ic 0 Q) (hQ1 : k_pass F (S 0) x y z = 0 → YQ I L R tp nt 0 fa pl F (stepS S (n_pass (S 0) (tN x) (tN y) (tN z))) (upU u) 0 im ic 1 Q) : KK 8 mX12_pass b ad [.ref (b + 157), .int x, .int y, .int z] I L R Q := by
  have hO := h.2.2.1.1.2.2.1
  have o0 := hO.1
  have o1 := hO.2.1
  have o2 := hO.2.2.1
  have o3 := hO.2.2.2.1
  have o4 := hO.2.2.2.2.1
  have o5 := hO.2.2.2.2.2.1
  have o6 := hO.2.2.2.2.2.2.1
  have hK := h.2.2.1.2.2
  have hn20 := hK.1
  have hok : ∀ i, i < (S 0).1 → ok4 ((S 0).2.1 i) := fun i hi => (hK.2.1 i hi).1
  refine K.of (M := mX12_pass) (lv := [some (.ref (b + 157)), some (.int x), some (.int y), some (.int z), none, none, none]) (by decide) (Nat.le_of_ble_eq_true rfl) rfl ?_
  refine v_aload_0 dX12_pass_0 ?_
  refine u_callV_0 dX12_pass_1 ml_X12_173 mv_X12_good (by first | assumption | rfl | exact led_1 (by assumption) | exact led_2 (by assumption) | exact bk_m (by assumption) (by first | assumption | omega) | exact bk_p (by assumption) (by first | assumption | omega) | exact bk_o (by assumption) (by first | assumption | omega) | exact bk_s (by assumption) (by first | assumption | omega) | exact bk_1 (by assumption) | exact bk_2 (by assumption) | exact bk_3 (by assumption) | exact bk_4 (by assumption) | exact bk_5 (by assumption) | exact bk_6 (by assumption) | exact bk_7 (by assumption) | exact bk_8 (by assumption) | exact sh_ring _ (by first | assumption | omega) | exact sh_imgs _ (by first | assumption | omega)) (by decide) rfl (by decide) (Nat.le_of_ble_eq_true rfl) (c_X12_good ?_)
  have h := rf_good h
  have hr : RfI _ F (S 0) := h.2.2.1
  have hS := hr.2.1
  refine v_aload_0 dX12_pass_4 ?_
  refine v_iload_1 dX12_pass_5 ?_
  refine u_callV_1 dX12_pass_6 ml_X12_307 mv_X12_isMask (by first | assumption | rfl | exact led_1 (by assumption) | exact led_2 (by assumption) | exact bk_m (by assumption) (by first | assumption | omega) | exact bk_p (by assumption) (by first | assumption | omega) | exact bk_o (by assumption) (by first | assumption | omega) | exact bk_s (by assumption) (by first | assumption | omega) | exact bk_1 (by assumption) | exact bk_2 (by assumption) | exact bk_3 (by assumption) | exact bk_4 (by assumption) | exact bk_5 (by assumption) | exact bk_6 (by assumption) | exact bk_7 (by assumption) | exact bk_8 (by assumption) | exact sh_ring _ (by first | assumption | omega) | exact sh_imgs _ (by first | assumption | omega)) (by decide) rfl (by decide) (Nat.le_of_ble_eq_true rfl) (c_X12_isMask hR hr.1 ?_)
  refine v_if_eq (tgt := 20) dX12_pass_9 (by decide) (fun hc9 => ?_) (fun hc9 => ?_)
  · (first | rw [bI_0, Bool.not_eq_false] at hc9 | rw [bI_0] at hc9 | rw [show (0 : Int32) = nI 0 from rfl, nI_eq (by omega) (by omega)] at hc9 | skip)
    refine v_aload_0 dX12_pass_20 ?_
    refine v_iconst (v := nI 1) dX12_pass_21 (by decide) ?_
    refine u_callV_1 dX12_pass_22 ml_X12_423 mv_X12_isNot (by first | assumption | rfl | exact led_1 (by assumption) | exact led_2 (by assumption) | exact bk_m (by assumption) (by first | assumption | omega) | exact bk_p (by assumption) (by first | assumption | omega) | exact bk_o (by assumption) (by first | assumption | omega) | exact bk_s (by assumption) (by first | assumption | omega) | exact bk_1 (by assumption) | exact bk_2 (by assumption) | exact bk_3 (by assumption) | exact bk_4 (by assumption) | exact bk_5 (by assumption) | exact bk_6 (by assumption) | exact bk_7 (by assumption) | exact bk_8 (by assumption) | exact sh_ring _ (by first | assumption | omega) | exact sh_imgs _ (by first | assumption | omega)) (by decide) rfl (by decide) (Nat.le_of_ble_eq_true rfl) (c_X12_isNot (k := 1) ?_)
    refine v_zret dX12_pass_25 (by first | rfl | exact bI_n _) rfl rfl rfl rfl ?_
    have hk : k_pass F (S 0) x y z = 1 := by first | simp [k_pass, trc, hc9, hc17] | simp [k_pass, trc, hc9]
    exact (hQ0 (by rw [hk]; decide)).fin (rf_tr h (by decide)) (fun x hx => by simp only [ui_ne (show x ≠ 157 by omega)]) (fun _ _ => rfl) hk.symm rfl
  · (first | rw [bI_0, Bool.not_eq_false] at hc9 | rw [bI_0] at hc9 | rw [show (0 : Int32) = nI 0 from rfl, nI_eq (by omega) (by omega)] at hc9 | skip)
    refine v_aload_0 dX12_pass_12 ?_
    refine v_iload_3 dX12_pass_13 ?_
    refine u_callV_1 dX12_pass_14 ml_X12_310 mv_X12_isPerson (by first | assumption | rfl | exact led_1 (by assumption) | exact led_2 (by assumption) | exact bk_m (by assumption) (by first | assumption | omega) | exact bk_p (by assumption) (by first | assumption | omega) | exact bk_o (by assumption) (by first | assumption | omega) | exact bk_s (by assumption) (by first | assumption | omega) | exact bk_1 (by assumption) | exact bk_2 (by assumption) | exact bk_3 (by assumption) | exact bk_4 (by assumption) | exact bk_5 (by assumption) | exact bk_6 (by assumption) | exact bk_7 (by assumption) | exact bk_8 (by assumption) | exact sh_ring _ (by first | assumption | omega) | exact sh_imgs _ (by first | assumption | omega)) (by decide) rfl (by decide) (Nat.le_of_ble_eq_true rfl) (c_X12_isPerson hR hr.1 ?_)
    refine v_if_ne (tgt := 26) dX12_pass_17 (by decide) (fun hc17 => ?_) (fun hc17 => ?_)
    · (first | rw [bI_0, Bool.not_eq_false] at hc17 | rw [bI_0] at hc17 | rw [show (0 : Int32) = nI 0 from rfl, nI_eq (by omega) (by omega)] at hc17 | skip)
      refine v_aload_0 dX12_pass_26 ?_
      refine v_iload_2 dX12_pass_27 ?_
      refine u_callV_1 dX12_pass_28 ml_X12_313 mv_X12_isDay (by first | assumption | rfl | exact led_1 (by assumption) | exact led_2 (by assumption) | exact bk_m (by assumption) (by first | assumption | omega) | exact bk_p (by assumption) (by first | assumption | omega) | exact bk_o (by assumption) (by first | assumption | omega) | exact bk_s (by assumption) (by first | assumption | omega) | exact bk_1 (by assumption) | exact bk_2 (by assumption) | exact bk_3 (by assumption) | exact bk_4 (by assumption) | exact bk_5 (by assumption) | exact bk_6 (by assumption) | exact bk_7 (by assumption) | exact bk_8 (by assumption) | exact sh_ring _ (by first | assumption | omega) | exact sh_imgs _ (by first | assumption | omega)) (by decide) rfl (by decide) (Nat.le_of_ble_eq_true rfl) (c_X12_isDay hR hr.1 ?_)
      refine v_if_ne (tgt := 40) dX12_pass_31 (by decide) (fun hc31 => ?_) (fun hc31 => ?_)
      · (first | rw [bI_0, Bool.not_eq_false] at hc31 | rw [bI_0] at hc31 | rw [show (0 : Int32) = nI 0 from rfl, nI_eq (by omega) (by omega)] at hc31 | skip)
        obtain ⟨m, rfl, hm⟩ := inb_ex (by omega) hc9
        have em : tN (nI m) = m := tN_nI (by omega)
        obtain ⟨p, rfl, hp⟩ := inb_ex (by omega) hc17
        have ep : tN (nI p) = p := tN_nI (by omega)
        obtain ⟨d, rfl, hd1, hd⟩ := ind_ex (by omega) hc31
        have ed : tN (nI d) = d := tN_nI (by omega)
        have hcc : ((inb (nI m) (F 2) && inb (nI p) (F 3)) && ind (nI d) (F 0)) = true := by rw [hc9, hc17, hc31]; rfl
        refine v_aload_0 dX12_pass_40 ?_
        refine u_getR dX12_pass_41 gf_X12_26 (by first | assumption | rfl | exact led_1 (by assumption) | exact led_2 (by assumption) | exact bk_m (by assumption) (by first | assumption | omega) | exact bk_p (by assumption) (by first | assumption | omega) | exact bk_o (by assumption) (by first | assumption | omega) | exact bk_s (by assumption) (by first | assumption | omega) | exact bk_1 (by assumption) | exact bk_2 (by assumption) | exact bk_3 (by assumption) | exact bk_4 (by assumption) | exact bk_5 (by assumption) | exact bk_6 (by assumption) | exact bk_7 (by assumption) | exact bk_8 (by assumption) | exact sh_ring _ (by first | assumption | omega) | exact sh_imgs _ (by first | assumption | omega)) (ro_X12_17 (by assumption)) ?_
        refine v_iload_1 dX12_pass_44 ?_
        refine v_iload_2 dX12_pass_45 ?_
        refine u_callS_3 dX12_pass_46 ml_X12_304 ms_X12_lendingOf (by decide) (Nat.le_of_ble_eq_true rfl) (c_X12_lendingOf (s := S 0) rfl hS hn20 hok (by omega) (by omega) ?_)
        refine v_istore_4 rfl dX12_pass_49 ?_
        cases hf : fup (hitm (S 0).2.1 m d d) 0 (S 0).1 with
        | none =>
          show VV _ _ _ _ _ _ _ _ _ [some (.ref (b + 157)), some (.int (nI m)), some (.int (nI d)), some (.int (nI p)), some (.int (-1)), none, none] _ _ _ _
          refine v_iload_4 dX12_pass_51 ?_
          refine v_if_ge (tgt := 63) dX12_pass_53 (by decide) (fun hc53 => ?_) (fun hc53 => ?_)
          · exact absurd hc53 (by decide)
          · (first | rw [show (0 : Int32) = nI 0 from rfl, nI_ltI (by omega) (by omega)] at hc53 | rw [show (0 : Int32) = nI 0 from rfl, nI_leI (by omega) (by omega)] at hc53 | skip)
            refine v_aload_0 dX12_pass_56 ?_
            refine v_bipush (v := nI 6) dX12_pass_57 (by decide) ?_
            refine u_callV_1 dX12_pass_59 ml_X12_423 mv_X12_isNot (by first | assumption | rfl | exact led_1 (by assumption) | exact led_2 (by assumption) | exact bk_m (by assumption) (by first | assumption | omega) | exact bk_p (by assumption) (by first | assumption | omega) | exact bk_o (by assumption) (by first | assumption | omega) | exact bk_s (by assumption) (by first | assumption | omega) | exact bk_1 (by assumption) | exact bk_2 (by assumption) | exact bk_3 (by assumption) | exact bk_4 (by assumption) | exact bk_5 (by assumption) | exact bk_6 (by assumption) | exact bk_7 (by assumption) | exact bk_8 (by assumption) | exact sh_ring _ (by first | assumption | omega) | exact sh_imgs _ (by first | assumption | omega)) (by decide) rfl (by decide) (Nat.le_of_ble_eq_true rfl) (c_X12_isNot (k := 6) ?_)
            refine v_zret dX12_pass_62 (by first | rfl | exact bI_n _) rfl rfl rfl rfl ?_
            have hk : k_pass F (S 0) (nI m) (nI d) (nI p) = 6 := by rw [k_pass, if_pos hcc, em, ed, ep, hf]
            exact (hQ0 (by rw [hk]; decide)).fin (rf_tr h (by decide)) (fun x hx => by simp only [ui_ne (show x ≠ 157 by omega)]) (fun _ _ => rfl) hk.symm rfl
        | some i =>
          have hi : i < (S 0).1 := by have := fup_some hf; omega
          have hh := (fup_some hf).2.2
          simp only [hitm, ovl, Bool.and_eq_true, decide_eq_true_eq] at hh
          obtain ⟨c1, c2, c3⟩ := hh
          have e : n_pass (S 0) m d p = insS (endS (S 0) i d) (m, p, d, ((S 0).2.1 i).2.2.2) := by unfold n_pass; rw [hf]
          have hkf : k_pass F (S 0) (nI m) (nI d) (nI p) = if 20 ≤ (S 0).1 ∧ ((S 0).2.1 i).2.2.1 < d then 3 else if (fitF F m p && (fup (hitp (S 0).2.1 p d ((S 0).2.1 i).2.2.2) 0 (S 0).1).isNone) = true then 0 else 5 := by rw [k_pass, if_pos hcc, em, ed, ep, hf]
          have hle := lok_end hK hi (d := d) (by omega) (by omega)
          obtain ⟨v1, v2, v3, v4, v5⟩ := hok i hi
          show VV _ _ _ _ _ _ _ _ _ [some (.ref (b + 157)), some (.int (nI m)), some (.int (nI d)), some (.int (nI p)), some (.int (nI i)), none, none] _ _ _ _
          refine v_iload_4 dX12_pass_51 ?_
          refine v_if_ge (tgt := 63) dX12_pass_53 (by decide) (fun hc53 => ?_) (fun hc53 => ?_)
          · (first | rw [show (0 : Int32) = nI 0 from rfl, nI_ltI (by omega) (by omega)] at hc53 | rw [show (0 : Int32) = nI 0 from rfl, nI_leI (by omega) (by omega)] at hc53 | skip)
            refine v_aload_0 dX12_pass_63 ?_
            refine u_getR dX12_pass_64 gf_X12_26 (by first | assumption | rfl | exact led_1 (by assumption) | exact led_2 (by assumption) | exact bk_m (by assumption) (by first | assumption | omega) | exact bk_p (by assumption) (by first | assumption | omega) | exact bk_o (by assumption) (by first | assumption | omega) | exact bk_s (by assumption) (by first | assumption | omega) | exact bk_1 (by assumption) | exact bk_2 (by assumption) | exact bk_3 (by assumption) | exact bk_4 (by assumption) | exact bk_5 (by assumption) | exact bk_6 (by assumption) | exact bk_7 (by assumption) | exact bk_8 (by assumption) | exact sh_ring _ (by first | assumption | omega) | exact sh_imgs _ (by first | assumption | omega)) (ro_X12_17 (by assumption)) ?_
            refine v_iconst (v := nI 1) dX12_pass_67 (by decide) ?_
            refine v_iconst (v := nI 4) dX12_pass_68 (by decide) ?_
            refine v_iload_4 dX12_pass_69 ?_
            refine v_imul dX12_pass_71 ?_
            refine v_iadd dX12_pass_72 ?_
            refine v_iconst (v := nI 2) dX12_pass_73 (by decide) ?_
            refine v_iadd dX12_pass_74 ?_
            refine u_iald dX12_pass_75 (by first | assumption | rfl | exact led_1 (by assumption) | exact led_2 (by assumption) | exact bk_m (by assumption) (by first | assumption | omega) | exact bk_p (by assumption) (by first | assumption | omega) | exact bk_o (by assumption) (by first | assumption | omega) | exact bk_s (by assumption) (by first | assumption | omega) | exact bk_1 (by assumption) | exact bk_2 (by assumption) | exact bk_3 (by assumption) | exact bk_4 (by assumption) | exact bk_5 (by assumption) | exact bk_6 (by assumption) | exact bk_7 (by assumption) | exact bk_8 (by assumption) | exact sh_ring _ (by first | assumption | omega) | exact sh_imgs _ (by first | assumption | omega)) (by first | with_reducible rfl | (simp only [nlit, nI_add, pk_mul]; with_reducible rfl) | rfl) (by first | assumption | omega) (by first | assumption | decide) ?_
            rw [hS.f hi (by omega)]
            refine v_istore_5 rfl dX12_pass_76 ?_
            refine v_aload_0 dX12_pass_78 ?_
            refine u_getR dX12_pass_79 gf_X12_26 (by first | assumption | rfl | exact led_1 (by assumption) | exact led_2 (by assumption) | exact bk_m (by assumption) (by first | assumption | omega) | exact bk_p (by assumption) (by first | assumption | omega) | exact bk_o (by assumption) (by first | assumption | omega) | exact bk_s (by assumption) (by first | assumption | omega) | exact bk_1 (by assumption) | exact bk_2 (by assumption) | exact bk_3 (by assumption) | exact bk_4 (by assumption) | exact bk_5 (by assumption) | exact bk_6 (by assumption) | exact bk_7 (by assumption) | exact bk_8 (by assumption) | exact sh_ring _ (by first | assumption | omega) | exact sh_imgs _ (by first | assumption | omega)) (ro_X12_17 (by assumption)) ?_
            refine v_iconst (v := nI 1) dX12_pass_82 (by decide) ?_
            refine v_iconst (v := nI 4) dX12_pass_83 (by decide) ?_
            refine v_iload_4 dX12_pass_84 ?_
            refine v_imul dX12_pass_86 ?_
            refine v_iadd dX12_pass_87 ?_
            refine v_iconst (v := nI 3) dX12_pass_88 (by decide) ?_
            refine v_iadd dX12_pass_89 ?_
            refine u_iald dX12_pass_90 (by first | assumption | rfl | exact led_1 (by assumption) | exact led_2 (by assumption) | exact bk_m (by assumption) (by first | assumption | omega) | exact bk_p (by assumption) (by first | assumption | omega) | exact bk_o (by assumption) (by first | assumption | omega) | exact bk_s (by assumption) (by first | assumption | omega) | exact bk_1 (by assumption) | exact bk_2 (by assumption) | exact bk_3 (by assumption) | exact bk_4 (by assumption) | exact bk_5 (by assumption) | exact bk_6 (by assumption) | exact bk_7 (by assumption) | exact bk_8 (by assumption) | exact sh_ring _ (by first | assumption | omega) | exact sh_imgs _ (by first | assumption | omega)) (by first | with_reducible rfl | (simp only [nlit, nI_add, pk_mul]; with_reducible rfl) | rfl) (by first | assumption | omega) (by first | assumption | decide) ?_
            rw [hS.u hi (by omega)]
            refine v_istore_6 rfl dX12_pass_91 ?_
            refine v_aload_0 dX12_pass_93 ?_
            refine u_getR dX12_pass_94 gf_X12_26 (by first | assumption | rfl | exact led_1 (by assumption) | exact led_2 (by assumption) | exact bk_m (by assumption) (by first | assumption | omega) | exact bk_p (by assumption) (by first | assumption | omega) | exact bk_o (by assumption) (by first | assumption | omega) | exact bk_s (by assumption) (by first | assumption | omega) | exact bk_1 (by assumption) | exact bk_2 (by assumption) | exact bk_3 (by assumption) | exact bk_4 (by assumption) | exact bk_5 (by assumption) | exact bk_6 (by assumption) | exact bk_7 (by assumption) | exact bk_8 (by assumption) | exact sh_ring _ (by first | assumption | omega) | exact sh_imgs _ (by first | assumption | omega)) (ro_X12_17 (by assumption)) ?_
            refine v_iconst (v := nI 0) dX12_pass_97 (by decide) ?_
            refine u_iald dX12_pass_98 (by first | assumption | rfl | exact led_1 (by assumption) | exact led_2 (by assumption) | exact bk_m (by assumption) (by first | assumption | omega) | exact bk_p (by assumption) (by first | assumption | omega) | exact bk_o (by assumption) (by first | assumption | omega) | exact bk_s (by assumption) (by first | assumption | omega) | exact bk_1 (by assumption) | exact bk_2 (by assumption) | exact bk_3 (by assumption) | exact bk_4 (by assumption) | exact bk_5 (by assumption) | exact bk_6 (by assumption) | exact bk_7 (by assumption) | exact bk_8 (by assumption) | exact sh_ring _ (by first | assumption | omega) | exact sh_imgs _ (by first | assumption | omega)) (by first | with_reducible rfl | (simp only [nlit, nI_add, pk_mul]; with_reducible rfl) | rfl) (by first | assumption | omega) (by first | assumption | decide) ?_
            rw [hS.1]
            refine v_bipush (v := nI 20) dX12_pass_99 (by decide) ?_
            refine v_icmp_ne (tgt := 116) dX12_pass_101 (by decide) (fun hc101 => ?_) (fun hc101 => ?_)
            · (try rw [nI_eq (by omega) (by omega)] at hc101)
              refine v_aload_0 dX12_pass_116 ?_
              refine u_getR dX12_pass_117 gf_X12_26 (by first | assumption | rfl | exact led_1 (by assumption) | exact led_2 (by assumption) | exact bk_m (by assumption) (by first | assumption | omega) | exact bk_p (by assumption) (by first | assumption | omega) | exact bk_o (by assumption) (by first | assumption | omega) | exact bk_s (by assumption) (by first | assumption | omega) | exact bk_1 (by assumption) | exact bk_2 (by assumption) | exact bk_3 (by assumption) | exact bk_4 (by assumption) | exact bk_5 (by assumption) | exact bk_6 (by assumption) | exact bk_7 (by assumption) | exact bk_8 (by assumption) | exact sh_ring _ (by first | assumption | omega) | exact sh_imgs _ (by first | assumption | omega)) (ro_X12_17 (by assumption)) ?_
              refine v_iconst (v := nI 1) dX12_pass_120 (by decide) ?_
              refine v_iconst (v := nI 4) dX12_pass_121 (by decide) ?_
              refine v_iload_4 dX12_pass_122 ?_
              refine v_imul dX12_pass_124 ?_
              refine v_iadd dX12_pass_125 ?_
              refine v_iconst (v := nI 1) dX12_pass_126 (by decide) ?_
              refine v_iadd dX12_pass_127 ?_
              refine u_iald dX12_pass_128 (by first | assumption | rfl | exact led_1 (by assumption) | exact led_2 (by assumption) | exact bk_m (by assumption) (by first | assumption | omega) | exact bk_p (by assumption) (by first | assumption | omega) | exact bk_o (by assumption) (by first | assumption | omega) | exact bk_s (by assumption) (by first | assumption | omega) | exact bk_1 (by assumption) | exact bk_2 (by assumption) | exact bk_3 (by assumption) | exact bk_4 (by assumption) | exact bk_5 (by assumption) | exact bk_6 (by assumption) | exact bk_7 (by assumption) | exact bk_8 (by assumption) | exact sh_ring _ (by first | assumption | omega) | exact sh_imgs _ (by first | assumption | omega)) (by first | with_reducible rfl | (simp only [nlit, nI_add, pk_mul]; with_reducible rfl) | rfl) (by first | assumption | omega) (by first | assumption | decide) ?_
              rw [hS.p hi (by omega)]
              refine v_iload_3 dX12_pass_129 ?_
              refine v_icmp_eq (tgt := 153) dX12_pass_130 (by decide) (fun hc130 => ?_) (fun hc130 => ?_)
              · (try rw [nI_eq (by omega) (by omega)] at hc130)
                refine v_aload_0 dX12_pass_153 ?_
                refine v_iconst (v := nI 5) dX12_pass_154 (by decide) ?_
                refine u_callV_1 dX12_pass_155 ml_X12_423 mv_X12_isNot (by first | assumption | rfl | exact led_1 (by assumption) | exact led_2 (by assumption) | exact bk_m (by assumption) (by first | assumption | omega) | exact bk_p (by assumption) (by first | assumption | omega) | exact bk_o (by assumption) (by first | assumption | omega) | exact bk_s (by assumption) (by first | assumption | omega) | exact bk_1 (by assumption) | exact bk_2 (by assumption) | exact bk_3 (by assumption) | exact bk_4 (by assumption) | exact bk_5 (by assumption) | exact bk_6 (by assumption) | exact bk_7 (by assumption) | exact bk_8 (by assumption) | exact sh_ring _ (by first | assumption | omega) | exact sh_imgs _ (by first | assumption | omega)) (by decide) rfl (by decide) (Nat.le_of_ble_eq_true rfl) (c_X12_isNot (k := 5) ?_)
                refine v_zret dX12_pass_158 (by first | rfl | exact bI_n _) rfl rfl rfl rfl ?_
                have hk : k_pass F (S 0) (nI m) (nI d) (nI p) = 5 := by
                  rw [hkf, if_neg (by omega), if_neg]
                  first
                    | (rw [← aup_pass (F := F) hK hi c1 c2 c3 (fun q => absurd q hc130), hc150]; decide)
                    | (intro q; rw [Bool.and_eq_true] at q; have := fup_isNone q.2 i hi; simp only [hitp, ovl, Bool.and_eq_false_iff, decide_eq_false_iff_not] at this; omega)
                exact (hQ0 (by rw [hk]; decide)).fin (rf_tr h (by decide)) (fun x hx => by simp only [ui_ne (show x ≠ 157 by omega)]) (fun _ _ => rfl) hk.symm rfl
              · (try rw [nI_eq (by omega) (by omega)] at hc130)
                refine v_aload_0 dX12_pass_133 ?_
                refine u_getR dX12_pass_134 gf_X12_20 (by first | assumption | rfl | exact led_1 (by assumption) | exact led_2 (by assumption) | exact bk_m (by assumption) (by first | assumption | omega) | exact bk_p (by assumption) (by first | assumption | omega) | exact bk_o (by assumption) (by first | assumption | omega) | exact bk_s (by assumption) (by first | assumption | omega) | exact bk_1 (by assumption) | exact bk_2 (by assumption) | exact bk_3 (by assumption) | exact bk_4 (by assumption) | exact bk_5 (by assumption) | exact bk_6 (by assumption) | exact bk_7 (by assumption) | exact bk_8 (by assumption) | exact sh_ring _ (by first | assumption | omega) | exact sh_imgs _ (by first | assumption | omega)) (ro_X12_15 (by assumption)) ?_
                refine v_aload_0 dX12_pass_137 ?_
                refine u_getR dX12_pass_138 gf_X12_26 (by first | assumption | rfl | exact led_1 (by assumption) | exact led_2 (by assumption) | exact bk_m (by assumption) (by first | assumption | omega) | exact bk_p (by assumption) (by first | assumption | omega) | exact bk_o (by assumption) (by first | assumption | omega) | exact bk_s (by assumption) (by first | assumption | omega) | exact bk_1 (by assumption) | exact bk_2 (by assumption) | exact bk_3 (by assumption) | exact bk_4 (by assumption) | exact bk_5 (by assumption) | exact bk_6 (by assumption) | exact bk_7 (by assumption) | exact bk_8 (by assumption) | exact sh_ring _ (by first | assumption | omega) | exact sh_imgs _ (by first | assumption | omega)) (ro_X12_17 (by assumption)) ?_
                refine v_iload_1 dX12_pass_141 ?_
                refine v_iload_3 dX12_pass_142 ?_
                refine v_iload_2 dX12_pass_143 ?_
                refine v_iload_6 dX12_pass_144 ?_
                refine v_iload_1 dX12_pass_146 ?_
                refine u_callS_7 dX12_pass_147 ml_X12_283 ms_X12_canLend (by decide) (Nat.le_of_ble_eq_true rfl) (c_X12_canLendM (F := F) (s := S 0) hr.1.1 hO rfl hS hK hm hp c3 (by omega) ?_)
                refine v_if_ne (tgt := 159) dX12_pass_150 (by decide) (fun hc150 => ?_) (fun hc150 => ?_)
                · (first | rw [bI_0, Bool.not_eq_false] at hc150 | rw [bI_0] at hc150 | rw [show (0 : Int32) = nI 0 from rfl, nI_eq (by omega) (by omega)] at hc150 | skip)
                  have hA := hc150
                  rw [aup_pass hK hi c1 c2 c3 (fun q => absurd q hc130)] at hA
                  have hk : k_pass F (S 0) (nI m) (nI d) (nI p) = 0 := by rw [hkf, if_neg (by omega), if_pos hA]
                  rw [Bool.and_eq_true] at hA
                  obtain ⟨hfit, hfp⟩ := hA
                  have hq4 : ok4 (m, p, d, ((S 0).2.1 i).2.2.2) := ⟨Nat.lt_of_lt_of_le hm o2, Nat.lt_of_lt_of_le hp o3, hd1, c3, v5⟩
                  have hq5 : okq F (m, p, d, ((S 0).2.1 i).2.2.2) := ⟨hq4, hm, hp, (hK.2.1 i hi).2.2.2.1, hfit⟩
                  have hfr := free_pass (p := p) hK hi c1 c2 c3 (fup_isNone hfp)
                  have hfin := hQ1 hk
                  rw [em, ed, ep, e] at hfin
                  refine v_aload_0 dX12_pass_159 ?_
                  refine u_getR dX12_pass_160 gf_X12_26 (by first | assumption | rfl | exact led_1 (by assumption) | exact led_2 (by assumption) | exact bk_m (by assumption) (by first | assumption | omega) | exact bk_p (by assumption) (by first | assumption | omega) | exact bk_o (by assumption) (by first | assumption | omega) | exact bk_s (by assumption) (by first | assumption | omega) | exact bk_1 (by assumption) | exact bk_2 (by assumption) | exact bk_3 (by assumption) | exact bk_4 (by assumption) | exact bk_5 (by assumption) | exact bk_6 (by assumption) | exact bk_7 (by assumption) | exact bk_8 (by assumption) | exact sh_ring _ (by first | assumption | omega) | exact sh_imgs _ (by first | assumption | omega)) (ro_X12_17 (by assumption)) ?_
                  refine v_iconst (v := nI 0) dX12_pass_163 (by decide) ?_
                  refine v_aload_0 dX12_pass_164 ?_
                  refine u_getR dX12_pass_165 gf_X12_32 (by first | assumption | rfl | exact led_1 (by assumption) | exact led_2 (by assumption) | exact bk_m (by assumption) (by first | assumption | omega) | exact bk_p (by assumption) (by first | assumption | omega) | exact bk_o (by assumption) (by first | assumption | omega) | exact bk_s (by assumption) (by first | assumption | omega) | exact bk_1 (by assumption) | exact bk_2 (by assumption) | exact bk_3 (by assumption) | exact bk_4 (by assumption) | exact bk_5 (by assumption) | exact bk_6 (by assumption) | exact bk_7 (by assumption) | exact bk_8 (by assumption) | exact sh_ring _ (by first | assumption | omega) | exact sh_imgs _ (by first | assumption | omega)) (ro_X12_19 (by assumption)) ?_
                  refine v_iconst (v := nI 0) dX12_pass_168 (by decide) ?_
                  refine v_bipush (v := nI 87) dX12_pass_169 (by decide) ?_
                  refine u_callS_5 dX12_pass_171 ml_X12_182 ms_X12_copy (by decide) (Nat.le_of_ble_eq_true rfl) (c_X12_copy (i0 := 0) (j0 := 0) (m := 87) rfl rfl (by decide) (by decide) (by decide) (by decide) (by decide) (fun J1 q1 q2 => ?_))
                  refine v_iload_5 dX12_pass_174 ?_
                  refine v_iload_2 dX12_pass_176 ?_
                  refine v_icmp_ne (tgt := 197) dX12_pass_177 (by decide) (fun hc177 => ?_) (fun hc177 => ?_)
                  · (try rw [nI_eq (by omega) (by omega)] at hc177)
                    have h19 : (endS (S 0) i d).1 < 20 := by unfold endS; rw [if_pos (by omega)]; show (S 0).1 < 20; omega
                    refine v_aload_0 dX12_pass_197 ?_
                    refine u_getR dX12_pass_198 gf_X12_26 (by first | assumption | rfl | exact led_1 (by assumption) | exact led_2 (by assumption) | exact bk_m (by assumption) (by first | assumption | omega) | exact bk_p (by assumption) (by first | assumption | omega) | exact bk_o (by assumption) (by first | assumption | omega) | exact bk_s (by assumption) (by first | assumption | omega) | exact bk_1 (by assumption) | exact bk_2 (by assumption) | exact bk_3 (by assumption) | exact bk_4 (by assumption) | exact bk_5 (by assumption) | exact bk_6 (by assumption) | exact bk_7 (by assumption) | exact bk_8 (by assumption) | exact sh_ring _ (by first | assumption | omega) | exact sh_imgs _ (by first | assumption | omega)) (ro_X12_17 (by assumption)) ?_
                    refine v_iconst (v := nI 1) dX12_pass_201 (by decide) ?_
                    refine v_iconst (v := nI 4) dX12_pass_202 (by decide) ?_
                    refine v_iload_4 dX12_pass_203 ?_
                    refine v_imul dX12_pass_205 ?_
                    refine v_iadd dX12_pass_206 ?_
                    refine v_iconst (v := nI 3) dX12_pass_207 (by decide) ?_
                    refine v_iadd dX12_pass_208 ?_
                    refine v_iload_2 dX12_pass_209 ?_
                    refine v_iconst (v := nI 1) dX12_pass_210 (by decide) ?_
                    refine v_isub dX12_pass_211 ?_
                    rw [pk_sub (by omega)]
                    refine u_iast dX12_pass_212 (by first | assumption | rfl | exact led_1 (by assumption) | exact led_2 (by assumption) | exact bk_m (by assumption) (by first | assumption | omega) | exact bk_p (by assumption) (by first | assumption | omega) | exact bk_o (by assumption) (by first | assumption | omega) | exact bk_s (by assumption) (by first | assumption | omega) | exact bk_1 (by assumption) | exact bk_2 (by assumption) | exact bk_3 (by assumption) | exact bk_4 (by assumption) | exact bk_5 (by assumption) | exact bk_6 (by assumption) | exact bk_7 (by assumption) | exact bk_8 (by assumption) | exact sh_ring _ (by first | assumption | omega) | exact sh_imgs _ (by first | assumption | omega)) (by first | with_reducible rfl | (simp only [nlit, nI_add, pk_mul]; with_reducible rfl) | rfl) (by first | assumption | omega) (by first | assumption | decide) ?_
                    refine v_aload_0 dX12_pass_213 ?_
                    refine u_getR dX12_pass_214 gf_X12_26 (by first | assumption | rfl | exact led_1 (by assumption) | exact led_2 (by assumption) | exact bk_m (by assumption) (by first | assumption | omega) | exact bk_p (by assumption) (by first | assumption | omega) | exact bk_o (by assumption) (by first | assumption | omega) | exact bk_s (by assumption) (by first | assumption | omega) | exact bk_1 (by assumption) | exact bk_2 (by assumption) | exact bk_3 (by assumption) | exact bk_4 (by assumption) | exact bk_5 (by assumption) | exact bk_6 (by assumption) | exact bk_7 (by assumption) | exact bk_8 (by assumption) | exact sh_ring _ (by first | assumption | omega) | exact sh_imgs _ (by first | assumption | omega)) (ro_X12_17 (by assumption)) ?_
                    refine v_iload_1 dX12_pass_217 ?_
                    refine v_iload_3 dX12_pass_218 ?_
                    refine v_iload_2 dX12_pass_219 ?_
                    refine v_iload_6 dX12_pass_220 ?_
                    refine u_callS_5 dX12_pass_222 ml_X12_287 ms_X12_putLending (by decide) (Nat.le_of_ble_eq_true rfl) (c_X12_putLending (F := F) (s := endS (S 0) i d) rfl (sti_end (hS.fr (q2 162 (by decide))) hi hn20 (by omega) rfl) hle h19 hq5 hfr (fun J2 q3 q4 => ?_))
                    refine v_aload_0 dX12_pass_225 ?_
                    refine u_callV_0 dX12_pass_226 ml_X12_426 mv_X12_did (by first | assumption | rfl | exact led_1 (by assumption) | exact led_2 (by assumption) | exact bk_m (by assumption) (by first | assumption | omega) | exact bk_p (by assumption) (by first | assumption | omega) | exact bk_o (by assumption) (by first | assumption | omega) | exact bk_s (by assumption) (by first | assumption | omega) | exact bk_1 (by assumption) | exact bk_2 (by assumption) | exact bk_3 (by assumption) | exact bk_4 (by assumption) | exact bk_5 (by assumption) | exact bk_6 (by assumption) | exact bk_7 (by assumption) | exact bk_8 (by assumption) | exact sh_ring _ (by first | assumption | omega) | exact sh_imgs _ (by first | assumption | omega)) (by decide) rfl (by decide) (Nat.le_of_ble_eq_true rfl) (c_X12_did (u := u) hR (by rw [q4 157 (by decide), ui_ne (by decide), q2 157 (by decide)]; exact h.2.2.2.1.1) (by have := h.2.2.2.1.2.2.1; omega) (fun J3 p1 p2 p3 p4 p5 => ?_))
                    refine v_zret dX12_pass_229 (by first | rfl | exact bI_n _) rfl rfl rfl rfl ?_
                    have hli := lok_ins hle h19 hq5 hfr
                    have hsN : StI J3 162 0 (insS (endS (S 0) i d) (m, p, d, ((S 0).2.1 i).2.2.2)) := q3.fr (p5 162 (by decide) (by decide))
                    exact hfin.fin (rf_step (W := fun k => J1 164 k) h (by omega) hl (fun k hk => by rw [p1 k hk, q4 165 (by decide), q4 164 (by decide)]; simp only [ui_ne (show (165:Nat) ≠ 162 by decide), ui_ne (show (164:Nat) ≠ 162 by decide), q2 165 (by decide)]) (fun k hk => by show J1 164 k = _; rw [q1 k, if_pos ⟨Nat.zero_le _, by omega⟩, Nat.zero_add, Nat.sub_zero]) (hsN) (hli) p2 p3 (by rw [p4 11 (by decide) (by decide), q4 157 (by decide), ui_ne (by decide), q2 157 (by decide), ui_s]) (fun j hj => by rw [p4 j (by omega) (by omega), q4 157 (by decide), ui_ne (by decide), q2 157 (by decide)]) (fun x hx => by rw [p5 x (by omega) (by omega), q4 x (by omega), ui_ne (by omega), q2 x (by omega)])) (fun x hx => by rw [p5 x (by omega) (by omega), q4 x (by omega), ui_ne (by omega), q2 x (by omega)]; simp only [ui_ne (show x ≠ 157 by omega)]) (fun _ _ => rfl) rfl rfl
                  · (try rw [nI_eq (by omega) (by omega)] at hc177)
                    have h19b : (endS (S 0) i d).1 < 20 := by unfold endS; rw [if_neg (by omega)]; show (S 0).1 - 1 < 20; omega
                    refine v_aload_0 dX12_pass_180 ?_
                    refine u_getR dX12_pass_181 gf_X12_26 (by first | assumption | rfl | exact led_1 (by assumption) | exact led_2 (by assumption) | exact bk_m (by assumption) (by first | assumption | omega) | exact bk_p (by assumption) (by first | assumption | omega) | exact bk_o (by assumption) (by first | assumption | omega) | exact bk_s (by assumption) (by first | assumption | omega) | exact bk_1 (by assumption) | exact bk_2 (by assumption) | exact bk_3 (by assumption) | exact bk_4 (by assumption) | exact bk_5 (by assumption) | exact bk_6 (by assumption) | exact bk_7 (by assumption) | exact bk_8 (by assumption) | exact sh_ring _ (by first | assumption | omega) | exact sh_imgs _ (by first | assumption | omega)) (ro_X12_17 (by assumption)) ?_
                    refine v_iconst (v := nI 1) dX12_pass_184 (by decide) ?_
                    refine v_iconst (v := nI 4) dX12_pass_185 (by decide) ?_
                    refine v_iload_4 dX12_pass_186 ?_
                    refine v_imul dX12_pass_188 ?_
                    refine v_iadd dX12_pass_189 ?_
                    refine v_iconst (v := nI 1) dX12_pass_190 (by decide) ?_
                    refine v_iadd dX12_pass_191 ?_
                    refine v_iload_3 dX12_pass_192 ?_
                    refine u_iast dX12_pass_193 (by first | assumption | rfl | exact led_1 (by assumption) | exact led_2 (by assumption) | exact bk_m (by assumption) (by first | assumption | omega) | exact bk_p (by assumption) (by first | assumption | omega) | exact bk_o (by assumption) (by first | assumption | omega) | exact bk_s (by assumption) (by first | assumption | omega) | exact bk_1 (by assumption) | exact bk_2 (by assumption) | exact bk_3 (by assumption) | exact bk_4 (by assumption) | exact bk_5 (by assumption) | exact bk_6 (by assumption) | exact bk_7 (by assumption) | exact bk_8 (by assumption) | exact sh_ring _ (by first | assumption | omega) | exact sh_imgs _ (by first | assumption | omega)) (by first | with_reducible rfl | (simp only [nlit, nI_add, pk_mul]; with_reducible rfl) | rfl) (by first | assumption | omega) (by first | assumption | decide) ?_
                    refine v_goto (tgt := 225) dX12_pass_194 (by decide) ?_
                    refine v_aload_0 dX12_pass_225 ?_
                    refine u_callV_0 dX12_pass_226 ml_X12_426 mv_X12_did (by first | assumption | rfl | exact led_1 (by assumption) | exact led_2 (by assumption) | exact bk_m (by assumption) (by first | assumption | omega) | exact bk_p (by assumption) (by first | assumption | omega) | exact bk_o (by assumption) (by first | assumption | omega) | exact bk_s (by assumption) (by first | assumption | omega) | exact bk_1 (by assumption) | exact bk_2 (by assumption) | exact bk_3 (by assumption) | exact bk_4 (by assumption) | exact bk_5 (by assumption) | exact bk_6 (by assumption) | exact bk_7 (by assumption) | exact bk_8 (by assumption) | exact sh_ring _ (by first | assumption | omega) | exact sh_imgs _ (by first | assumption | omega)) (by decide) rfl (by decide) (Nat.le_of_ble_eq_true rfl) (c_X12_did (u := u) hR (by rw [ui_ne (by decide), q2 157 (by decide)]; exact h.2.2.2.1.1) (by have := h.2.2.2.1.2.2.1; omega) (fun J3 p1 p2 p3 p4 p5 => ?_))
                    refine v_zret dX12_pass_229 (by first | rfl | exact bI_n _) rfl rfl rfl rfl ?_
                    have hli := lok_ins hle h19b hq5 hfr
                    have hsN : StI J3 162 0 (insS (endS (S 0) i d) (m, p, d, ((S 0).2.1 i).2.2.2)) := by
                      subst c1; subst hc177
                      exact sti_pass hK (hS.fr (q2 162 (by decide))) hi hn20 hq5 hle hfr (p5 162 (by decide) (by decide))
                    exact hfin.fin (rf_step (W := fun k => J1 164 k) h (by omega) hl (fun k hk => by rw [p1 k hk]; simp only [ui_ne (show (165:Nat) ≠ 162 by decide), ui_ne (show (164:Nat) ≠ 162 by decide), q2 165 (by decide)]) (fun k hk => by show J1 164 k = _; rw [q1 k, if_pos ⟨Nat.zero_le _, by omega⟩, Nat.zero_add, Nat.sub_zero]) (hsN) (hli) p2 p3 (by rw [p4 11 (by decide) (by decide), ui_ne (by decide), q2 157 (by decide), ui_s]) (fun j hj => by rw [p4 j (by omega) (by omega), ui_ne (by decide), q2 157 (by decide)]) (fun x hx => by rw [p5 x (by omega) (by omega), ui_ne (by omega), q2 x (by omega)])) (fun x hx => by rw [p5 x (by omega) (by omega), ui_ne (by omega), q2 x (by omega)]; simp only [ui_ne (show x ≠ 157 by omega)]) (fun _ _ => rfl) rfl rfl
                · (first | rw [bI_0, Bool.not_eq_false] at hc150 | rw [bI_0] at hc150 | rw [show (0 : Int32) = nI 0 from rfl, nI_eq (by omega) (by omega)] at hc150 | skip)
                  refine v_aload_0 dX12_pass_153 ?_
                  refine v_iconst (v := nI 5) dX12_pass_154 (by decide) ?_
                  refine u_callV_1 dX12_pass_155 ml_X12_423 mv_X12_isNot (by first | assumption | rfl | exact led_1 (by assumption) | exact led_2 (by assumption) | exact bk_m (by assumption) (by first | assumption | omega) | exact bk_p (by assumption) (by first | assumption | omega) | exact bk_o (by assumption) (by first | assumption | omega) | exact bk_s (by assumption) (by first | assumption | omega) | exact bk_1 (by assumption) | exact bk_2 (by assumption) | exact bk_3 (by assumption) | exact bk_4 (by assumption) | exact bk_5 (by assumption) | exact bk_6 (by assumption) | exact bk_7 (by assumption) | exact bk_8 (by assumption) | exact sh_ring _ (by first | assumption | omega) | exact sh_imgs _ (by first | assumption | omega)) (by decide) rfl (by decide) (Nat.le_of_ble_eq_true rfl) (c_X12_isNot (k := 5) ?_)
                  refine v_zret dX12_pass_158 (by first | rfl | exact bI_n _) rfl rfl rfl rfl ?_
                  have hk : k_pass F (S 0) (nI m) (nI d) (nI p) = 5 := by
                    rw [hkf, if_neg (by omega), if_neg]
                    first
                      | (rw [← aup_pass (F := F) hK hi c1 c2 c3 (fun q => absurd q hc130), hc150]; decide)
                      | (intro q; rw [Bool.and_eq_true] at q; have := fup_isNone q.2 i hi; simp only [hitp, ovl, Bool.and_eq_false_iff, decide_eq_false_iff_not] at this; omega)
                  exact (hQ0 (by rw [hk]; decide)).fin (rf_tr h (by decide)) (fun x hx => by simp only [ui_ne (show x ≠ 157 by omega)]) (fun _ _ => rfl) hk.symm rfl
            · (try rw [nI_eq (by omega) (by omega)] at hc101)
              refine v_iload_5 dX12_pass_104 ?_
              refine v_iload_2 dX12_pass_106 ?_
              refine v_icmp_ge (tgt := 116) dX12_pass_107 (by decide) (fun hc107 => ?_) (fun hc107 => ?_)
              · (try rw [nI_leI (by omega) (by omega)] at hc107)
                refine v_aload_0 dX12_pass_116 ?_
                refine u_getR dX12_pass_117 gf_X12_26 (by first | assumption | rfl | exact led_1 (by assumption) | exact led_2 (by assumption) | exact bk_m (by assumption) (by first | assumption | omega) | exact bk_p (by assumption) (by first | assumption | omega) | exact bk_o (by assumption) (by first | assumption | omega) | exact bk_s (by assumption) (by first | assumption | omega) | exact bk_1 (by assumption) | exact bk_2 (by assumption) | exact bk_3 (by assumption) | exact bk_4 (by assumption) | exact bk_5 (by assumption) | exact bk_6 (by assumption) | exact bk_7 (by assumption) | exact bk_8 (by assumption) | exact sh_ring _ (by first | assumption | omega) | exact sh_imgs _ (by first | assumption | omega)) (ro_X12_17 (by assumption)) ?_
                refine v_iconst (v := nI 1) dX12_pass_120 (by decide) ?_
                refine v_iconst (v := nI 4) dX12_pass_121 (by decide) ?_
                refine v_iload_4 dX12_pass_122 ?_
                refine v_imul dX12_pass_124 ?_
                refine v_iadd dX12_pass_125 ?_
                refine v_iconst (v := nI 1) dX12_pass_126 (by decide) ?_
                refine v_iadd dX12_pass_127 ?_
                refine u_iald dX12_pass_128 (by first | assumption | rfl | exact led_1 (by assumption) | exact led_2 (by assumption) | exact bk_m (by assumption) (by first | assumption | omega) | exact bk_p (by assumption) (by first | assumption | omega) | exact bk_o (by assumption) (by first | assumption | omega) | exact bk_s (by assumption) (by first | assumption | omega) | exact bk_1 (by assumption) | exact bk_2 (by assumption) | exact bk_3 (by assumption) | exact bk_4 (by assumption) | exact bk_5 (by assumption) | exact bk_6 (by assumption) | exact bk_7 (by assumption) | exact bk_8 (by assumption) | exact sh_ring _ (by first | assumption | omega) | exact sh_imgs _ (by first | assumption | omega)) (by first | with_reducible rfl | (simp only [nlit, nI_add, pk_mul]; with_reducible rfl) | rfl) (by first | assumption | omega) (by first | assumption | decide) ?_
                rw [hS.p hi (by omega)]
                refine v_iload_3 dX12_pass_129 ?_
                refine v_icmp_eq (tgt := 153) dX12_pass_130 (by decide) (fun hc130 => ?_) (fun hc130 => ?_)
                · (try rw [nI_eq (by omega) (by omega)] at hc130)
                  refine v_aload_0 dX12_pass_153 ?_
                  refine v_iconst (v := nI 5) dX12_pass_154 (by decide) ?_
                  refine u_callV_1 dX12_pass_155 ml_X12_423 mv_X12_isNot (by first | assumption | rfl | exact led_1 (by assumption) | exact led_2 (by assumption) | exact bk_m (by assumption) (by first | assumption | omega) | exact bk_p (by assumption) (by first | assumption | omega) | exact bk_o (by assumption) (by first | assumption | omega) | exact bk_s (by assumption) (by first | assumption | omega) | exact bk_1 (by assumption) | exact bk_2 (by assumption) | exact bk_3 (by assumption) | exact bk_4 (by assumption) | exact bk_5 (by assumption) | exact bk_6 (by assumption) | exact bk_7 (by assumption) | exact bk_8 (by assumption) | exact sh_ring _ (by first | assumption | omega) | exact sh_imgs _ (by first | assumption | omega)) (by decide) rfl (by decide) (Nat.le_of_ble_eq_true rfl) (c_X12_isNot (k := 5) ?_)
                  refine v_zret dX12_pass_158 (by first | rfl | exact bI_n _) rfl rfl rfl rfl ?_
                  have hk : k_pass F (S 0) (nI m) (nI d) (nI p) = 5 := by
                    rw [hkf, if_neg (by omega), if_neg]
                    first
                      | (rw [← aup_pass (F := F) hK hi c1 c2 c3 (fun q => absurd q hc130), hc150]; decide)
                      | (intro q; rw [Bool.and_eq_true] at q; have := fup_isNone q.2 i hi; simp only [hitp, ovl, Bool.and_eq_false_iff, decide_eq_false_iff_not] at this; omega)
                  exact (hQ0 (by rw [hk]; decide)).fin (rf_tr h (by decide)) (fun x hx => by simp only [ui_ne (show x ≠ 157 by omega)]) (fun _ _ => rfl) hk.symm rfl
                · (try rw [nI_eq (by omega) (by omega)] at hc130)
                  refine v_aload_0 dX12_pass_133 ?_
                  refine u_getR dX12_pass_134 gf_X12_20 (by first | assumption | rfl | exact led_1 (by assumption) | exact led_2 (by assumption) | exact bk_m (by assumption) (by first | assumption | omega) | exact bk_p (by assumption) (by first | assumption | omega) | exact bk_o (by assumption) (by first | assumption | omega) | exact bk_s (by assumption) (by first | assumption | omega) | exact bk_1 (by assumption) | exact bk_2 (by assumption) | exact bk_3 (by assumption) | exact bk_4 (by assumption) | exact bk_5 (by assumption) | exact bk_6 (by assumption) | exact bk_7 (by assumption) | exact bk_8 (by assumption) | exact sh_ring _ (by first | assumption | omega) | exact sh_imgs _ (by first | assumption | omega)) (ro_X12_15 (by assumption)) ?_
                  refine v_aload_0 dX12_pass_137 ?_
                  refine u_getR dX12_pass_138 gf_X12_26 (by first | assumption | rfl | exact led_1 (by assumption) | exact led_2 (by assumption) | exact bk_m (by assumption) (by first | assumption | omega) | exact bk_p (by assumption) (by first | assumption | omega) | exact bk_o (by assumption) (by first | assumption | omega) | exact bk_s (by assumption) (by first | assumption | omega) | exact bk_1 (by assumption) | exact bk_2 (by assumption) | exact bk_3 (by assumption) | exact bk_4 (by assumption) | exact bk_5 (by assumption) | exact bk_6 (by assumption) | exact bk_7 (by assumption) | exact bk_8 (by assumption) | exact sh_ring _ (by first | assumption | omega) | exact sh_imgs _ (by first | assumption | omega)) (ro_X12_17 (by assumption)) ?_
                  refine v_iload_1 dX12_pass_141 ?_
                  refine v_iload_3 dX12_pass_142 ?_
                  refine v_iload_2 dX12_pass_143 ?_
                  refine v_iload_6 dX12_pass_144 ?_
                  refine v_iload_1 dX12_pass_146 ?_
                  refine u_callS_7 dX12_pass_147 ml_X12_283 ms_X12_canLend (by decide) (Nat.le_of_ble_eq_true rfl) (c_X12_canLendM (F := F) (s := S 0) hr.1.1 hO rfl hS hK hm hp c3 (by omega) ?_)
                  refine v_if_ne (tgt := 159) dX12_pass_150 (by decide) (fun hc150 => ?_) (fun hc150 => ?_)
                  · (first | rw [bI_0, Bool.not_eq_false] at hc150 | rw [bI_0] at hc150 | rw [show (0 : Int32) = nI 0 from rfl, nI_eq (by omega) (by omega)] at hc150 | skip)
                    have hA := hc150
                    rw [aup_pass hK hi c1 c2 c3 (fun q => absurd q hc130)] at hA
                    have hk : k_pass F (S 0) (nI m) (nI d) (nI p) = 0 := by rw [hkf, if_neg (by omega), if_pos hA]
                    rw [Bool.and_eq_true] at hA
                    obtain ⟨hfit, hfp⟩ := hA
                    have hq4 : ok4 (m, p, d, ((S 0).2.1 i).2.2.2) := ⟨Nat.lt_of_lt_of_le hm o2, Nat.lt_of_lt_of_le hp o3, hd1, c3, v5⟩
                    have hq5 : okq F (m, p, d, ((S 0).2.1 i).2.2.2) := ⟨hq4, hm, hp, (hK.2.1 i hi).2.2.2.1, hfit⟩
                    have hfr := free_pass (p := p) hK hi c1 c2 c3 (fup_isNone hfp)
                    have hfin := hQ1 hk
                    rw [em, ed, ep, e] at hfin
                    refine v_aload_0 dX12_pass_159 ?_
                    refine u_getR dX12_pass_160 gf_X12_26 (by first | assumption | rfl | exact led_1 (by assumption) | exact led_2 (by assumption) | exact bk_m (by assumption) (by first | assumption | omega) | exact bk_p (by assumption) (by first | assumption | omega) | exact bk_o (by assumption) (by first | assumption | omega) | exact bk_s (by assumption) (by first | assumption | omega) | exact bk_1 (by assumption) | exact bk_2 (by assumption) | exact bk_3 (by assumption) | exact bk_4 (by assumption) | exact bk_5 (by assumption) | exact bk_6 (by assumption) | exact bk_7 (by assumption) | exact bk_8 (by assumption) | exact sh_ring _ (by first | assumption | omega) | exact sh_imgs _ (by first | assumption | omega)) (ro_X12_17 (by assumption)) ?_
                    refine v_iconst (v := nI 0) dX12_pass_163 (by decide) ?_
                    refine v_aload_0 dX12_pass_164 ?_
                    refine u_getR dX12_pass_165 gf_X12_32 (by first | assumption | rfl | exact led_1 (by assumption) | exact led_2 (by assumption) | exact bk_m (by assumption) (by first | assumption | omega) | exact bk_p (by assumption) (by first | assumption | omega) | exact bk_o (by assumption) (by first | assumption | omega) | exact bk_s (by assumption) (by first | assumption | omega) | exact bk_1 (by assumption) | exact bk_2 (by assumption) | exact bk_3 (by assumption) | exact bk_4 (by assumption) | exact bk_5 (by assumption) | exact bk_6 (by assumption) | exact bk_7 (by assumption) | exact bk_8 (by assumption) | exact sh_ring _ (by first | assumption | omega) | exact sh_imgs _ (by first | assumption | omega)) (ro_X12_19 (by assumption)) ?_
                    refine v_iconst (v := nI 0) dX12_pass_168 (by decide) ?_
                    refine v_bipush (v := nI 87) dX12_pass_169 (by decide) ?_
                    refine u_callS_5 dX12_pass_171 ml_X12_182 ms_X12_copy (by decide) (Nat.le_of_ble_eq_true rfl) (c_X12_copy (i0 := 0) (j0 := 0) (m := 87) rfl rfl (by decide) (by decide) (by decide) (by decide) (by decide) (fun J1 q1 q2 => ?_))
                    refine v_iload_5 dX12_pass_174 ?_
                    refine v_iload_2 dX12_pass_176 ?_
                    refine v_icmp_ne (tgt := 197) dX12_pass_177 (by decide) (fun hc177 => ?_) (fun hc177 => ?_)
                    · (try rw [nI_eq (by omega) (by omega)] at hc177)
                      have h19 : (endS (S 0) i d).1 < 20 := by unfold endS; rw [if_pos (by omega)]; show (S 0).1 < 20; omega
                      refine v_aload_0 dX12_pass_197 ?_
                      refine u_getR dX12_pass_198 gf_X12_26 (by first | assumption | rfl | exact led_1 (by assumption) | exact led_2 (by assumption) | exact bk_m (by assumption) (by first | assumption | omega) | exact bk_p (by assumption) (by first | assumption | omega) | exact bk_o (by assumption) (by first | assumption | omega) | exact bk_s (by assumption) (by first | assumption | omega) | exact bk_1 (by assumption) | exact bk_2 (by assumption) | exact bk_3 (by assumption) | exact bk_4 (by assumption) | exact bk_5 (by assumption) | exact bk_6 (by assumption) | exact bk_7 (by assumption) | exact bk_8 (by assumption) | exact sh_ring _ (by first | assumption | omega) | exact sh_imgs _ (by first | assumption | omega)) (ro_X12_17 (by assumption)) ?_
                      refine v_iconst (v := nI 1) dX12_pass_201 (by decide) ?_
                      refine v_iconst (v := nI 4) dX12_pass_202 (by decide) ?_
                      refine v_iload_4 dX12_pass_203 ?_
                      refine v_imul dX12_pass_205 ?_
                      refine v_iadd dX12_pass_206 ?_
                      refine v_iconst (v := nI 3) dX12_pass_207 (by decide) ?_
                      refine v_iadd dX12_pass_208 ?_
                      refine v_iload_2 dX12_pass_209 ?_
                      refine v_iconst (v := nI 1) dX12_pass_210 (by decide) ?_
                      refine v_isub dX12_pass_211 ?_
                      rw [pk_sub (by omega)]
                      refine u_iast dX12_pass_212 (by first | assumption | rfl | exact led_1 (by assumption) | exact led_2 (by assumption) | exact bk_m (by assumption) (by first | assumption | omega) | exact bk_p (by assumption) (by first | assumption | omega) | exact bk_o (by assumption) (by first | assumption | omega) | exact bk_s (by assumption) (by first | assumption | omega) | exact bk_1 (by assumption) | exact bk_2 (by assumption) | exact bk_3 (by assumption) | exact bk_4 (by assumption) | exact bk_5 (by assumption) | exact bk_6 (by assumption) | exact bk_7 (by assumption) | exact bk_8 (by assumption) | exact sh_ring _ (by first | assumption | omega) | exact sh_imgs _ (by first | assumption | omega)) (by first | with_reducible rfl | (simp only [nlit, nI_add, pk_mul]; with_reducible rfl) | rfl) (by first | assumption | omega) (by first | assumption | decide) ?_
                      refine v_aload_0 dX12_pass_213 ?_
                      refine u_getR dX12_pass_214 gf_X12_26 (by first | assumption | rfl | exact led_1 (by assumption) | exact led_2 (by assumption) | exact bk_m (by assumption) (by first | assumption | omega) | exact bk_p (by assumption) (by first | assumption | omega) | exact bk_o (by assumption) (by first | assumption | omega) | exact bk_s (by assumption) (by first | assumption | omega) | exact bk_1 (by assumption) | exact bk_2 (by assumption) | exact bk_3 (by assumption) | exact bk_4 (by assumption) | exact bk_5 (by assumption) | exact bk_6 (by assumption) | exact bk_7 (by assumption) | exact bk_8 (by assumption) | exact sh_ring _ (by first | assumption | omega) | exact sh_imgs _ (by first | assumption | omega)) (ro_X12_17 (by assumption)) ?_
                      refine v_iload_1 dX12_pass_217 ?_
                      refine v_iload_3 dX12_pass_218 ?_
                      refine v_iload_2 dX12_pass_219 ?_
                      refine v_iload_6 dX12_pass_220 ?_
                      refine u_callS_5 dX12_pass_222 ml_X12_287 ms_X12_putLending (by decide) (Nat.le_of_ble_eq_true rfl) (c_X12_putLending (F := F) (s := endS (S 0) i d) rfl (sti_end (hS.fr (q2 162 (by decide))) hi hn20 (by omega) rfl) hle h19 hq5 hfr (fun J2 q3 q4 => ?_))
                      refine v_aload_0 dX12_pass_225 ?_
                      refine u_callV_0 dX12_pass_226 ml_X12_426 mv_X12_did (by first | assumption | rfl | exact led_1 (by assumption) | exact led_2 (by assumption) | exact bk_m (by assumption) (by first | assumption | omega) | exact bk_p (by assumption) (by first | assumption | omega) | exact bk_o (by assumption) (by first | assumption | omega) | exact bk_s (by assumption) (by first | assumption | omega) | exact bk_1 (by assumption) | exact bk_2 (by assumption) | exact bk_3 (by assumption) | exact bk_4 (by assumption) | exact bk_5 (by assumption) | exact bk_6 (by assumption) | exact bk_7 (by assumption) | exact bk_8 (by assumption) | exact sh_ring _ (by first | assumption | omega) | exact sh_imgs _ (by first | assumption | omega)) (by decide) rfl (by decide) (Nat.le_of_ble_eq_true rfl) (c_X12_did (u := u) hR (by rw [q4 157 (by decide), ui_ne (by decide), q2 157 (by decide)]; exact h.2.2.2.1.1) (by have := h.2.2.2.1.2.2.1; omega) (fun J3 p1 p2 p3 p4 p5 => ?_))
                      refine v_zret dX12_pass_229 (by first | rfl | exact bI_n _) rfl rfl rfl rfl ?_
                      have hli := lok_ins hle h19 hq5 hfr
                      have hsN : StI J3 162 0 (insS (endS (S 0) i d) (m, p, d, ((S 0).2.1 i).2.2.2)) := q3.fr (p5 162 (by decide) (by decide))
                      exact hfin.fin (rf_step (W := fun k => J1 164 k) h (by omega) hl (fun k hk => by rw [p1 k hk, q4 165 (by decide), q4 164 (by decide)]; simp only [ui_ne (show (165:Nat) ≠ 162 by decide), ui_ne (show (164:Nat) ≠ 162 by decide), q2 165 (by decide)]) (fun k hk => by show J1 164 k = _; rw [q1 k, if_pos ⟨Nat.zero_le _, by omega⟩, Nat.zero_add, Nat.sub_zero]) (hsN) (hli) p2 p3 (by rw [p4 11 (by decide) (by decide), q4 157 (by decide), ui_ne (by decide), q2 157 (by decide), ui_s]) (fun j hj => by rw [p4 j (by omega) (by omega), q4 157 (by decide), ui_ne (by decide), q2 157 (by decide)]) (fun x hx => by rw [p5 x (by omega) (by omega), q4 x (by omega), ui_ne (by omega), q2 x (by omega)])) (fun x hx => by rw [p5 x (by omega) (by omega), q4 x (by omega), ui_ne (by omega), q2 x (by omega)]; simp only [ui_ne (show x ≠ 157 by omega)]) (fun _ _ => rfl) rfl rfl
                    · (try rw [nI_eq (by omega) (by omega)] at hc177)
                      have h19b : (endS (S 0) i d).1 < 20 := by unfold endS; rw [if_neg (by omega)]; show (S 0).1 - 1 < 20; omega
                      refine v_aload_0 dX12_pass_180 ?_
                      refine u_getR dX12_pass_181 gf_X12_26 (by first | assumption | rfl | exact led_1 (by assumption) | exact led_2 (by assumption) | exact bk_m (by assumption) (by first | assumption | omega) | exact bk_p (by assumption) (by first | assumption | omega) | exact bk_o (by assumption) (by first | assumption | omega) | exact bk_s (by assumption) (by first | assumption | omega) | exact bk_1 (by assumption) | exact bk_2 (by assumption) | exact bk_3 (by assumption) | exact bk_4 (by assumption) | exact bk_5 (by assumption) | exact bk_6 (by assumption) | exact bk_7 (by assumption) | exact bk_8 (by assumption) | exact sh_ring _ (by first | assumption | omega) | exact sh_imgs _ (by first | assumption | omega)) (ro_X12_17 (by assumption)) ?_
                      refine v_iconst (v := nI 1) dX12_pass_184 (by decide) ?_
                      refine v_iconst (v := nI 4) dX12_pass_185 (by decide) ?_
                      refine v_iload_4 dX12_pass_186 ?_
                      refine v_imul dX12_pass_188 ?_
                      refine v_iadd dX12_pass_189 ?_
                      refine v_iconst (v := nI 1) dX12_pass_190 (by decide) ?_
                      refine v_iadd dX12_pass_191 ?_
                      refine v_iload_3 dX12_pass_192 ?_
                      refine u_iast dX12_pass_193 (by first | assumption | rfl | exact led_1 (by assumption) | exact led_2 (by assumption) | exact bk_m (by assumption) (by first | assumption | omega) | exact bk_p (by assumption) (by first | assumption | omega) | exact bk_o (by assumption) (by first | assumption | omega) | exact bk_s (by assumption) (by first | assumption | omega) | exact bk_1 (by assumption) | exact bk_2 (by assumption) | exact bk_3 (by assumption) | exact bk_4 (by assumption) | exact bk_5 (by assumption) | exact bk_6 (by assumption) | exact bk_7 (by assumption) | exact bk_8 (by assumption) | exact sh_ring _ (by first | assumption | omega) | exact sh_imgs _ (by first | assumption | omega)) (by first | with_reducible rfl | (simp only [nlit, nI_add, pk_mul]; with_reducible rfl) | rfl) (by first | assumption | omega) (by first | assumption | decide) ?_
                      refine v_goto (tgt := 225) dX12_pass_194 (by decide) ?_
                      refine v_aload_0 dX12_pass_225 ?_
                      refine u_callV_0 dX12_pass_226 ml_X12_426 mv_X12_did (by first | assumption | rfl | exact led_1 (by assumption) | exact led_2 (by assumption) | exact bk_m (by assumption) (by first | assumption | omega) | exact bk_p (by assumption) (by first | assumption | omega) | exact bk_o (by assumption) (by first | assumption | omega) | exact bk_s (by assumption) (by first | assumption | omega) | exact bk_1 (by assumption) | exact bk_2 (by assumption) | exact bk_3 (by assumption) | exact bk_4 (by assumption) | exact bk_5 (by assumption) | exact bk_6 (by assumption) | exact bk_7 (by assumption) | exact bk_8 (by assumption) | exact sh_ring _ (by first | assumption | omega) | exact sh_imgs _ (by first | assumption | omega)) (by decide) rfl (by decide) (Nat.le_of_ble_eq_true rfl) (c_X12_did (u := u) hR (by rw [ui_ne (by decide), q2 157 (by decide)]; exact h.2.2.2.1.1) (by have := h.2.2.2.1.2.2.1; omega) (fun J3 p1 p2 p3 p4 p5 => ?_))
                      refine v_zret dX12_pass_229 (by first | rfl | exact bI_n _) rfl rfl rfl rfl ?_
                      have hli := lok_ins hle h19b hq5 hfr
                      have hsN : StI J3 162 0 (insS (endS (S 0) i d) (m, p, d, ((S 0).2.1 i).2.2.2)) := by
                        subst c1; subst hc177
                        exact sti_pass hK (hS.fr (q2 162 (by decide))) hi hn20 hq5 hle hfr (p5 162 (by decide) (by decide))
                      exact hfin.fin (rf_step (W := fun k => J1 164 k) h (by omega) hl (fun k hk => by rw [p1 k hk]; simp only [ui_ne (show (165:Nat) ≠ 162 by decide), ui_ne (show (164:Nat) ≠ 162 by decide), q2 165 (by decide)]) (fun k hk => by show J1 164 k = _; rw [q1 k, if_pos ⟨Nat.zero_le _, by omega⟩, Nat.zero_add, Nat.sub_zero]) (hsN) (hli) p2 p3 (by rw [p4 11 (by decide) (by decide), ui_ne (by decide), q2 157 (by decide), ui_s]) (fun j hj => by rw [p4 j (by omega) (by omega), ui_ne (by decide), q2 157 (by decide)]) (fun x hx => by rw [p5 x (by omega) (by omega), ui_ne (by omega), q2 x (by omega)])) (fun x hx => by rw [p5 x (by omega) (by omega), ui_ne (by omega), q2 x (by omega)]; simp only [ui_ne (show x ≠ 157 by omega)]) (fun _ _ => rfl) rfl rfl
                  · (first | rw [bI_0, Bool.not_eq_false] at hc150 | rw [bI_0] at hc150 | rw [show (0 : Int32) = nI 0 from rfl, nI_eq (by omega) (by omega)] at hc150 | skip)
                    refine v_aload_0 dX12_pass_153 ?_
                    refine v_iconst (v := nI 5) dX12_pass_154 (by decide) ?_
                    refine u_callV_1 dX12_pass_155 ml_X12_423 mv_X12_isNot (by first | assumption | rfl | exact led_1 (by assumption) | exact led_2 (by assumption) | exact bk_m (by assumption) (by first | assumption | omega) | exact bk_p (by assumption) (by first | assumption | omega) | exact bk_o (by assumption) (by first | assumption | omega) | exact bk_s (by assumption) (by first | assumption | omega) | exact bk_1 (by assumption) | exact bk_2 (by assumption) | exact bk_3 (by assumption) | exact bk_4 (by assumption) | exact bk_5 (by assumption) | exact bk_6 (by assumption) | exact bk_7 (by assumption) | exact bk_8 (by assumption) | exact sh_ring _ (by first | assumption | omega) | exact sh_imgs _ (by first | assumption | omega)) (by decide) rfl (by decide) (Nat.le_of_ble_eq_true rfl) (c_X12_isNot (k := 5) ?_)
                    refine v_zret dX12_pass_158 (by first | rfl | exact bI_n _) rfl rfl rfl rfl ?_
                    have hk : k_pass F (S 0) (nI m) (nI d) (nI p) = 5 := by
                      rw [hkf, if_neg (by omega), if_neg]
                      first
                        | (rw [← aup_pass (F := F) hK hi c1 c2 c3 (fun q => absurd q hc130), hc150]; decide)
                        | (intro q; rw [Bool.and_eq_true] at q; have := fup_isNone q.2 i hi; simp only [hitp, ovl, Bool.and_eq_false_iff, decide_eq_false_iff_not] at this; omega)
                    exact (hQ0 (by rw [hk]; decide)).fin (rf_tr h (by decide)) (fun x hx => by simp only [ui_ne (show x ≠ 157 by omega)]) (fun _ _ => rfl) hk.symm rfl
              · (try rw [nI_leI (by omega) (by omega)] at hc107)
                refine v_aload_0 dX12_pass_110 ?_
                refine v_iconst (v := nI 3) dX12_pass_111 (by decide) ?_
                refine u_callV_1 dX12_pass_112 ml_X12_423 mv_X12_isNot (by first | assumption | rfl | exact led_1 (by assumption) | exact led_2 (by assumption) | exact bk_m (by assumption) (by first | assumption | omega) | exact bk_p (by assumption) (by first | assumption | omega) | exact bk_o (by assumption) (by first | assumption | omega) | exact bk_s (by assumption) (by first | assumption | omega) | exact bk_1 (by assumption) | exact bk_2 (by assumption) | exact bk_3 (by assumption) | exact bk_4 (by assumption) | exact bk_5 (by assumption) | exact bk_6 (by assumption) | exact bk_7 (by assumption) | exact bk_8 (by assumption) | exact sh_ring _ (by first | assumption | omega) | exact sh_imgs _ (by first | assumption | omega)) (by decide) rfl (by decide) (Nat.le_of_ble_eq_true rfl) (c_X12_isNot (k := 3) ?_)
                refine v_zret dX12_pass_115 (by first | rfl | exact bI_n _) rfl rfl rfl rfl ?_
                have hk : k_pass F (S 0) (nI m) (nI d) (nI p) = 3 := by rw [hkf, if_pos (by omega)]
                exact (hQ0 (by rw [hk]; decide)).fin (rf_tr h (by decide)) (fun x hx => by simp only [ui_ne (show x ≠ 157 by omega)]) (fun _ _ => rfl) hk.symm rfl
          · exact absurd (nI_pos2 (by omega)) hc53
      · (first | rw [bI_0, Bool.not_eq_false] at hc31 | rw [bI_0] at hc31 | rw [show (0 : Int32) = nI 0 from rfl, nI_eq (by omega) (by omega)] at hc31 | skip)
        refine v_aload_0 dX12_pass_34 ?_
        refine v_iconst (v := nI 2) dX12_pass_35 (by decide) ?_
        refine u_callV_1 dX12_pass_36 ml_X12_423 mv_X12_isNot (by first | assumption | rfl | exact led_1 (by assumption) | exact led_2 (by assumption) | exact bk_m (by assumption) (by first | assumption | omega) | exact bk_p (by assumption) (by first | assumption | omega) | exact bk_o (by assumption) (by first | assumption | omega) | exact bk_s (by assumption) (by first | assumption | omega) | exact bk_1 (by assumption) | exact bk_2 (by assumption) | exact bk_3 (by assumption) | exact bk_4 (by assumption) | exact bk_5 (by assumption) | exact bk_6 (by assumption) | exact bk_7 (by assumption) | exact bk_8 (by assumption) | exact sh_ring _ (by first | assumption | omega) | exact sh_imgs _ (by first | assumption | omega)) (by decide) rfl (by decide) (Nat.le_of_ble_eq_true rfl) (c_X12_isNot (k := 2) ?_)
        refine v_zret dX12_pass_39 (by first | rfl | exact bI_n _) rfl rfl rfl rfl ?_
        have hk : k_pass F (S 0) x y z = 2 := by simp [k_pass, trc, hc9, hc17, hc31]
        exact (hQ0 (by rw [hk]; decide)).fin (rf_tr h (by decide)) (fun x hx => by simp only [ui_ne (show x ≠ 157 by omega)]) (fun _ _ => rfl) hk.symm rfl
    · (first | rw [bI_0, Bool.not_eq_false] at hc17 | rw [bI_0] at hc17 | rw [show (0 : Int32) = nI 0 from rfl, nI_eq (by omega) (by omega)] at hc17 | skip)
      refine v_aload_0 dX12_pass_20 ?_
      refine v_iconst (v := nI 1) dX12_pass_21 (by decide) ?_
      refine u_callV_1 dX12_pass_22 ml_X12_423 mv_X12_isNot (by first | assumption | rfl | exact led_1 (by assumption) | exact led_2 (by assumption) | exact bk_m (by assumption) (by first | assumption | omega) | exact bk_p (by assumption) (by first | assumption | omega) | exact bk_o (by assumption) (by first | assumption | omega) | exact bk_s (by assumption) (by first | assumption | omega) | exact bk_1 (by assumption) | exact bk_2 (by assumption) | exact bk_3 (by assumption) | exact bk_4 (by assumption) | exact bk_5 (by assumption) | exact bk_6 (by assumption) | exact bk_7 (by assumption) | exact bk_8 (by assumption) | exact sh_ring _ (by first | assumption | omega) | exact sh_imgs _ (by first | assumption | omega)) (by decide) rfl (by decide) (Nat.le_of_ble_eq_true rfl) (c_X12_isNot (k := 1) ?_)
      refine v_zret dX12_pass_25 (by first | rfl | exact bI_n _) rfl rfl rfl rfl ?_
      have hk : k_pass F (S 0) x y z = 1 := by first | simp [k_pass, trc, hc9, hc17] | simp [k_pass, trc, hc9]
      exact (hQ0 (by rw [hk]; decide)).fin (rf_tr h (by decide)) (fun x hx => by simp only [ui_ne (show x ≠ 157 by omega)]) (fun _ _ => rfl) hk.symm rfl
end
