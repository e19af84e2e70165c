/-- acts of the reference, further -/
theorem sti_end {I J : HI} {s : LSt} {i d : Nat} (h : StI I 162 0 s) (hi : i < s.1) (hn : s.1 ≤ 20) (hd : (s.2.1 i).2.2.1 < d) (hJ : J 162 = ui I 162 (1 + 4 * i + 3) (nI (d - 1)) 162) : StI J 162 0 (endS s i d) := by
  refine StI.fr (I := ui I 162 (1 + 4 * i + 3) (nI (d - 1))) ?_ hJ
  unfold endS
  rw [if_pos hd]
  refine ⟨by rw [ui_o (by omega)]; exact h.1, fun j hj => ?_, fun p hp => by rw [ui_o (by omega)]; exact h.2.2 p hp⟩
  have hj : j < s.1 := hj
  have := h.2.1 j hj
  show _ = nI (setg _ _ _ j).1 ∧ _ = nI (setg _ _ _ j).2.1 ∧ _ = nI (setg _ _ _ j).2.2.1 ∧ _ = nI (setg _ _ _ j).2.2.2
  unfold setg
  by_cases e : j = i
  · subst e
    rw [if_pos rfl, ui_o (by omega), ui_o (by omega), ui_o (by omega), show 0 + 4 + 4 * j = 1 + 4 * j + 3 by omega, ui_s]
    exact ⟨this.1, this.2.1, this.2.2.1, rfl⟩
  · rw [if_neg e, ui_o (by omega), ui_o (by omega), ui_o (by omega), ui_o (by omega)]; exact this
section
variable {b : Nat} {ad : Nat → Nat} {I J : HI} {L M : HL} {R : HR} {Q : QT} {tp : Nat → Nat} {nt tr fa pl : Nat} {F : bkF} {S : Nat → LSt} {u r : Nat} {im : Nat → LSt} {ic : Nat}
theorem r_give {x : Int32} {y : Int32} (hR : RO R) (h : RefB I tp nt tr fa pl F S u r im ic) (hl : ∀ k, live u r k → LOK F (S k)) (hQ0 : k_give F (S 0) x y ≠ 0 → YQ I L R tp nt (k_give F (S 0) x y) fa pl F S u r im ic 0 Q) (hQ1 : k_give F (S 0) x y = 0 → YQ I L R tp nt 0 fa pl F (stepS S (n_give (S 0) (tN x) (tN y))) (upU u) 0 im ic 1 Q) : KK 8 mX12_give b ad [.ref (b + 157), .int x, .int y] I L R Q := by
  have hO := h.2.2.1.1.2.2.1
  have o0 := hO.1
  have o1 := hO.2.1
  have o2 := hO.2.2.1
  have o3 := hO.2.2.2.1
  have o4 := hO.2.2.2.2.1
  have o5 := hO.2.2.2.2.2.1
  have o6 := hO.2.2.2.2.2.2.1
  have hK := h.2.2.1.2.2
  have hn20 := hK.1
  have hok : ∀ i, i < (S 0).1 → ok4 ((S 0).2.1 i) := fun i hi => (hK.2.1 i hi).1
  refine K.of (M := mX12_give) (lv := [some (.ref (b + 157)), some (.int x), some (.int y), none]) (by decide) (Nat.le_of_ble_eq_true rfl) rfl ?_
  refine v_aload_0 dX12_give_0 ?_
  refine u_callV_0 dX12_give_1 ml_X12_173 mv_X12_good (by first | assumption | rfl | exact led_1 (by assumption) | exact led_2 (by assumption) | exact bk_m (by assumption) (by first | assumption | omega) | exact bk_p (by assumption) (by first | assumption | omega) | exact bk_o (by assumption) (by first | assumption | omega) | exact bk_s (by assumption) (by first | assumption | omega) | exact bk_1 (by assumption) | exact bk_2 (by assumption) | exact bk_3 (by assumption) | exact bk_4 (by assumption) | exact bk_5 (by assumption) | exact bk_6 (by assumption) | exact bk_7 (by assumption) | exact bk_8 (by assumption) | exact sh_ring _ (by first | assumption | omega) | exact sh_imgs _ (by first | assumption | omega)) (by decide) rfl (by decide) (Nat.le_of_ble_eq_true rfl) (c_X12_good ?_)
  have h := rf_good h
  have hr : RfI _ F (S 0) := h.2.2.1
  have hS := hr.2.1
  refine v_aload_0 dX12_give_4 ?_
  refine v_iload_1 dX12_give_5 ?_
  refine u_callV_1 dX12_give_6 ml_X12_307 mv_X12_isMask (by first | assumption | rfl | exact led_1 (by assumption) | exact led_2 (by assumption) | exact bk_m (by assumption) (by first | assumption | omega) | exact bk_p (by assumption) (by first | assumption | omega) | exact bk_o (by assumption) (by first | assumption | omega) | exact bk_s (by assumption) (by first | assumption | omega) | exact bk_1 (by assumption) | exact bk_2 (by assumption) | exact bk_3 (by assumption) | exact bk_4 (by assumption) | exact bk_5 (by assumption) | exact bk_6 (by assumption) | exact bk_7 (by assumption) | exact bk_8 (by assumption) | exact sh_ring _ (by first | assumption | omega) | exact sh_imgs _ (by first | assumption | omega)) (by decide) rfl (by decide) (Nat.le_of_ble_eq_true rfl) (c_X12_isMask hR hr.1 ?_)
  refine v_if_ne (tgt := 18) dX12_give_9 (by decide) (fun hc9 => ?_) (fun hc9 => ?_)
  · (first | rw [bI_0, Bool.not_eq_false] at hc9 | rw [bI_0] at hc9 | rw [show (0 : Int32) = nI 0 from rfl, nI_eq (by omega) (by omega)] at hc9 | skip)
    refine v_aload_0 dX12_give_18 ?_
    refine v_iload_2 dX12_give_19 ?_
    refine u_callV_1 dX12_give_20 ml_X12_313 mv_X12_isDay (by first | assumption | rfl | exact led_1 (by assumption) | exact led_2 (by assumption) | exact bk_m (by assumption) (by first | assumption | omega) | exact bk_p (by assumption) (by first | assumption | omega) | exact bk_o (by assumption) (by first | assumption | omega) | exact bk_s (by assumption) (by first | assumption | omega) | exact bk_1 (by assumption) | exact bk_2 (by assumption) | exact bk_3 (by assumption) | exact bk_4 (by assumption) | exact bk_5 (by assumption) | exact bk_6 (by assumption) | exact bk_7 (by assumption) | exact bk_8 (by assumption) | exact sh_ring _ (by first | assumption | omega) | exact sh_imgs _ (by first | assumption | omega)) (by decide) rfl (by decide) (Nat.le_of_ble_eq_true rfl) (c_X12_isDay hR hr.1 ?_)
    refine v_if_ne (tgt := 32) dX12_give_23 (by decide) (fun hc23 => ?_) (fun hc23 => ?_)
    · (first | rw [bI_0, Bool.not_eq_false] at hc23 | rw [bI_0] at hc23 | rw [show (0 : Int32) = nI 0 from rfl, nI_eq (by omega) (by omega)] at hc23 | skip)
      obtain ⟨m, rfl, hm⟩ := inb_ex (by omega) hc9
      have em : tN (nI m) = m := tN_nI (by omega)
      obtain ⟨d, rfl, hd1, hd⟩ := ind_ex (by omega) hc23
      have ed : tN (nI d) = d := tN_nI (by omega)
      have hcc : (inb (nI m) (F 2) && ind (nI d) (F 0)) = true := by rw [hc9, hc23]; rfl
      refine v_aload_0 dX12_give_32 ?_
      refine u_getR dX12_give_33 gf_X12_26 (by first | assumption | rfl | exact led_1 (by assumption) | exact led_2 (by assumption) | exact bk_m (by assumption) (by first | assumption | omega) | exact bk_p (by assumption) (by first | assumption | omega) | exact bk_o (by assumption) (by first | assumption | omega) | exact bk_s (by assumption) (by first | assumption | omega) | exact bk_1 (by assumption) | exact bk_2 (by assumption) | exact bk_3 (by assumption) | exact bk_4 (by assumption) | exact bk_5 (by assumption) | exact bk_6 (by assumption) | exact bk_7 (by assumption) | exact bk_8 (by assumption) | exact sh_ring _ (by first | assumption | omega) | exact sh_imgs _ (by first | assumption | omega)) (ro_X12_17 (by assumption)) ?_
      refine v_iload_1 dX12_give_36 ?_
      refine v_iload_2 dX12_give_37 ?_
      refine u_callS_3 dX12_give_38 ml_X12_304 ms_X12_lendingOf (by decide) (Nat.le_of_ble_eq_true rfl) (c_X12_lendingOf (s := S 0) rfl hS hn20 hok (by omega) (by omega) ?_)
      refine v_istore_3 rfl dX12_give_41 ?_
      cases hf : fup (hitm (S 0).2.1 m d d) 0 (S 0).1 with
      | none =>
        show VV _ _ _ _ _ _ _ _ _ [some (.ref (b + 157)), some (.int (nI m)), some (.int (nI d)), some (.int (-1))] _ _ _ _
        refine v_iload_3 dX12_give_42 ?_
        refine v_if_ge (tgt := 53) dX12_give_43 (by decide) (fun hc43 => ?_) (fun hc43 => ?_)
        · exact absurd hc43 (by decide)
        · (first | rw [show (0 : Int32) = nI 0 from rfl, nI_ltI (by omega) (by omega)] at hc43 | rw [show (0 : Int32) = nI 0 from rfl, nI_leI (by omega) (by omega)] at hc43 | skip)
          refine v_aload_0 dX12_give_46 ?_
          refine v_bipush (v := nI 6) dX12_give_47 (by decide) ?_
          refine u_callV_1 dX12_give_49 ml_X12_423 mv_X12_isNot (by first | assumption | rfl | exact led_1 (by assumption) | exact led_2 (by assumption) | exact bk_m (by assumption) (by first | assumption | omega) | exact bk_p (by assumption) (by first | assumption | omega) | exact bk_o (by assumption) (by first | assumption | omega) | exact bk_s (by assumption) (by first | assumption | omega) | exact bk_1 (by assumption) | exact bk_2 (by assumption) | exact bk_3 (by assumption) | exact bk_4 (by assumption) | exact bk_5 (by assumption) | exact bk_6 (by assumption) | exact bk_7 (by assumption) | exact bk_8 (by assumption) | exact sh_ring _ (by first | assumption | omega) | exact sh_imgs _ (by first | assumption | omega)) (by decide) rfl (by decide) (Nat.le_of_ble_eq_true rfl) (c_X12_isNot (k := 6) ?_)
          refine v_zret dX12_give_52 (by first | rfl | exact bI_n _) rfl rfl rfl rfl ?_
          have hk : k_give F (S 0) (nI m) (nI d) = 6 := by rw [k_give, if_pos hcc, em, ed, hf]
          exact (hQ0 (by rw [hk]; decide)).fin (rf_tr h (by decide)) (fun x hx => by simp only [ui_ne (show x ≠ 157 by omega)]) (fun _ _ => rfl) hk.symm rfl
      | some i =>
        have hi : i < (S 0).1 := by have := fup_some hf; omega
        have hh := (fup_some hf).2.2
        simp only [hitm, ovl, Bool.and_eq_true, decide_eq_true_eq] at hh
        obtain ⟨c1, c2, c3⟩ := hh
        have e : n_give (S 0) m d = endS (S 0) i d := by unfold n_give; rw [hf]
        have hk : k_give F (S 0) (nI m) (nI d) = 0 := by rw [k_give, if_pos hcc, em, ed, hf]
        have hfin := hQ1 hk
        rw [em, ed, e] at hfin
        have hle := lok_end hK hi (d := d) (by omega) (by omega)
        have hk4 := hok i hi
        show VV _ _ _ _ _ _ _ _ _ [some (.ref (b + 157)), some (.int (nI m)), some (.int (nI d)), some (.int (nI i))] _ _ _ _
        refine v_iload_3 dX12_give_42 ?_
        refine v_if_ge (tgt := 53) dX12_give_43 (by decide) (fun hc43 => ?_) (fun hc43 => ?_)
        · (first | rw [show (0 : Int32) = nI 0 from rfl, nI_ltI (by omega) (by omega)] at hc43 | rw [show (0 : Int32) = nI 0 from rfl, nI_leI (by omega) (by omega)] at hc43 | skip)
          refine v_aload_0 dX12_give_53 ?_
          refine u_getR dX12_give_54 gf_X12_26 (by first | assumption | rfl | exact led_1 (by assumption) | exact led_2 (by assumption) | exact bk_m (by assumption) (by first | assumption | omega) | exact bk_p (by assumption) (by first | assumption | omega) | exact bk_o (by assumption) (by first | assumption | omega) | exact bk_s (by assumption) (by first | assumption | omega) | exact bk_1 (by assumption) | exact bk_2 (by assumption) | exact bk_3 (by assumption) | exact bk_4 (by assumption) | exact bk_5 (by assumption) | exact bk_6 (by assumption) | exact bk_7 (by assumption) | exact bk_8 (by assumption) | exact sh_ring _ (by first | assumption | omega) | exact sh_imgs _ (by first | assumption | omega)) (ro_X12_17 (by assumption)) ?_
          refine v_iconst (v := nI 0) dX12_give_57 (by decide) ?_
          refine v_aload_0 dX12_give_58 ?_
          refine u_getR dX12_give_59 gf_X12_32 (by first | assumption | rfl | exact led_1 (by assumption) | exact led_2 (by assumption) | exact bk_m (by assumption) (by first | assumption | omega) | exact bk_p (by assumption) (by first | assumption | omega) | exact bk_o (by assumption) (by first | assumption | omega) | exact bk_s (by assumption) (by first | assumption | omega) | exact bk_1 (by assumption) | exact bk_2 (by assumption) | exact bk_3 (by assumption) | exact bk_4 (by assumption) | exact bk_5 (by assumption) | exact bk_6 (by assumption) | exact bk_7 (by assumption) | exact bk_8 (by assumption) | exact sh_ring _ (by first | assumption | omega) | exact sh_imgs _ (by first | assumption | omega)) (ro_X12_19 (by assumption)) ?_
          refine v_iconst (v := nI 0) dX12_give_62 (by decide) ?_
          refine v_bipush (v := nI 87) dX12_give_63 (by decide) ?_
          refine u_callS_5 dX12_give_65 ml_X12_182 ms_X12_copy (by decide) (Nat.le_of_ble_eq_true rfl) (c_X12_copy (i0 := 0) (j0 := 0) (m := 87) rfl rfl (by decide) (by decide) (by decide) (by decide) (by decide) (fun J1 q1 q2 => ?_))
          refine v_aload_0 dX12_give_68 ?_
          refine u_getR dX12_give_69 gf_X12_26 (by first | assumption | rfl | exact led_1 (by assumption) | exact led_2 (by assumption) | exact bk_m (by assumption) (by first | assumption | omega) | exact bk_p (by assumption) (by first | assumption | omega) | exact bk_o (by assumption) (by first | assumption | omega) | exact bk_s (by assumption) (by first | assumption | omega) | exact bk_1 (by assumption) | exact bk_2 (by assumption) | exact bk_3 (by assumption) | exact bk_4 (by assumption) | exact bk_5 (by assumption) | exact bk_6 (by assumption) | exact bk_7 (by assumption) | exact bk_8 (by assumption) | exact sh_ring _ (by first | assumption | omega) | exact sh_imgs _ (by first | assumption | omega)) (ro_X12_17 (by assumption)) ?_
          refine v_iconst (v := nI 1) dX12_give_72 (by decide) ?_
          refine v_iconst (v := nI 4) dX12_give_73 (by decide) ?_
          refine v_iload_3 dX12_give_74 ?_
          refine v_imul dX12_give_75 ?_
          refine v_iadd dX12_give_76 ?_
          refine v_iconst (v := nI 2) dX12_give_77 (by decide) ?_
          refine v_iadd dX12_give_78 ?_
          refine u_iald dX12_give_79 (by first | assumption | rfl | exact led_1 (by assumption) | exact led_2 (by assumption) | exact bk_m (by assumption) (by first | assumption | omega) | exact bk_p (by assumption) (by first | assumption | omega) | exact bk_o (by assumption) (by first | assumption | omega) | exact bk_s (by assumption) (by first | assumption | omega) | exact bk_1 (by assumption) | exact bk_2 (by assumption) | exact bk_3 (by assumption) | exact bk_4 (by assumption) | exact bk_5 (by assumption) | exact bk_6 (by assumption) | exact bk_7 (by assumption) | exact bk_8 (by assumption) | exact sh_ring _ (by first | assumption | omega) | exact sh_imgs _ (by first | assumption | omega)) (by first | with_reducible rfl | (simp only [nlit, nI_add, pk_mul]; with_reducible rfl) | rfl) (by first | assumption | omega) (by first | assumption | decide) ?_
          rw [q2 162 (by decide), hS.f hi (by omega)]
          refine v_iload_2 dX12_give_80 ?_
          refine v_icmp_ne (tgt := 95) dX12_give_81 (by decide) (fun hc81 => ?_) (fun hc81 => ?_)
          · (try rw [nI_eq (by omega) (by omega)] at hc81)
            refine v_aload_0 dX12_give_95 ?_
            refine u_getR dX12_give_96 gf_X12_26 (by first | assumption | rfl | exact led_1 (by assumption) | exact led_2 (by assumption) | exact bk_m (by assumption) (by first | assumption | omega) | exact bk_p (by assumption) (by first | assumption | omega) | exact bk_o (by assumption) (by first | assumption | omega) | exact bk_s (by assumption) (by first | assumption | omega) | exact bk_1 (by assumption) | exact bk_2 (by assumption) | exact bk_3 (by assumption) | exact bk_4 (by assumption) | exact bk_5 (by assumption) | exact bk_6 (by assumption) | exact bk_7 (by assumption) | exact bk_8 (by assumption) | exact sh_ring _ (by first | assumption | omega) | exact sh_imgs _ (by first | assumption | omega)) (ro_X12_17 (by assumption)) ?_
            refine v_iconst (v := nI 1) dX12_give_99 (by decide) ?_
            refine v_iconst (v := nI 4) dX12_give_100 (by decide) ?_
            refine v_iload_3 dX12_give_101 ?_
            refine v_imul dX12_give_102 ?_
            refine v_iadd dX12_give_103 ?_
            refine v_iconst (v := nI 3) dX12_give_104 (by decide) ?_
            refine v_iadd dX12_give_105 ?_
            refine v_iload_2 dX12_give_106 ?_
            refine v_iconst (v := nI 1) dX12_give_107 (by decide) ?_
            refine v_isub dX12_give_108 ?_
            rw [pk_sub (by omega)]
            refine u_iast dX12_give_109 (by first | assumption | rfl | exact led_1 (by assumption) | exact led_2 (by assumption) | exact bk_m (by assumption) (by first | assumption | omega) | exact bk_p (by assumption) (by first | assumption | omega) | exact bk_o (by assumption) (by first | assumption | omega) | exact bk_s (by assumption) (by first | assumption | omega) | exact bk_1 (by assumption) | exact bk_2 (by assumption) | exact bk_3 (by assumption) | exact bk_4 (by assumption) | exact bk_5 (by assumption) | exact bk_6 (by assumption) | exact bk_7 (by assumption) | exact bk_8 (by assumption) | exact sh_ring _ (by first | assumption | omega) | exact sh_imgs _ (by first | assumption | omega)) (by first | with_reducible rfl | (simp only [nlit, nI_add, pk_mul]; with_reducible rfl) | rfl) (by first | assumption | omega) (by first | assumption | decide) ?_
            refine v_aload_0 dX12_give_110 ?_
            refine u_callV_0 dX12_give_111 ml_X12_426 mv_X12_did (by first | assumption | rfl | exact led_1 (by assumption) | exact led_2 (by assumption) | exact bk_m (by assumption) (by first | assumption | omega) | exact bk_p (by assumption) (by first | assumption | omega) | exact bk_o (by assumption) (by first | assumption | omega) | exact bk_s (by assumption) (by first | assumption | omega) | exact bk_1 (by assumption) | exact bk_2 (by assumption) | exact bk_3 (by assumption) | exact bk_4 (by assumption) | exact bk_5 (by assumption) | exact bk_6 (by assumption) | exact bk_7 (by assumption) | exact bk_8 (by assumption) | exact sh_ring _ (by first | assumption | omega) | exact sh_imgs _ (by first | assumption | omega)) (by decide) rfl (by decide) (Nat.le_of_ble_eq_true rfl) (c_X12_did (u := u) hR (by rw [ui_ne (by decide), q2 157 (by decide)]; exact h.2.2.2.1.1) (by have := h.2.2.2.1.2.2.1; omega) (fun J3 p1 p2 p3 p4 p5 => ?_))
            refine v_zret dX12_give_114 (by first | rfl | exact bI_n _) rfl rfl rfl rfl ?_
            have hsN : StI J3 162 0 (endS (S 0) i d) := sti_end (hS.fr (q2 162 (by decide))) hi hn20 (by omega) (p5 162 (by decide) (by decide))
            exact hfin.fin (rf_step (W := fun k => J1 164 k) h (by omega) hl (fun k hk => by rw [p1 k hk]; simp only [ui_ne (show (165:Nat) ≠ 162 by decide), ui_ne (show (164:Nat) ≠ 162 by decide), q2 165 (by decide)]) (fun k hk => by show J1 164 k = _; rw [q1 k, if_pos ⟨Nat.zero_le _, by omega⟩, Nat.zero_add, Nat.sub_zero]) (hsN) (hle) p2 p3 (by rw [p4 11 (by decide) (by decide), ui_ne (by decide), q2 157 (by decide), ui_s]) (fun j hj => by rw [p4 j (by omega) (by omega), ui_ne (by decide), q2 157 (by decide)]) (fun x hx => by rw [p5 x (by omega) (by omega), ui_ne (by omega), q2 x (by omega)])) (fun x hx => by rw [p5 x (by omega) (by omega), ui_ne (by omega), q2 x (by omega)]; simp only [ui_ne (show x ≠ 157 by omega)]) (fun _ _ => rfl) rfl rfl
          · (try rw [nI_eq (by omega) (by omega)] at hc81)
            refine v_aload_0 dX12_give_84 ?_
            refine u_getR dX12_give_85 gf_X12_26 (by first | assumption | rfl | exact led_1 (by assumption) | exact led_2 (by assumption) | exact bk_m (by assumption) (by first | assumption | omega) | exact bk_p (by assumption) (by first | assumption | omega) | exact bk_o (by assumption) (by first | assumption | omega) | exact bk_s (by assumption) (by first | assumption | omega) | exact bk_1 (by assumption) | exact bk_2 (by assumption) | exact bk_3 (by assumption) | exact bk_4 (by assumption) | exact bk_5 (by assumption) | exact bk_6 (by assumption) | exact bk_7 (by assumption) | exact bk_8 (by assumption) | exact sh_ring _ (by first | assumption | omega) | exact sh_imgs _ (by first | assumption | omega)) (ro_X12_17 (by assumption)) ?_
            refine v_iload_3 dX12_give_88 ?_
            refine u_callS_2 dX12_give_89 ml_X12_429 ms_X12_dropLending (by decide) (Nat.le_of_ble_eq_true rfl) (c_X12_dropLending (s := S 0) rfl (hS.fr (q2 162 (by decide))) hn20 hi (fun J2 q3 q4 => ?_))
            refine v_goto (tgt := 110) dX12_give_92 (by decide) ?_
            refine v_aload_0 dX12_give_110 ?_
            refine u_callV_0 dX12_give_111 ml_X12_426 mv_X12_did (by first | assumption | rfl | exact led_1 (by assumption) | exact led_2 (by assumption) | exact bk_m (by assumption) (by first | assumption | omega) | exact bk_p (by assumption) (by first | assumption | omega) | exact bk_o (by assumption) (by first | assumption | omega) | exact bk_s (by assumption) (by first | assumption | omega) | exact bk_1 (by assumption) | exact bk_2 (by assumption) | exact bk_3 (by assumption) | exact bk_4 (by assumption) | exact bk_5 (by assumption) | exact bk_6 (by assumption) | exact bk_7 (by assumption) | exact bk_8 (by assumption) | exact sh_ring _ (by first | assumption | omega) | exact sh_imgs _ (by first | assumption | omega)) (by decide) rfl (by decide) (Nat.le_of_ble_eq_true rfl) (c_X12_did (u := u) hR (by rw [q4 157 (by decide), q2 157 (by decide)]; exact h.2.2.2.1.1) (by have := h.2.2.2.1.2.2.1; omega) (fun J3 p1 p2 p3 p4 p5 => ?_))
            refine v_zret dX12_give_114 (by first | rfl | exact bI_n _) rfl rfl rfl rfl ?_
            have hsN : StI J3 162 0 (endS (S 0) i d) := by
              have h2 := q3.fr (p5 162 (by decide) (by decide))
              unfold endS; rw [if_neg (by omega)]; exact h2
            exact hfin.fin (rf_step (W := fun k => J1 164 k) h (by omega) hl (fun k hk => by rw [p1 k hk, q4 165 (by decide), q2 165 (by decide), q4 164 (by decide)]) (fun k hk => by show J1 164 k = _; rw [q1 k, if_pos ⟨Nat.zero_le _, by omega⟩, Nat.zero_add, Nat.sub_zero]) (hsN) (hle) p2 p3 (by rw [p4 11 (by decide) (by decide), q4 157 (by decide), q2 157 (by decide), ui_s]) (fun j hj => by rw [p4 j (by omega) (by omega), q4 157 (by decide), q2 157 (by decide)]) (fun x hx => by rw [p5 x (by omega) (by omega), q4 x (by omega), q2 x (by omega)])) (fun x hx => by rw [p5 x (by omega) (by omega), q4 x (by omega), q2 x (by omega)]; simp only [ui_ne (show x ≠ 157 by omega)]) (fun _ _ => rfl) rfl rfl
        · exact absurd (nI_pos2 (by omega)) hc43
    · (first | rw [bI_0, Bool.not_eq_false] at hc23 | rw [bI_0] at hc23 | rw [show (0 : Int32) = nI 0 from rfl, nI_eq (by omega) (by omega)] at hc23 | skip)
      refine v_aload_0 dX12_give_26 ?_
      refine v_iconst (v := nI 2) dX12_give_27 (by decide) ?_
      refine u_callV_1 dX12_give_28 ml_X12_423 mv_X12_isNot (by first | assumption | rfl | exact led_1 (by assumption) | exact led_2 (by assumption) | exact bk_m (by assumption) (by first | assumption | omega) | exact bk_p (by assumption) (by first | assumption | omega) | exact bk_o (by assumption) (by first | assumption | omega) | exact bk_s (by assumption) (by first | assumption | omega) | exact bk_1 (by assumption) | exact bk_2 (by assumption) | exact bk_3 (by assumption) | exact bk_4 (by assumption) | exact bk_5 (by assumption) | exact bk_6 (by assumption) | exact bk_7 (by assumption) | exact bk_8 (by assumption) | exact sh_ring _ (by first | assumption | omega) | exact sh_imgs _ (by first | assumption | omega)) (by decide) rfl (by decide) (Nat.le_of_ble_eq_true rfl) (c_X12_isNot (k := 2) ?_)
      refine v_zret dX12_give_31 (by first | rfl | exact bI_n _) rfl rfl rfl rfl ?_
      have hk : k_give F (S 0) x y = 2 := by simp [k_give, trc, hc9, hc23]
      exact (hQ0 (by rw [hk]; decide)).fin (rf_tr h (by decide)) (fun x hx => by simp only [ui_ne (show x ≠ 157 by omega)]) (fun _ _ => rfl) hk.symm rfl
  · (first | rw [bI_0, Bool.not_eq_false] at hc9 | rw [bI_0] at hc9 | rw [show (0 : Int32) = nI 0 from rfl, nI_eq (by omega) (by omega)] at hc9 | skip)
    refine v_aload_0 dX12_give_12 ?_
    refine v_iconst (v := nI 1) dX12_give_13 (by decide) ?_
    refine u_callV_1 dX12_give_14 ml_X12_423 mv_X12_isNot (by first | assumption | rfl | exact led_1 (by assumption) | exact led_2 (by assumption) | exact bk_m (by assumption) (by first | assumption | omega) | exact bk_p (by assumption) (by first | assumption | omega) | exact bk_o (by assumption) (by first | assumption | omega) | exact bk_s (by assumption) (by first | assumption | omega) | exact bk_1 (by assumption) | exact bk_2 (by assumption) | exact bk_3 (by assumption) | exact bk_4 (by assumption) | exact bk_5 (by assumption) | exact bk_6 (by assumption) | exact bk_7 (by assumption) | exact bk_8 (by assumption) | exact sh_ring _ (by first | assumption | omega) | exact sh_imgs _ (by first | assumption | omega)) (by decide) rfl (by decide) (Nat.le_of_ble_eq_true rfl) (c_X12_isNot (k := 1) ?_)
    refine v_zret dX12_give_17 (by first | rfl | exact bI_n _) rfl rfl rfl rfl ?_
    have hk : k_give F (S 0) x y = 1 := by simp [k_give, trc, hc9]
    exact (hQ0 (by rw [hk]; decide)).fin (rf_tr h (by decide)) (fun x hx => by simp only [ui_ne (show x ≠ 157 by omega)]) (fun _ _ => rfl) hk.symm rfl
end
