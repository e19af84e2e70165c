theorem nI_div2 {a c : Nat} (ha : a < 2 ^ 31) (hc : c < 2 ^ 31) : nI a / nI c = nI (a / c) := by
  have hd := Nat.div_le_self a c
  apply Int32.toInt_inj.mp
  rw [Int32.toInt_div, show (nI a).toInt = (a : Int) from Int32.toInt_ofNat_of_lt (by omega), show (nI c).toInt = (c : Int) from Int32.toInt_ofNat_of_lt (by omega), show (nI (a / c)).toInt = ((a / c : Nat) : Int) from Int32.toInt_ofNat_of_lt (by omega), ← Int.ofNat_tdiv]
  generalize a / c = q at hd ⊢
  exact Int.bmod_eq_of_le (by omega) (by omega)
theorem nI_rem2 {a c : Nat} (ha : a < 2 ^ 31) (hc : c < 2 ^ 31) : nI a - nI a / nI c * nI c = nI (a % c) := by
  have e : a = a % c + a / c * c := by rw [Nat.mul_comm]; exact (Nat.mod_add_div a c).symm
  rw [nI_div2 ha hc, pk_mul]
  have e3 : nI a = nI (a % c) + nI (a / c * c) := by rw [nI_add, ← e]
  rw [e3, Int32.add_sub_cancel]
theorem lcn_eq {F : bkF} {s : LSt} {m o : Nat} (hO : FOK F) (hK : LOK F s) (hm : m < F 2) (ho : o < F 2) (hmo : m ≠ o) : lcn F s m o = sun (fun p => cup (lvA F s m o p) 0 (F 3)) 0 (F 3) 0 := by
  unfold lcn
  exact sun_cg _ _ _ (fun k _ h2 => bitc_prt hO hK hm ho hmo (by omega))
theorem lcn_le {F : bkF} {s : LSt} {m o : Nat} (hO : FOK F) : lcn F s m o ≤ 48 := by
  have h := sun_le (f := fun p => bitc (prt F s.1 s.2.1 m o p)) (c := 8) (fun p => cup_le8 8 0) (F 3) 0 0
  have := hO.2.2.2.1
  unfold lcn
  omega
theorem nI_sub0 {c : Nat} (h : c ≤ 48) : ¬ (0 : Int32) ≤ nI c - nI 1000 := fun q => by
  have e : c = 0 ∨ ∃ k, k < 49 ∧ c = k := Or.inr ⟨c, by omega, rfl⟩
  have all : ∀ k, k < 49 → ¬ (0 : Int32) ≤ nI k - nI 1000 := by decide
  exact all c (by omega) q
section
variable {b : Nat} {ad : Nat → Nat} {I J : HI} {L M : HL} {R : HR} {Q : QT} {tp : Nat → Nat} {nt tr fa pl : Nat} {F : bkF} {S : Nat → LSt} {u r : Nat} {im : Nat → LSt} {ic : Nat}
theorem r_lovers {x : Int32} {y : Int32} (hR : RO R) (h : RefB I tp nt tr fa pl F S u r im ic) (hQ : YQ I L R tp nt (t_lovers F (S 0) x y) fa pl F S u r im ic (a_lovers F (S 0) x y) Q) : KK 9 mX12_lovers b ad [.ref (b + 157), .int x, .int y] I L R Q := by
  have hO := h.2.2.1.1.2.2.1
  have o0 := hO.1
  have o1 := hO.2.1
  have o2 := hO.2.2.1
  have o3 := hO.2.2.2.1
  have o4 := hO.2.2.2.2.1
  have o5 := hO.2.2.2.2.2.1
  have o6 := hO.2.2.2.2.2.2.1
  have hK := h.2.2.1.2.2
  have hn20 := hK.1
  have hok : ∀ i, i < (S 0).1 → ok4 ((S 0).2.1 i) := fun i hi => (hK.2.1 i hi).1
  refine K.of (M := mX12_lovers) (lv := [some (.ref (b + 157)), some (.int x), some (.int y)]) (by decide) (Nat.le_of_ble_eq_true rfl) rfl ?_
  refine v_aload_0 dX12_lovers_0 ?_
  refine u_callV_0 dX12_lovers_1 ml_X12_173 mv_X12_good (by first | assumption | rfl | exact led_1 (by assumption) | exact led_2 (by assumption) | exact bk_m (by assumption) (by first | assumption | omega) | exact bk_p (by assumption) (by first | assumption | omega) | exact bk_o (by assumption) (by first | assumption | omega) | exact bk_s (by assumption) (by first | assumption | omega) | exact bk_1 (by assumption) | exact bk_2 (by assumption) | exact bk_3 (by assumption) | exact bk_4 (by assumption) | exact bk_5 (by assumption) | exact bk_6 (by assumption) | exact bk_7 (by assumption) | exact bk_8 (by assumption) | exact sh_ring _ (by first | assumption | omega) | exact sh_imgs _ (by first | assumption | omega)) (by decide) rfl (by decide) (Nat.le_of_ble_eq_true rfl) (c_X12_good ?_)
  have h := rf_good h
  have hr : RfI _ F (S 0) := h.2.2.1
  have hS := hr.2.1
  refine v_aload_0 dX12_lovers_4 ?_
  refine v_iload_1 dX12_lovers_5 ?_
  refine v_iload_2 dX12_lovers_6 ?_
  refine u_callV_2 dX12_lovers_7 ml_X12_413 mv_X12_areMasks (by first | assumption | rfl | exact led_1 (by assumption) | exact led_2 (by assumption) | exact bk_m (by assumption) (by first | assumption | omega) | exact bk_p (by assumption) (by first | assumption | omega) | exact bk_o (by assumption) (by first | assumption | omega) | exact bk_s (by assumption) (by first | assumption | omega) | exact bk_1 (by assumption) | exact bk_2 (by assumption) | exact bk_3 (by assumption) | exact bk_4 (by assumption) | exact bk_5 (by assumption) | exact bk_6 (by assumption) | exact bk_7 (by assumption) | exact bk_8 (by assumption) | exact sh_ring _ (by first | assumption | omega) | exact sh_imgs _ (by first | assumption | omega)) (by decide) rfl (by decide) (Nat.le_of_ble_eq_true rfl) (c_X12_areMasks hR hr.1 ?_)
  refine v_if_eq (tgt := 27) dX12_lovers_10 (by decide) (fun hc10 => ?_) (fun hc10 => ?_)
  · (first | rw [bI_0, Bool.not_eq_false] at hc10 | rw [bI_0] at hc10 | rw [show (0 : Int32) = nI 0 from rfl, nI_eq (by omega) (by omega)] at hc10 | skip)
    refine v_aload_0 dX12_lovers_27 ?_
    refine v_iconst (v := nI 1) dX12_lovers_28 (by decide) ?_
    refine u_callV_1 dX12_lovers_29 ml_X12_176 mv_X12_no (by first | assumption | rfl | exact led_1 (by assumption) | exact led_2 (by assumption) | exact bk_m (by assumption) (by first | assumption | omega) | exact bk_p (by assumption) (by first | assumption | omega) | exact bk_o (by assumption) (by first | assumption | omega) | exact bk_s (by assumption) (by first | assumption | omega) | exact bk_1 (by assumption) | exact bk_2 (by assumption) | exact bk_3 (by assumption) | exact bk_4 (by assumption) | exact bk_5 (by assumption) | exact bk_6 (by assumption) | exact bk_7 (by assumption) | exact bk_8 (by assumption) | exact sh_ring _ (by first | assumption | omega) | exact sh_imgs _ (by first | assumption | omega)) (by decide) rfl (by decide) (Nat.le_of_ble_eq_true rfl) (c_X12_no (k := 1) ?_)
    refine v_iret dX12_lovers_32 rfl rfl rfl rfl ?_
    first
      | exact hQ.fin (rf_tr h (by decide)) (fun x hx => by simp only [ui_ne (show x ≠ 157 by omega)]) (fun _ _ => rfl) (by simp only [t_lovers, hc10]; rfl) (by simp only [a_lovers, hc10]; rfl)
      | exact hQ.fin h2 (fun x hx => by rw [jx x hx]; simp only [ui_ne (show x ≠ 157 by omega)]) mx (by simp only [t_lovers, hc10]; rfl) (by simp only [a_lovers, hc10, em, eo, elc]; rw [lvo_none _ _ _ (by omega)]; show nI _ - nI 1000 + nI 1000 = _; rw [Int32.sub_add_cancel]; rfl)
  · (first | rw [bI_0, Bool.not_eq_false] at hc10 | rw [bI_0] at hc10 | rw [show (0 : Int32) = nI 0 from rfl, nI_eq (by omega) (by omega)] at hc10 | skip)
    have q := hc10
    rw [Bool.and_eq_true, Bool.and_eq_true, decide_eq_true_eq] at q
    obtain ⟨m, rfl, hm⟩ := inb_ex (by omega) q.1.1
    obtain ⟨o, rfl, ho⟩ := inb_ex (by omega) q.1.2
    have hmo : m ≠ o := fun e => q.2 (by rw [e])
    have em : tN (nI m) = m := tN_nI (by omega)
    have eo : tN (nI o) = o := tN_nI (by omega)
    have h33 := Nat.mul_le_mul o3 o3
    have elc := lcn_eq (s := S 0) hO hK hm ho hmo
    have hc48 := lcn_le (F := F) (s := S 0) (m := m) (o := o) hO
    refine v_aload_0 dX12_lovers_13 ?_
    refine v_iload_1 dX12_lovers_14 ?_
    refine v_iload_2 dX12_lovers_15 ?_
    refine v_iconst (v := -1) dX12_lovers_16 (by decide) ?_
    refine u_callV_3 dX12_lovers_17 ml_X12_416 mv_X12_loversAt (by first | assumption | rfl | exact led_1 (by assumption) | exact led_2 (by assumption) | exact bk_m (by assumption) (by first | assumption | omega) | exact bk_p (by assumption) (by first | assumption | omega) | exact bk_o (by assumption) (by first | assumption | omega) | exact bk_s (by assumption) (by first | assumption | omega) | exact bk_1 (by assumption) | exact bk_2 (by assumption) | exact bk_3 (by assumption) | exact bk_4 (by assumption) | exact bk_5 (by assumption) | exact bk_6 (by assumption) | exact bk_7 (by assumption) | exact bk_8 (by assumption) | exact sh_ring _ (by first | assumption | omega) | exact sh_imgs _ (by first | assumption | omega)) (by decide) rfl (by decide) (Nat.le_of_ble_eq_true rfl) (c_X12_loversAt (z := -1) hR h hm ho hmo (fun J M h2 jx mx => ?_))
    refine v_sipush (v := nI 1000) dX12_lovers_20 (by decide) ?_
    refine v_iadd dX12_lovers_23 ?_
    refine v_goto (tgt := 32) dX12_lovers_24 (by decide) ?_
    refine v_iret dX12_lovers_32 rfl rfl rfl rfl ?_
    first
      | exact hQ.fin (rf_tr h (by decide)) (fun x hx => by simp only [ui_ne (show x ≠ 157 by omega)]) (fun _ _ => rfl) (by simp only [t_lovers, hc10]; rfl) (by simp only [a_lovers, hc10]; rfl)
      | exact hQ.fin h2 (fun x hx => by rw [jx x hx]; simp only [ui_ne (show x ≠ 157 by omega)]) mx (by simp only [t_lovers, hc10]; rfl) (by simp only [a_lovers, hc10, em, eo, elc]; rw [lvo_none _ _ _ (by omega)]; show nI _ - nI 1000 + nI 1000 = _; rw [Int32.sub_add_cancel]; rfl)
theorem r_lover {x : Int32} {y : Int32} {z : Int32} {sec : Bool} (hR : RO R) (h : RefB I tp nt tr fa pl F S u r im ic) (hQ : YQ I L R tp nt (t_lover F (S 0) x y z sec) fa pl F S u r im ic (a_lover F (S 0) x y z sec) Q) : KK 9 mX12_lover b ad [.ref (b + 157), .int x, .int y, .int z, .int (bI sec)] I L R Q := by
  have hO := h.2.2.1.1.2.2.1
  have o0 := hO.1
  have o1 := hO.2.1
  have o2 := hO.2.2.1
  have o3 := hO.2.2.2.1
  have o4 := hO.2.2.2.2.1
  have o5 := hO.2.2.2.2.2.1
  have o6 := hO.2.2.2.2.2.2.1
  have hK := h.2.2.1.2.2
  have hn20 := hK.1
  have hok : ∀ i, i < (S 0).1 → ok4 ((S 0).2.1 i) := fun i hi => (hK.2.1 i hi).1
  refine K.of (M := mX12_lover) (lv := [some (.ref (b + 157)), some (.int x), some (.int y), some (.int z), some (.int (bI sec)), none]) (by decide) (Nat.le_of_ble_eq_true rfl) rfl ?_
  refine v_aload_0 dX12_lover_0 ?_
  refine u_callV_0 dX12_lover_1 ml_X12_173 mv_X12_good (by first | assumption | rfl | exact led_1 (by assumption) | exact led_2 (by assumption) | exact bk_m (by assumption) (by first | assumption | omega) | exact bk_p (by assumption) (by first | assumption | omega) | exact bk_o (by assumption) (by first | assumption | omega) | exact bk_s (by assumption) (by first | assumption | omega) | exact bk_1 (by assumption) | exact bk_2 (by assumption) | exact bk_3 (by assumption) | exact bk_4 (by assumption) | exact bk_5 (by assumption) | exact bk_6 (by assumption) | exact bk_7 (by assumption) | exact bk_8 (by assumption) | exact sh_ring _ (by first | assumption | omega) | exact sh_imgs _ (by first | assumption | omega)) (by decide) rfl (by decide) (Nat.le_of_ble_eq_true rfl) (c_X12_good ?_)
  have h := rf_good h
  have hr : RfI _ F (S 0) := h.2.2.1
  have hS := hr.2.1
  refine v_aload_0 dX12_lover_4 ?_
  refine v_iload_1 dX12_lover_5 ?_
  refine v_iload_2 dX12_lover_6 ?_
  refine u_callV_2 dX12_lover_7 ml_X12_413 mv_X12_areMasks (by first | assumption | rfl | exact led_1 (by assumption) | exact led_2 (by assumption) | exact bk_m (by assumption) (by first | assumption | omega) | exact bk_p (by assumption) (by first | assumption | omega) | exact bk_o (by assumption) (by first | assumption | omega) | exact bk_s (by assumption) (by first | assumption | omega) | exact bk_1 (by assumption) | exact bk_2 (by assumption) | exact bk_3 (by assumption) | exact bk_4 (by assumption) | exact bk_5 (by assumption) | exact bk_6 (by assumption) | exact bk_7 (by assumption) | exact bk_8 (by assumption) | exact sh_ring _ (by first | assumption | omega) | exact sh_imgs _ (by first | assumption | omega)) (by decide) rfl (by decide) (Nat.le_of_ble_eq_true rfl) (c_X12_areMasks hR hr.1 ?_)
  refine v_if_eq (tgt := 17) dX12_lover_10 (by decide) (fun hc10 => ?_) (fun hc10 => ?_)
  · (first | rw [bI_0, Bool.not_eq_false] at hc10 | rw [bI_0] at hc10 | rw [show (0 : Int32) = nI 0 from rfl, nI_eq (by omega) (by omega)] at hc10 | skip)
    refine v_aload_0 dX12_lover_17 ?_
    refine v_iconst (v := nI 1) dX12_lover_18 (by decide) ?_
    refine u_callV_1 dX12_lover_19 ml_X12_176 mv_X12_no (by first | assumption | rfl | exact led_1 (by assumption) | exact led_2 (by assumption) | exact bk_m (by assumption) (by first | assumption | omega) | exact bk_p (by assumption) (by first | assumption | omega) | exact bk_o (by assumption) (by first | assumption | omega) | exact bk_s (by assumption) (by first | assumption | omega) | exact bk_1 (by assumption) | exact bk_2 (by assumption) | exact bk_3 (by assumption) | exact bk_4 (by assumption) | exact bk_5 (by assumption) | exact bk_6 (by assumption) | exact bk_7 (by assumption) | exact bk_8 (by assumption) | exact sh_ring _ (by first | assumption | omega) | exact sh_imgs _ (by first | assumption | omega)) (by decide) rfl (by decide) (Nat.le_of_ble_eq_true rfl) (c_X12_no (k := 1) ?_)
    refine v_iret dX12_lover_22 rfl rfl rfl rfl ?_
    first
      | exact hQ.fin (rf_tr h (by decide)) (fun x hx => by simp only [ui_ne (show x ≠ 157 by omega)]) (fun _ _ => rfl) (by simp only [t_lover, hc10]; rfl) (by simp only [a_lover, hc10]; rfl)
      | (have hi0 : ∀ n, inb z n = false := (fun n => by unfold inb; rw [decide_eq_false hc14]; rfl); exact hQ.fin (rf_tr h (by decide)) (fun x hx => by simp only [ui_ne (show x ≠ 157 by omega)]) (fun _ _ => rfl) (by simp only [t_lover, hc10, hi0]; rfl) (by simp only [a_lover, hc10, hi0]; rfl))
  · (first | rw [bI_0, Bool.not_eq_false] at hc10 | rw [bI_0] at hc10 | rw [show (0 : Int32) = nI 0 from rfl, nI_eq (by omega) (by omega)] at hc10 | skip)
    refine v_iload_3 dX12_lover_13 ?_
    refine v_if_ge (tgt := 23) dX12_lover_14 (by decide) (fun hc14 => ?_) (fun hc14 => ?_)
    · (first | rw [show (0 : Int32) = nI 0 from rfl, nI_ltI (by omega) (by omega)] at hc14 | rw [show (0 : Int32) = nI 0 from rfl, nI_leI (by omega) (by omega)] at hc14 | skip)
      have q := hc10
      rw [Bool.and_eq_true, Bool.and_eq_true, decide_eq_true_eq] at q
      obtain ⟨m, rfl, hm⟩ := inb_ex (by omega) q.1.1
      obtain ⟨o, rfl, ho⟩ := inb_ex (by omega) q.1.2
      have hmo : m ≠ o := fun e => q.2 (by rw [e])
      have em : tN (nI m) = m := tN_nI (by omega)
      have eo : tN (nI o) = o := tN_nI (by omega)
      have h33 := Nat.mul_le_mul o3 o3
      have elc := lcn_eq (s := S 0) hO hK hm ho hmo
      have hc48 := lcn_le (F := F) (s := S 0) (m := m) (o := o) hO
      obtain ⟨ez, hz⟩ := nI_tN hc14
      generalize tN z = i at ez hz
      subst ez
      have ei : tN (nI i) = i := tN_nI hz
      have hat := lvo_at (P := F 3) (f := lvA F (S 0) m o) (pt := prt F (S 0).1 (S 0).2.1 m o) hz (F 3) 0 0 (fun y _ h2 x hx => lvA_prt hO hK hm ho hmo (by omega) hx) (Nat.zero_le _)
      rw [← elc] at hat
      refine v_aload_0 dX12_lover_23 ?_
      refine v_iload_1 dX12_lover_24 ?_
      refine v_iload_2 dX12_lover_25 ?_
      refine v_iload_3 dX12_lover_26 ?_
      refine u_callV_3 dX12_lover_27 ml_X12_416 mv_X12_loversAt (by first | assumption | rfl | exact led_1 (by assumption) | exact led_2 (by assumption) | exact bk_m (by assumption) (by first | assumption | omega) | exact bk_p (by assumption) (by first | assumption | omega) | exact bk_o (by assumption) (by first | assumption | omega) | exact bk_s (by assumption) (by first | assumption | omega) | exact bk_1 (by assumption) | exact bk_2 (by assumption) | exact bk_3 (by assumption) | exact bk_4 (by assumption) | exact bk_5 (by assumption) | exact bk_6 (by assumption) | exact bk_7 (by assumption) | exact bk_8 (by assumption) | exact sh_ring _ (by first | assumption | omega) | exact sh_imgs _ (by first | assumption | omega)) (by decide) rfl (by decide) (Nat.le_of_ble_eq_true rfl) (c_X12_loversAt (z := nI i) hR h hm ho hmo (fun J M h2 jx mx => ?_))
      rcases hat with ⟨y, x, g1, g2, g3, g4, g5⟩ | ⟨g1, g2⟩
      · have hin : inb (nI i) (lcn F (S 0) m o) = true := by unfold inb; rw [decide_eq_true (nI_pos2 hz), decide_eq_true ((nI_ltI (by omega) (by omega)).mpr g5)]; rfl
        rw [g3]
        show VV _ _ _ _ _ _ _ _ _ _ [.int (nI (6 * y + x))] _ _ _
        refine v_istore_5 rfl dX12_lover_30 ?_
        refine v_iload_5 dX12_lover_32 ?_
        refine v_if_ge (tgt := 45) dX12_lover_34 (by decide) (fun hc34 => ?_) (fun hc34 => ?_)
        · (first | rw [show (0 : Int32) = nI 0 from rfl, nI_ltI (by omega) (by omega)] at hc34 | rw [show (0 : Int32) = nI 0 from rfl, nI_leI (by omega) (by omega)] at hc34 | skip)
          refine v_iload_4 dX12_lover_45 ?_
          refine v_if_eq (tgt := 58) dX12_lover_47 (by decide) (fun hc47 => ?_) (fun hc47 => ?_)
          · (first | rw [bI_0, Bool.not_eq_false] at hc47 | rw [bI_0] at hc47 | rw [show (0 : Int32) = nI 0 from rfl, nI_eq (by omega) (by omega)] at hc47 | skip)
            refine v_iload_5 dX12_lover_58 ?_
            refine v_bipush (v := nI 6) dX12_lover_60 (by decide) ?_
            refine v_idiv dX12_lover_62 (by first | assumption | decide) ?_
            refine v_iret dX12_lover_63 rfl rfl rfl rfl ?_
            first
              | exact hQ.fin h2 (fun x hx => by rw [jx x hx]; simp only [ui_ne (show x ≠ 157 by omega)]) mx (by simp only [t_lover, hc10, em, eo, hin]; rfl) (by simp only [a_lover, hc10, em, eo, hin, ei]; rw [show i - 0 = i from rfl] at g4; rw [g4, nI_rem2 (by omega) (by omega), show (6 * y + x) % 6 = x by omega]; show _ = (if sec = true then nI x else nI y); rw [hc47]; rfl)
              | exact hQ.fin h2 (fun x hx => by rw [jx x hx]; simp only [ui_ne (show x ≠ 157 by omega)]) mx (by simp only [t_lover, hc10, em, eo, hin]; rfl) (by simp only [a_lover, hc10, em, eo, hin, ei]; rw [show i - 0 = i from rfl] at g4; rw [g4, nI_div2 (by omega) (by omega), show (6 * y + x) / 6 = y by omega]; show _ = (if sec = true then nI x else nI y); rw [hc47]; rfl)
          · (first | rw [bI_0, Bool.not_eq_false] at hc47 | rw [bI_0] at hc47 | rw [show (0 : Int32) = nI 0 from rfl, nI_eq (by omega) (by omega)] at hc47 | skip)
            refine v_iload_5 dX12_lover_50 ?_
            refine v_bipush (v := nI 6) dX12_lover_52 (by decide) ?_
            refine v_irem dX12_lover_54 (by first | assumption | decide) ?_
            refine v_goto (tgt := 63) dX12_lover_55 (by decide) ?_
            refine v_iret dX12_lover_63 rfl rfl rfl rfl ?_
            first
              | exact hQ.fin h2 (fun x hx => by rw [jx x hx]; simp only [ui_ne (show x ≠ 157 by omega)]) mx (by simp only [t_lover, hc10, em, eo, hin]; rfl) (by simp only [a_lover, hc10, em, eo, hin, ei]; rw [show i - 0 = i from rfl] at g4; rw [g4, nI_rem2 (by omega) (by omega), show (6 * y + x) % 6 = x by omega]; show _ = (if sec = true then nI x else nI y); rw [hc47]; rfl)
              | exact hQ.fin h2 (fun x hx => by rw [jx x hx]; simp only [ui_ne (show x ≠ 157 by omega)]) mx (by simp only [t_lover, hc10, em, eo, hin]; rfl) (by simp only [a_lover, hc10, em, eo, hin, ei]; rw [show i - 0 = i from rfl] at g4; rw [g4, nI_div2 (by omega) (by omega), show (6 * y + x) / 6 = y by omega]; show _ = (if sec = true then nI x else nI y); rw [hc47]; rfl)
        · exact absurd (nI_pos2 (by omega)) hc34
      · have hin : inb (nI i) (lcn F (S 0) m o) = false := by unfold inb; rw [decide_eq_false (fun w => absurd ((nI_ltI (by omega) (by omega)).mp w) (by omega))]; exact Bool.and_false _
        rw [g2]
        show VV _ _ _ _ _ _ _ _ _ _ [.int (nI (lcn F (S 0) m o) - nI 1000)] _ _ _
        refine v_istore_5 rfl dX12_lover_30 ?_
        refine v_iload_5 dX12_lover_32 ?_
        refine v_if_ge (tgt := 45) dX12_lover_34 (by decide) (fun hc34 => ?_) (fun hc34 => ?_)
        · exact absurd hc34 (nI_sub0 (by omega))
        · (first | rw [show (0 : Int32) = nI 0 from rfl, nI_ltI (by omega) (by omega)] at hc34 | rw [show (0 : Int32) = nI 0 from rfl, nI_leI (by omega) (by omega)] at hc34 | skip)
          refine v_aload_0 dX12_lover_37 ?_
          refine v_iconst (v := nI 1) dX12_lover_38 (by decide) ?_
          refine u_callV_1 dX12_lover_39 ml_X12_176 mv_X12_no (by first | assumption | rfl | exact led_1 (by assumption) | exact led_2 (by assumption) | exact bk_m (by assumption) (by first | assumption | omega) | exact bk_p (by assumption) (by first | assumption | omega) | exact bk_o (by assumption) (by first | assumption | omega) | exact bk_s (by assumption) (by first | assumption | omega) | exact bk_1 (by assumption) | exact bk_2 (by assumption) | exact bk_3 (by assumption) | exact bk_4 (by assumption) | exact bk_5 (by assumption) | exact bk_6 (by assumption) | exact bk_7 (by assumption) | exact bk_8 (by assumption) | exact sh_ring _ (by first | assumption | omega) | exact sh_imgs _ (by first | assumption | omega)) (by decide) rfl (by decide) (Nat.le_of_ble_eq_true rfl) (c_X12_no (k := 1) ?_)
          refine v_goto (tgt := 63) dX12_lover_42 (by decide) ?_
          refine v_iret dX12_lover_63 rfl rfl rfl rfl ?_
          exact hQ.fin (rf_tr h2 (by decide)) (fun x hx => by rw [ui_ne (show x ≠ 157 by omega), jx x hx]; simp only [ui_ne (show x ≠ 157 by omega)]) mx (by simp only [t_lover, hc10, em, eo, hin]; rfl) (by simp only [a_lover, hc10, em, eo, hin]; rfl)
    · (first | rw [show (0 : Int32) = nI 0 from rfl, nI_ltI (by omega) (by omega)] at hc14 | rw [show (0 : Int32) = nI 0 from rfl, nI_leI (by omega) (by omega)] at hc14 | skip)
      refine v_aload_0 dX12_lover_17 ?_
      refine v_iconst (v := nI 1) dX12_lover_18 (by decide) ?_
      refine u_callV_1 dX12_lover_19 ml_X12_176 mv_X12_no (by first | assumption | rfl | exact led_1 (by assumption) | exact led_2 (by assumption) | exact bk_m (by assumption) (by first | assumption | omega) | exact bk_p (by assumption) (by first | assumption | omega) | exact bk_o (by assumption) (by first | assumption | omega) | exact bk_s (by assumption) (by first | assumption | omega) | exact bk_1 (by assumption) | exact bk_2 (by assumption) | exact bk_3 (by assumption) | exact bk_4 (by assumption) | exact bk_5 (by assumption) | exact bk_6 (by assumption) | exact bk_7 (by assumption) | exact bk_8 (by assumption) | exact sh_ring _ (by first | assumption | omega) | exact sh_imgs _ (by first | assumption | omega)) (by decide) rfl (by decide) (Nat.le_of_ble_eq_true rfl) (c_X12_no (k := 1) ?_)
      refine v_iret dX12_lover_22 rfl rfl rfl rfl ?_
      first
        | exact hQ.fin (rf_tr h (by decide)) (fun x hx => by simp only [ui_ne (show x ≠ 157 by omega)]) (fun _ _ => rfl) (by simp only [t_lover, hc10]; rfl) (by simp only [a_lover, hc10]; rfl)
        | (have hi0 : ∀ n, inb z n = false := (fun n => by unfold inb; rw [decide_eq_false hc14]; rfl); exact hQ.fin (rf_tr h (by decide)) (fun x hx => by simp only [ui_ne (show x ≠ 157 by omega)]) (fun _ _ => rfl) (by simp only [t_lover, hc10, hi0]; rfl) (by simp only [a_lover, hc10, hi0]; rfl))
end
