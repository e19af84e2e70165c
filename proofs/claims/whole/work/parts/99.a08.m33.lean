theorem dX12_led_0 : decode cX12_led 0 = .ok (.iconst 0, 1) := by decide +kernel
theorem dX12_led_1 : decode cX12_led 1 = .ok (.istore_n 3, 1) := by decide +kernel
theorem dX12_led_2 : decode cX12_led 2 = .ok (.iconst 0, 1) := by decide +kernel
theorem dX12_led_3 : decode cX12_led 3 = .ok (.istore 4, 2) := by decide +kernel
theorem dX12_led_5 : decode cX12_led 5 = .ok (.aload_n 0, 1) := by decide +kernel
theorem dX12_led_6 : decode cX12_led 6 = .ok (.getfield 186, 3) := by decide +kernel
theorem dX12_led_9 : decode cX12_led 9 = .ok (.ifCond .eq 59, 3) := by decide +kernel
theorem dX12_led_12 : decode cX12_led 12 = .ok (.aload_n 0, 1) := by decide +kernel
theorem dX12_led_13 : decode cX12_led 13 = .ok (.iload_n 1, 1) := by decide +kernel
theorem dX12_led_14 : decode cX12_led 14 = .ok (.invokevirtual 313, 3) := by decide +kernel
theorem dX12_led_17 : decode cX12_led 17 = .ok (.ifCond .eq 51, 3) := by decide +kernel
theorem dX12_led_20 : decode cX12_led 20 = .ok (.iload 4, 2) := by decide +kernel
theorem dX12_led_22 : decode cX12_led 22 = .ok (.aload_n 0, 1) := by decide +kernel
theorem dX12_led_23 : decode cX12_led 23 = .ok (.getfield 20, 3) := by decide +kernel
theorem dX12_led_26 : decode cX12_led 26 = .ok (.iconst 2, 1) := by decide +kernel
theorem dX12_led_27 : decode cX12_led 27 = .ok (.iaload, 1) := by decide +kernel
theorem dX12_led_28 : decode cX12_led 28 = .ok (.if_icmp .ge 40, 3) := by decide +kernel
theorem dX12_led_31 : decode cX12_led 31 = .ok (.aload_n 0, 1) := by decide +kernel
theorem dX12_led_32 : decode cX12_led 32 = .ok (.iload 4, 2) := by decide +kernel
theorem dX12_led_34 : decode cX12_led 34 = .ok (.iload_n 1, 1) := by decide +kernel
theorem dX12_led_35 : decode cX12_led 35 = .ok (.invokevirtual 316, 3) := by decide +kernel
theorem dX12_led_38 : decode cX12_led 38 = .ok (.bipush (-2), 2) := by decide +kernel
theorem dX12_led_40 : decode cX12_led 40 = .ok (.if_icmp .eq 6, 3) := by decide +kernel
theorem dX12_led_43 : decode cX12_led 43 = .ok (.goto 19, 3) := by decide +kernel
theorem dX12_led_46 : decode cX12_led 46 = .ok (.iload_n 3, 1) := by decide +kernel
theorem dX12_led_47 : decode cX12_led 47 = .ok (.iload_n 2, 1) := by decide +kernel
theorem dX12_led_48 : decode cX12_led 48 = .ok (.if_icmp .ne 11, 3) := by decide +kernel
theorem dX12_led_51 : decode cX12_led 51 = .ok (.aload_n 0, 1) := by decide +kernel
theorem dX12_led_52 : decode cX12_led 52 = .ok (.iconst 0, 1) := by decide +kernel
theorem dX12_led_53 : decode cX12_led 53 = .ok (.putfield 54, 3) := by decide +kernel
theorem dX12_led_56 : decode cX12_led 56 = .ok (.iload 4, 2) := by decide +kernel
theorem dX12_led_58 : decode cX12_led 58 = .ok (.ireturn, 1) := by decide +kernel
theorem dX12_led_59 : decode cX12_led 59 = .ok (.iinc 3 1, 3) := by decide +kernel
theorem dX12_led_62 : decode cX12_led 62 = .ok (.iinc 4 1, 3) := by decide +kernel
theorem dX12_led_65 : decode cX12_led 65 = .ok (.goto (-60), 3) := by decide +kernel
theorem dX12_led_68 : decode cX12_led 68 = .ok (.aload_n 0, 1) := by decide +kernel
theorem dX12_led_69 : decode cX12_led 69 = .ok (.iconst 1, 1) := by decide +kernel
theorem dX12_led_70 : decode cX12_led 70 = .ok (.putfield 54, 3) := by decide +kernel
theorem dX12_led_73 : decode cX12_led 73 = .ok (.iconst 0, 1) := by decide +kernel
theorem dX12_led_74 : decode cX12_led 74 = .ok (.ireturn, 1) := by decide +kernel
/-- masks that are not lent on a day -/
def fre (s : LSt) (d m : Nat) : Bool := (fup (hitm s.2.1 m d d) 0 s.1).isNone
def lvS : Nat ⊕ Nat → Option Nat
  | .inl q => some q
  | .inr _ => none
/-- the z-th mask that is not lent on day x -/
def ledO (F : bkF) (s : LSt) (x z : Int32) : Option Nat := if ind x (F 0) = true then lvS (lvi (fre s (tN x)) z 0 (F 2) 0) else none
def ledT : Option Nat → Nat
  | some _ => 0
  | none => 1
def ledV : Option Nat → Int32
  | some q => nI q
  | none => nI 0
theorem eP_fre {F : bkF} {s : LSt} {d m : Nat} (hO : FOK F) (hK : LOK F s) : eP (lentP s.1 s.2.1 d m) = -2 ↔ fre s d m = true := by
  have h3 := hO.2.2.2.1
  unfold fre
  cases h : fup (hitm s.2.1 m d d) 0 s.1 with
  | none =>
    have e : lentP s.1 s.2.1 d m = none := by unfold lentP; rw [h]; rfl
    rw [e]
    exact ⟨fun _ => rfl, fun _ => rfl⟩
  | some i =>
    have e : lentP s.1 s.2.1 d m = some (s.2.1 i).2.1 := by unfold lentP; rw [h]; rfl
    have := lentP_lt hK.pers e
    rw [e]
    exact ⟨fun q => absurd q (nIm2 (by omega)), fun q => by cases q⟩
section
variable {b : Nat} {ad : Nat → Nat} {I J : HI} {L M : HL} {R : HR} {Q : QT} {tp : Nat → Nat} {nt tr fa pl : Nat} {F : bkF} {S : Nat → LSt} {u r : Nat} {im : Nat → LSt} {ic : Nat}
theorem r_led {x z : Int32} (hR : RO R) (h : RefB I tp nt tr fa pl F S u r im ic) (hQ : ∀ J : HI, RefB J tp nt tr fa pl F S u r im ic → J 157 0 = nI (ledT (ledO F (S 0) x z)) → (∀ c, c < 157 → J c = I c) → Q (some (.int (ledV (ledO F (S 0) x z)))) SH J L R) : KK 8 mX12_led b ad [.ref (b + 157), .int x, .int z] I L R Q := by
  have hO := h.2.2.1.1.2.2.1
  have o0 := hO.1
  have o1 := hO.2.1
  have o2 := hO.2.2.1
  have o3 := hO.2.2.2.1
  have o4 := hO.2.2.2.2.1
  have o5 := hO.2.2.2.2.2.1
  have o6 := hO.2.2.2.2.2.2.1
  have hK := h.2.2.1.2.2
  have hn20 := hK.1
  have hok : ∀ i, i < (S 0).1 → ok4 ((S 0).2.1 i) := fun i hi => (hK.2.1 i hi).1
  have hr := h.2.2.1
  have hF := hr.1.1.2
  have hQ0 : ledO F (S 0) x z = none → Q (some (.int (nI 0))) SH (ui I 157 0 (nI 1)) L R := fun e => by
    have q := hQ _ (rf_th (v := nI 1) h) (by rw [ui_s, e]; rfl) (fun x hx => ui_ne (by omega))
    rw [e] at q
    exact q
  by_cases hx : ind x (F 0) = true
  · obtain ⟨d, rfl, hd1, hd⟩ := ind_ex (by omega) hx
    have ed : tN (nI d) = d := tN_nI (by omega)
    have hb0 : decide (0 < F 0) = true := decide_eq_true (by omega)
    have loop : ∀ (j m c : Nat), m + j = F 2 → lvS (lvi (fre (S 0) d) z m j c) = ledO F (S 0) (nI d) z → VV yX12_led cX12_led 5 (some .int) 8 Q b ad 5 [some (.ref (b + 157)), some (.int (nI d)), some (.int z), some (.int (nI c)), some (.int (nI m))] [] I L R := by
      intro j
      induction j with
      | zero =>
        intro m c hm he
        refine v_aload_0 dX12_led_5 ?_
        refine u_getI dX12_led_6 gf_X12_186 (by first | assumption | rfl | exact led_1 (by assumption) | exact led_2 (by assumption) | exact bk_m (by assumption) (by first | assumption | omega) | exact bk_p (by assumption) (by first | assumption | omega) | exact bk_o (by assumption) (by first | assumption | omega) | exact bk_s (by assumption) (by first | assumption | omega) | exact bk_1 (by assumption) | exact bk_2 (by assumption) | exact bk_3 (by assumption) | exact bk_4 (by assumption) | exact bk_5 (by assumption) | exact bk_6 (by assumption) | exact bk_7 (by assumption) | exact bk_8 (by assumption) | exact sh_ring _ (by first | assumption | omega) | exact sh_imgs _ (by first | assumption | omega)) ?_
        rw [hr.1.2.1]
        refine v_if_eq (tgt := 68) dX12_led_9 (by decide) (fun hc9 => ?_) (fun hc9 => ?_)
        · (rw [hb0] at hc9; exact absurd hc9 (by decide))
        · (first | rw [bI_0, Bool.not_eq_false] at hc9 | rw [bI_0] at hc9 | rw [show (0 : Int32) = nI 0 from rfl, nI_eq (by omega) (by omega)] at hc9 | skip)
          refine v_aload_0 dX12_led_12 ?_
          refine v_iload_1 dX12_led_13 ?_
          refine u_callV_1 dX12_led_14 ml_X12_313 mv_X12_isDay (by first | assumption | rfl | exact led_1 (by assumption) | exact led_2 (by assumption) | exact bk_m (by assumption) (by first | assumption | omega) | exact bk_p (by assumption) (by first | assumption | omega) | exact bk_o (by assumption) (by first | assumption | omega) | exact bk_s (by assumption) (by first | assumption | omega) | exact bk_1 (by assumption) | exact bk_2 (by assumption) | exact bk_3 (by assumption) | exact bk_4 (by assumption) | exact bk_5 (by assumption) | exact bk_6 (by assumption) | exact bk_7 (by assumption) | exact bk_8 (by assumption) | exact sh_ring _ (by first | assumption | omega) | exact sh_imgs _ (by first | assumption | omega)) (by decide) rfl (by decide) (Nat.le_of_ble_eq_true rfl) (c_X12_isDay hR hr.1 ?_)
          refine v_if_eq (tgt := 68) dX12_led_17 (by decide) (fun hc17 => ?_) (fun hc17 => ?_)
          · (rw [hx] at hc17; exact absurd hc17 (by decide))
          · (first | rw [bI_0, Bool.not_eq_false] at hc17 | rw [bI_0] at hc17 | rw [show (0 : Int32) = nI 0 from rfl, nI_eq (by omega) (by omega)] at hc17 | skip)
            refine v_iload_4 dX12_led_20 ?_
            refine v_aload_0 dX12_led_22 ?_
            refine u_getR dX12_led_23 gf_X12_20 (by first | assumption | rfl | exact led_1 (by assumption) | exact led_2 (by assumption) | exact bk_m (by assumption) (by first | assumption | omega) | exact bk_p (by assumption) (by first | assumption | omega) | exact bk_o (by assumption) (by first | assumption | omega) | exact bk_s (by assumption) (by first | assumption | omega) | exact bk_1 (by assumption) | exact bk_2 (by assumption) | exact bk_3 (by assumption) | exact bk_4 (by assumption) | exact bk_5 (by assumption) | exact bk_6 (by assumption) | exact bk_7 (by assumption) | exact bk_8 (by assumption) | exact sh_ring _ (by first | assumption | omega) | exact sh_imgs _ (by first | assumption | omega)) (ro_X12_15 (by assumption)) ?_
            refine v_iconst (v := nI 2) dX12_led_26 (by decide) ?_
            refine u_iald dX12_led_27 (by first | assumption | rfl | exact led_1 (by assumption) | exact led_2 (by assumption) | exact bk_m (by assumption) (by first | assumption | omega) | exact bk_p (by assumption) (by first | assumption | omega) | exact bk_o (by assumption) (by first | assumption | omega) | exact bk_s (by assumption) (by first | assumption | omega) | exact bk_1 (by assumption) | exact bk_2 (by assumption) | exact bk_3 (by assumption) | exact bk_4 (by assumption) | exact bk_5 (by assumption) | exact bk_6 (by assumption) | exact bk_7 (by assumption) | exact bk_8 (by assumption) | exact sh_ring _ (by first | assumption | omega) | exact sh_imgs _ (by first | assumption | omega)) (by first | with_reducible rfl | (simp only [nlit, nI_add, pk_mul]; with_reducible rfl) | rfl) (by first | assumption | omega) (by first | assumption | decide) ?_
            rw [hF 2 (by decide)]
            refine v_icmp_ge (tgt := 68) dX12_led_28 (by decide) (fun hc28 => ?_) (fun hc28 => ?_)
            · (try rw [nI_leI (by omega) (by omega)] at hc28)
              refine v_aload_0 dX12_led_68 ?_
              refine v_iconst (v := nI 1) dX12_led_69 (by decide) ?_
              refine u_putI dX12_led_70 gf_X12_54 (by first | assumption | rfl | exact led_1 (by assumption) | exact led_2 (by assumption) | exact bk_m (by assumption) (by first | assumption | omega) | exact bk_p (by assumption) (by first | assumption | omega) | exact bk_o (by assumption) (by first | assumption | omega) | exact bk_s (by assumption) (by first | assumption | omega) | exact bk_1 (by assumption) | exact bk_2 (by assumption) | exact bk_3 (by assumption) | exact bk_4 (by assumption) | exact bk_5 (by assumption) | exact bk_6 (by assumption) | exact bk_7 (by assumption) | exact bk_8 (by assumption) | exact sh_ring _ (by first | assumption | omega) | exact sh_imgs _ (by first | assumption | omega)) rfl rfl rfl ?_
              refine v_iconst (v := nI 0) dX12_led_73 (by decide) ?_
              refine v_iret dX12_led_74 rfl rfl rfl rfl ?_
              exact hQ0 he.symm
            · exact absurd (nI_le (by omega) (by omega)) hc28
      | succ j ih =>
        intro m c hm he
        simp only [lvi] at he
        refine v_aload_0 dX12_led_5 ?_
        refine u_getI dX12_led_6 gf_X12_186 (by first | assumption | rfl | exact led_1 (by assumption) | exact led_2 (by assumption) | exact bk_m (by assumption) (by first | assumption | omega) | exact bk_p (by assumption) (by first | assumption | omega) | exact bk_o (by assumption) (by first | assumption | omega) | exact bk_s (by assumption) (by first | assumption | omega) | exact bk_1 (by assumption) | exact bk_2 (by assumption) | exact bk_3 (by assumption) | exact bk_4 (by assumption) | exact bk_5 (by assumption) | exact bk_6 (by assumption) | exact bk_7 (by assumption) | exact bk_8 (by assumption) | exact sh_ring _ (by first | assumption | omega) | exact sh_imgs _ (by first | assumption | omega)) ?_
        rw [hr.1.2.1]
        refine v_if_eq (tgt := 68) dX12_led_9 (by decide) (fun hc9 => ?_) (fun hc9 => ?_)
        · (rw [hb0] at hc9; exact absurd hc9 (by decide))
        · (first | rw [bI_0, Bool.not_eq_false] at hc9 | rw [bI_0] at hc9 | rw [show (0 : Int32) = nI 0 from rfl, nI_eq (by omega) (by omega)] at hc9 | skip)
          refine v_aload_0 dX12_led_12 ?_
          refine v_iload_1 dX12_led_13 ?_
          refine u_callV_1 dX12_led_14 ml_X12_313 mv_X12_isDay (by first | assumption | rfl | exact led_1 (by assumption) | exact led_2 (by assumption) | exact bk_m (by assumption) (by first | assumption | omega) | exact bk_p (by assumption) (by first | assumption | omega) | exact bk_o (by assumption) (by first | assumption | omega) | exact bk_s (by assumption) (by first | assumption | omega) | exact bk_1 (by assumption) | exact bk_2 (by assumption) | exact bk_3 (by assumption) | exact bk_4 (by assumption) | exact bk_5 (by assumption) | exact bk_6 (by assumption) | exact bk_7 (by assumption) | exact bk_8 (by assumption) | exact sh_ring _ (by first | assumption | omega) | exact sh_imgs _ (by first | assumption | omega)) (by decide) rfl (by decide) (Nat.le_of_ble_eq_true rfl) (c_X12_isDay hR hr.1 ?_)
          refine v_if_eq (tgt := 68) dX12_led_17 (by decide) (fun hc17 => ?_) (fun hc17 => ?_)
          · (rw [hx] at hc17; exact absurd hc17 (by decide))
          · (first | rw [bI_0, Bool.not_eq_false] at hc17 | rw [bI_0] at hc17 | rw [show (0 : Int32) = nI 0 from rfl, nI_eq (by omega) (by omega)] at hc17 | skip)
            refine v_iload_4 dX12_led_20 ?_
            refine v_aload_0 dX12_led_22 ?_
            refine u_getR dX12_led_23 gf_X12_20 (by first | assumption | rfl | exact led_1 (by assumption) | exact led_2 (by assumption) | exact bk_m (by assumption) (by first | assumption | omega) | exact bk_p (by assumption) (by first | assumption | omega) | exact bk_o (by assumption) (by first | assumption | omega) | exact bk_s (by assumption) (by first | assumption | omega) | exact bk_1 (by assumption) | exact bk_2 (by assumption) | exact bk_3 (by assumption) | exact bk_4 (by assumption) | exact bk_5 (by assumption) | exact bk_6 (by assumption) | exact bk_7 (by assumption) | exact bk_8 (by assumption) | exact sh_ring _ (by first | assumption | omega) | exact sh_imgs _ (by first | assumption | omega)) (ro_X12_15 (by assumption)) ?_
            refine v_iconst (v := nI 2) dX12_led_26 (by decide) ?_
            refine u_iald dX12_led_27 (by first | assumption | rfl | exact led_1 (by assumption) | exact led_2 (by assumption) | exact bk_m (by assumption) (by first | assumption | omega) | exact bk_p (by assumption) (by first | assumption | omega) | exact bk_o (by assumption) (by first | assumption | omega) | exact bk_s (by assumption) (by first | assumption | omega) | exact bk_1 (by assumption) | exact bk_2 (by assumption) | exact bk_3 (by assumption) | exact bk_4 (by assumption) | exact bk_5 (by assumption) | exact bk_6 (by assumption) | exact bk_7 (by assumption) | exact bk_8 (by assumption) | exact sh_ring _ (by first | assumption | omega) | exact sh_imgs _ (by first | assumption | omega)) (by first | with_reducible rfl | (simp only [nlit, nI_add, pk_mul]; with_reducible rfl) | rfl) (by first | assumption | omega) (by first | assumption | decide) ?_
            rw [hF 2 (by decide)]
            refine v_icmp_ge (tgt := 68) dX12_led_28 (by decide) (fun hc28 => ?_) (fun hc28 => ?_)
            · exact absurd hc28 (nI_ge (by omega) (by omega))
            · (try rw [nI_leI (by omega) (by omega)] at hc28)
              refine v_aload_0 dX12_led_31 ?_
              refine v_iload_4 dX12_led_32 ?_
              refine v_iload_1 dX12_led_34 ?_
              refine u_callV_2 dX12_led_35 ml_X12_316 mv_X12_wearerOf (by first | assumption | rfl | exact led_1 (by assumption) | exact led_2 (by assumption) | exact bk_m (by assumption) (by first | assumption | omega) | exact bk_p (by assumption) (by first | assumption | omega) | exact bk_o (by assumption) (by first | assumption | omega) | exact bk_s (by assumption) (by first | assumption | omega) | exact bk_1 (by assumption) | exact bk_2 (by assumption) | exact bk_3 (by assumption) | exact bk_4 (by assumption) | exact bk_5 (by assumption) | exact bk_6 (by assumption) | exact bk_7 (by assumption) | exact bk_8 (by assumption) | exact sh_ring _ (by first | assumption | omega) | exact sh_imgs _ (by first | assumption | omega)) (by decide) rfl (by decide) (Nat.le_of_ble_eq_true rfl) (c_X12_wearerOf hR hr (by omega) (by omega) ?_)
              refine v_bipush (v := -2) dX12_led_38 (by decide) ?_
              refine v_icmp_eq (tgt := 46) dX12_led_40 (by decide) (fun hc40 => ?_) (fun hc40 => ?_)
              · skip
                refine v_iload_3 dX12_led_46 ?_
                refine v_iload_2 dX12_led_47 ?_
                refine v_icmp_ne (tgt := 59) dX12_led_48 (by decide) (fun hc48 => ?_) (fun hc48 => ?_)
                · skip
                  refine v_iinc_3 (v := 1) rfl dX12_led_59 (by decide) ?_
                  rw [show nI c + 1 = nI (c + 1) from nI_1 c]
                  refine v_iinc_4 (v := 1) rfl dX12_led_62 (by decide) ?_
                  rw [show nI m + 1 = nI (m + 1) from nI_1 m]
                  refine v_goto (tgt := 5) dX12_led_65 (by decide) ?_
                  first
                    | (rw [show fre (S 0) d m = true from (eP_fre hO hK).mp hc40, if_pos rfl, if_neg hc48] at he; exact ih (m + 1) (c + 1) (by omega) he)
                    | (rw [show fre (S 0) d m = false by (cases w : fre (S 0) d m; rfl; exact absurd ((eP_fre hO hK).mpr w) hc40), if_neg (by decide)] at he; exact ih (m + 1) c (by omega) he)
                · skip
                  refine v_aload_0 dX12_led_51 ?_
                  refine v_iconst (v := nI 0) dX12_led_52 (by decide) ?_
                  refine u_putI dX12_led_53 gf_X12_54 (by first | assumption | rfl | exact led_1 (by assumption) | exact led_2 (by assumption) | exact bk_m (by assumption) (by first | assumption | omega) | exact bk_p (by assumption) (by first | assumption | omega) | exact bk_o (by assumption) (by first | assumption | omega) | exact bk_s (by assumption) (by first | assumption | omega) | exact bk_1 (by assumption) | exact bk_2 (by assumption) | exact bk_3 (by assumption) | exact bk_4 (by assumption) | exact bk_5 (by assumption) | exact bk_6 (by assumption) | exact bk_7 (by assumption) | exact bk_8 (by assumption) | exact sh_ring _ (by first | assumption | omega) | exact sh_imgs _ (by first | assumption | omega)) rfl rfl rfl ?_
                  refine v_iload_4 dX12_led_56 ?_
                  refine v_iret dX12_led_58 rfl rfl rfl rfl ?_
                  rw [show fre (S 0) d m = true from (eP_fre hO hK).mp hc40, if_pos rfl, if_pos hc48] at he
                  have q := hQ _ (rf_th (v := nI 0) h) (by rw [ui_s, ← he]; rfl) (fun x hx => ui_ne (by omega))
                  rw [← he] at q
                  exact q
              · skip
                refine v_goto (tgt := 62) dX12_led_43 (by decide) ?_
                refine v_iinc_4 (v := 1) rfl dX12_led_62 (by decide) ?_
                rw [show nI m + 1 = nI (m + 1) from nI_1 m]
                refine v_goto (tgt := 5) dX12_led_65 (by decide) ?_
                first
                  | (rw [show fre (S 0) d m = true from (eP_fre hO hK).mp hc40, if_pos rfl, if_neg hc48] at he; exact ih (m + 1) (c + 1) (by omega) he)
                  | (rw [show fre (S 0) d m = false by (cases w : fre (S 0) d m; rfl; exact absurd ((eP_fre hO hK).mpr w) hc40), if_neg (by decide)] at he; exact ih (m + 1) c (by omega) he)
    refine K.of (M := mX12_led) (lv := [some (.ref (b + 157)), some (.int (nI d)), some (.int z), none, none]) (by decide) (Nat.le_of_ble_eq_true rfl) rfl ?_
    refine v_iconst (v := nI 0) dX12_led_0 (by decide) ?_
    refine v_istore_3 rfl dX12_led_1 ?_
    refine v_iconst (v := nI 0) dX12_led_2 (by decide) ?_
    refine v_istore_4 rfl dX12_led_3 ?_
    exact loop (F 2) 0 0 (by omega) (by unfold ledO; rw [if_pos hx, ed])
  · have e0 : ledO F (S 0) x z = none := by unfold ledO; rw [if_neg hx]
    refine K.of (M := mX12_led) (lv := [some (.ref (b + 157)), some (.int x), some (.int z), none, none]) (by decide) (Nat.le_of_ble_eq_true rfl) rfl ?_
    refine v_iconst (v := nI 0) dX12_led_0 (by decide) ?_
    refine v_istore_3 rfl dX12_led_1 ?_
    refine v_iconst (v := nI 0) dX12_led_2 (by decide) ?_
    refine v_istore_4 rfl dX12_led_3 ?_
    refine v_aload_0 dX12_led_5 ?_
    refine u_getI dX12_led_6 gf_X12_186 (by first | assumption | rfl | exact led_1 (by assumption) | exact led_2 (by assumption) | exact bk_m (by assumption) (by first | assumption | omega) | exact bk_p (by assumption) (by first | assumption | omega) | exact bk_o (by assumption) (by first | assumption | omega) | exact bk_s (by assumption) (by first | assumption | omega) | exact bk_1 (by assumption) | exact bk_2 (by assumption) | exact bk_3 (by assumption) | exact bk_4 (by assumption) | exact bk_5 (by assumption) | exact bk_6 (by assumption) | exact bk_7 (by assumption) | exact bk_8 (by assumption) | exact sh_ring _ (by first | assumption | omega) | exact sh_imgs _ (by first | assumption | omega)) ?_
    rw [hr.1.2.1]
    refine v_if_eq (tgt := 68) dX12_led_9 (by decide) (fun hc9 => ?_) (fun hc9 => ?_)
    · (first | rw [bI_0, Bool.not_eq_false] at hc9 | rw [bI_0] at hc9 | rw [show (0 : Int32) = nI 0 from rfl, nI_eq (by omega) (by omega)] at hc9 | skip)
      refine v_aload_0 dX12_led_68 ?_
      refine v_iconst (v := nI 1) dX12_led_69 (by decide) ?_
      refine u_putI dX12_led_70 gf_X12_54 (by first | assumption | rfl | exact led_1 (by assumption) | exact led_2 (by assumption) | exact bk_m (by assumption) (by first | assumption | omega) | exact bk_p (by assumption) (by first | assumption | omega) | exact bk_o (by assumption) (by first | assumption | omega) | exact bk_s (by assumption) (by first | assumption | omega) | exact bk_1 (by assumption) | exact bk_2 (by assumption) | exact bk_3 (by assumption) | exact bk_4 (by assumption) | exact bk_5 (by assumption) | exact bk_6 (by assumption) | exact bk_7 (by assumption) | exact bk_8 (by assumption) | exact sh_ring _ (by first | assumption | omega) | exact sh_imgs _ (by first | assumption | omega)) rfl rfl rfl ?_
      refine v_iconst (v := nI 0) dX12_led_73 (by decide) ?_
      refine v_iret dX12_led_74 rfl rfl rfl rfl ?_
      exact hQ0 e0
    · (first | rw [bI_0, Bool.not_eq_false] at hc9 | rw [bI_0] at hc9 | rw [show (0 : Int32) = nI 0 from rfl, nI_eq (by omega) (by omega)] at hc9 | skip)
      refine v_aload_0 dX12_led_12 ?_
      refine v_iload_1 dX12_led_13 ?_
      refine u_callV_1 dX12_led_14 ml_X12_313 mv_X12_isDay (by first | assumption | rfl | exact led_1 (by assumption) | exact led_2 (by assumption) | exact bk_m (by assumption) (by first | assumption | omega) | exact bk_p (by assumption) (by first | assumption | omega) | exact bk_o (by assumption) (by first | assumption | omega) | exact bk_s (by assumption) (by first | assumption | omega) | exact bk_1 (by assumption) | exact bk_2 (by assumption) | exact bk_3 (by assumption) | exact bk_4 (by assumption) | exact bk_5 (by assumption) | exact bk_6 (by assumption) | exact bk_7 (by assumption) | exact bk_8 (by assumption) | exact sh_ring _ (by first | assumption | omega) | exact sh_imgs _ (by first | assumption | omega)) (by decide) rfl (by decide) (Nat.le_of_ble_eq_true rfl) (c_X12_isDay hR hr.1 ?_)
      refine v_if_eq (tgt := 68) dX12_led_17 (by decide) (fun hc17 => ?_) (fun hc17 => ?_)
      · (first | rw [bI_0, Bool.not_eq_false] at hc17 | rw [bI_0] at hc17 | rw [show (0 : Int32) = nI 0 from rfl, nI_eq (by omega) (by omega)] at hc17 | skip)
        refine v_aload_0 dX12_led_68 ?_
        refine v_iconst (v := nI 1) dX12_led_69 (by decide) ?_
        refine u_putI dX12_led_70 gf_X12_54 (by first | assumption | rfl | exact led_1 (by assumption) | exact led_2 (by assumption) | exact bk_m (by assumption) (by first | assumption | omega) | exact bk_p (by assumption) (by first | assumption | omega) | exact bk_o (by assumption) (by first | assumption | omega) | exact bk_s (by assumption) (by first | assumption | omega) | exact bk_1 (by assumption) | exact bk_2 (by assumption) | exact bk_3 (by assumption) | exact bk_4 (by assumption) | exact bk_5 (by assumption) | exact bk_6 (by assumption) | exact bk_7 (by assumption) | exact bk_8 (by assumption) | exact sh_ring _ (by first | assumption | omega) | exact sh_imgs _ (by first | assumption | omega)) rfl rfl rfl ?_
        refine v_iconst (v := nI 0) dX12_led_73 (by decide) ?_
        refine v_iret dX12_led_74 rfl rfl rfl rfl ?_
        exact hQ0 e0
      · cases w : ind x (F 0) with | false => exact absurd (by rw [w]; rfl) hc17 | true => exact absurd w hx
end
