theorem dX12_common_0 : decode cX12_common 0 = .ok (.lload_n 0, 1) := by decide +kernel
theorem dX12_common_1 : decode cX12_common 1 = .ok (.lstore 4, 2) := by decide +kernel
theorem dX12_common_3 : decode cX12_common 3 = .ok (.lload_n 2, 1) := by decide +kernel
theorem dX12_common_4 : decode cX12_common 4 = .ok (.lstore 6, 2) := by decide +kernel
theorem dX12_common_6 : decode cX12_common 6 = .ok (.lload 6, 2) := by decide +kernel
theorem dX12_common_8 : decode cX12_common 8 = .ok (.lconst 0, 1) := by decide +kernel
theorem dX12_common_9 : decode cX12_common 9 = .ok (.lcmp, 1) := by decide +kernel
theorem dX12_common_10 : decode cX12_common 10 = .ok (.ifCond .eq 21, 3) := by decide +kernel
theorem dX12_common_13 : decode cX12_common 13 = .ok (.lload 4, 2) := by decide +kernel
theorem dX12_common_15 : decode cX12_common 15 = .ok (.lload 6, 2) := by decide +kernel
theorem dX12_common_17 : decode cX12_common 17 = .ok (.lrem, 1) := by decide +kernel
theorem dX12_common_18 : decode cX12_common 18 = .ok (.lstore 8, 2) := by decide +kernel
theorem dX12_common_20 : decode cX12_common 20 = .ok (.lload 6, 2) := by decide +kernel
theorem dX12_common_22 : decode cX12_common 22 = .ok (.lstore 4, 2) := by decide +kernel
theorem dX12_common_24 : decode cX12_common 24 = .ok (.lload 8, 2) := by decide +kernel
theorem dX12_common_26 : decode cX12_common 26 = .ok (.lstore 6, 2) := by decide +kernel
theorem dX12_common_28 : decode cX12_common 28 = .ok (.goto (-22), 3) := by decide +kernel
theorem dX12_common_31 : decode cX12_common 31 = .ok (.lload 4, 2) := by decide +kernel
theorem dX12_common_33 : decode cX12_common 33 = .ok (.lreturn, 1) := by decide +kernel
theorem dX12_odds_0 : decode cX12_odds 0 = .ok (.aload_n 0, 1) := by decide +kernel
theorem dX12_odds_1 : decode cX12_odds 1 = .ok (.invokevirtual 173, 3) := by decide +kernel
theorem dX12_odds_4 : decode cX12_odds 4 = .ok (.aload_n 0, 1) := by decide +kernel
theorem dX12_odds_5 : decode cX12_odds 5 = .ok (.iload_n 2, 1) := by decide +kernel
theorem dX12_odds_6 : decode cX12_odds 6 = .ok (.invokevirtual 307, 3) := by decide +kernel
theorem dX12_odds_9 : decode cX12_odds 9 = .ok (.ifCond .eq 11, 3) := by decide +kernel
theorem dX12_odds_12 : decode cX12_odds 12 = .ok (.aload_n 0, 1) := by decide +kernel
theorem dX12_odds_13 : decode cX12_odds 13 = .ok (.iload_n 3, 1) := by decide +kernel
theorem dX12_odds_14 : decode cX12_odds 14 = .ok (.invokevirtual 310, 3) := by decide +kernel
theorem dX12_odds_17 : decode cX12_odds 17 = .ok (.ifCond .ne 9, 3) := by decide +kernel
theorem dX12_odds_20 : decode cX12_odds 20 = .ok (.aload_n 0, 1) := by decide +kernel
theorem dX12_odds_21 : decode cX12_odds 21 = .ok (.iconst 1, 1) := by decide +kernel
theorem dX12_odds_22 : decode cX12_odds 22 = .ok (.invokevirtual 176, 3) := by decide +kernel
theorem dX12_odds_25 : decode cX12_odds 25 = .ok (.ireturn, 1) := by decide +kernel
theorem dX12_odds_26 : decode cX12_odds 26 = .ok (.aload_n 0, 1) := by decide +kernel
theorem dX12_odds_27 : decode cX12_odds 27 = .ok (.iload_n 1, 1) := by decide +kernel
theorem dX12_odds_28 : decode cX12_odds 28 = .ok (.invokevirtual 313, 3) := by decide +kernel
theorem dX12_odds_31 : decode cX12_odds 31 = .ok (.ifCond .ne 9, 3) := by decide +kernel
theorem dX12_odds_34 : decode cX12_odds 34 = .ok (.aload_n 0, 1) := by decide +kernel
theorem dX12_odds_35 : decode cX12_odds 35 = .ok (.iconst 2, 1) := by decide +kernel
theorem dX12_odds_36 : decode cX12_odds 36 = .ok (.invokevirtual 176, 3) := by decide +kernel
theorem dX12_odds_39 : decode cX12_odds 39 = .ok (.ireturn, 1) := by decide +kernel
theorem dX12_odds_40 : decode cX12_odds 40 = .ok (.aload_n 0, 1) := by decide +kernel
theorem dX12_odds_41 : decode cX12_odds 41 = .ok (.iload_n 1, 1) := by decide +kernel
theorem dX12_odds_42 : decode cX12_odds 42 = .ok (.invokevirtual 403, 3) := by decide +kernel
theorem dX12_odds_45 : decode cX12_odds 45 = .ok (.istore 5, 2) := by decide +kernel
theorem dX12_odds_47 : decode cX12_odds 47 = .ok (.aload_n 0, 1) := by decide +kernel
theorem dX12_odds_48 : decode cX12_odds 48 = .ok (.iload_n 1, 1) := by decide +kernel
theorem dX12_odds_49 : decode cX12_odds 49 = .ok (.iload 5, 2) := by decide +kernel
theorem dX12_odds_51 : decode cX12_odds 51 = .ok (.invokevirtual 396, 3) := by decide +kernel
theorem dX12_odds_54 : decode cX12_odds 54 = .ok (.lstore 6, 2) := by decide +kernel
theorem dX12_odds_56 : decode cX12_odds 56 = .ok (.lload 6, 2) := by decide +kernel
theorem dX12_odds_58 : decode cX12_odds 58 = .ok (.lconst 0, 1) := by decide +kernel
theorem dX12_odds_59 : decode cX12_odds 59 = .ok (.lcmp, 1) := by decide +kernel
theorem dX12_odds_60 : decode cX12_odds 60 = .ok (.ifCond .ne 10, 3) := by decide +kernel
theorem dX12_odds_63 : decode cX12_odds 63 = .ok (.aload_n 0, 1) := by decide +kernel
theorem dX12_odds_64 : decode cX12_odds 64 = .ok (.bipush 6, 2) := by decide +kernel
theorem dX12_odds_66 : decode cX12_odds 66 = .ok (.invokevirtual 176, 3) := by decide +kernel
theorem dX12_odds_69 : decode cX12_odds 69 = .ok (.ireturn, 1) := by decide +kernel
theorem dX12_odds_70 : decode cX12_odds 70 = .ok (.aload_n 0, 1) := by decide +kernel
theorem dX12_odds_71 : decode cX12_odds 71 = .ok (.iload_n 2, 1) := by decide +kernel
theorem dX12_odds_72 : decode cX12_odds 72 = .ok (.putfield 365, 3) := by decide +kernel
theorem dX12_odds_75 : decode cX12_odds 75 = .ok (.aload_n 0, 1) := by decide +kernel
theorem dX12_odds_76 : decode cX12_odds 76 = .ok (.iload_n 3, 1) := by decide +kernel
theorem dX12_odds_77 : decode cX12_odds 77 = .ok (.putfield 368, 3) := by decide +kernel
theorem dX12_odds_80 : decode cX12_odds 80 = .ok (.aload_n 0, 1) := by decide +kernel
theorem dX12_odds_81 : decode cX12_odds 81 = .ok (.iload_n 1, 1) := by decide +kernel
theorem dX12_odds_82 : decode cX12_odds 82 = .ok (.iload 5, 2) := by decide +kernel
theorem dX12_odds_84 : decode cX12_odds 84 = .ok (.invokevirtual 396, 3) := by decide +kernel
theorem dX12_odds_87 : decode cX12_odds 87 = .ok (.lstore 8, 2) := by decide +kernel
theorem dX12_odds_89 : decode cX12_odds 89 = .ok (.aload_n 0, 1) := by decide +kernel
theorem dX12_odds_90 : decode cX12_odds 90 = .ok (.invokevirtual 384, 3) := by decide +kernel
theorem dX12_odds_93 : decode cX12_odds 93 = .ok (.lload 8, 2) := by decide +kernel
theorem dX12_odds_95 : decode cX12_odds 95 = .ok (.lload 6, 2) := by decide +kernel
theorem dX12_odds_97 : decode cX12_odds 97 = .ok (.invokestatic 406, 3) := by decide +kernel
theorem dX12_odds_100 : decode cX12_odds 100 = .ok (.lstore 10, 2) := by decide +kernel
theorem dX12_odds_102 : decode cX12_odds 102 = .ok (.iload 4, 2) := by decide +kernel
theorem dX12_odds_104 : decode cX12_odds 104 = .ok (.ifCond .eq 8, 3) := by decide +kernel
theorem dX12_odds_107 : decode cX12_odds 107 = .ok (.lload 6, 2) := by decide +kernel
theorem dX12_odds_109 : decode cX12_odds 109 = .ok (.goto 5, 3) := by decide +kernel
theorem dX12_odds_112 : decode cX12_odds 112 = .ok (.lload 8, 2) := by decide +kernel
theorem dX12_odds_114 : decode cX12_odds 114 = .ok (.lload 10, 2) := by decide +kernel
theorem dX12_odds_116 : decode cX12_odds 116 = .ok (.ldiv, 1) := by decide +kernel
theorem dX12_odds_117 : decode cX12_odds 117 = .ok (.l2i, 1) := by decide +kernel
theorem dX12_odds_118 : decode cX12_odds 118 = .ok (.ireturn, 1) := by decide +kernel
theorem lN_int {n : Nat} (h : n < 2 ^ 62) : (lN n).toInt = n := by show (Int64.ofNat n).toInt = n; exact Int64.toInt_ofNat_of_lt (by omega)
theorem lN_n0 {n : Nat} (h : n < 2 ^ 31) (h0 : n ≠ 0) : ¬ lN n = 0 := fun q => by
  have := congrArg Int64.toInt q
  rw [lN_int (by omega)] at this
  have e : (0 : Int64).toInt = 0 := rfl
  omega
theorem lN_div {a c : Nat} (ha : a < 2 ^ 31) (hc : c < 2 ^ 31) : lN a / lN c = lN (a / c) := by
  have hd := Nat.div_le_self a c
  apply Int64.toInt_inj.mp
  rw [Int64.toInt_div, lN_int (by omega), lN_int (by omega), lN_int (by omega), ← Int.ofNat_tdiv]
  generalize a / c = q at hd ⊢
  exact Int.bmod_eq_of_le (by omega) (by omega)
theorem lN_rem {a c : Nat} (ha : a < 2 ^ 31) (hc : c < 2 ^ 31) : lN a - lN a / lN c * lN c = lN (a % c) := by
  have e : a = a % c + a / c * c := by rw [Nat.mul_comm]; exact (Nat.mod_add_div a c).symm
  rw [lN_div ha hc]
  have e2 : lN (a / c) * lN c = lN (a / c * c) := (Int64.ofNat_mul _ _).symm
  rw [e2]
  have e3 : lN a = lN (a % c) + lN (a / c * c) := by rw [lN_add, ← e]
  rw [e3, Int64.add_sub_cancel]
section
variable {b : Nat} {ad : Nat → Nat} {I J : HI} {L M : HL} {R : HR} {Q : QT} {F : bkF} {s : LSt} {a o : Nat}
theorem c_X12_common {p q : Nat} (hp : p < 2 ^ 31) (hq : q < 2 ^ 31) (hQ : Q (some (.long (lN (Nat.gcd p q)))) SH I L R) : KK 0 mX12_common b ad [.long (lN p), .long (lN q)] I L R Q := by
  have loop : ∀ (n x y : Nat) (w : Option Value), y < n → x < 2 ^ 31 → y < 2 ^ 31 → Nat.gcd x y = Nat.gcd p q → VV yX12_common cX12_common 10 (some .long) 0 Q b ad 6 [some (.long (lN p)), none, some (.long (lN q)), none, some (.long (lN x)), none, some (.long (lN y)), none, w, none] [] I L R := by
    intro n
    induction n with
    | zero => intro x y w h; omega
    | succ n ih =>
      intro x y w hn hx hy he
      by_cases h0 : y = 0
      · subst h0
        rw [Nat.gcd_zero_right] at he
        rw [← he] at hQ
        refine v_lload_6 dX12_common_6 ?_
        refine v_lconst (v := 0) dX12_common_8 (by decide) ?_
        refine v_lcmp dX12_common_9 ?_
        refine v_if_eq (tgt := 31) dX12_common_10 (by decide) (fun hc10 => ?_) (fun hc10 => ?_)
        · (first | rw [bI_0, Bool.not_eq_false] at hc10 | rw [bI_0] at hc10 | rw [show (0 : Int32) = nI 0 from rfl, nI_eq (by omega) (by omega)] at hc10 | skip)
          refine v_lload_4 dX12_common_31 ?_
          refine v_lret dX12_common_33 rfl rfl rfl rfl ?_
          exact hQ
        · exact absurd (lg_cmp1 rfl) hc10
      · have hy0 := lN_n0 hy h0
        have hm := Nat.mod_lt x (Nat.pos_of_ne_zero h0)
        refine v_lload_6 dX12_common_6 ?_
        refine v_lconst (v := 0) dX12_common_8 (by decide) ?_
        refine v_lcmp dX12_common_9 ?_
        refine v_if_eq (tgt := 31) dX12_common_10 (by decide) (fun hc10 => ?_) (fun hc10 => ?_)
        · exact absurd (lg_cmp0 hc10) hy0
        · (first | rw [bI_0, Bool.not_eq_false] at hc10 | rw [bI_0] at hc10 | rw [show (0 : Int32) = nI 0 from rfl, nI_eq (by omega) (by omega)] at hc10 | skip)
          refine v_lload_4 dX12_common_13 ?_
          refine v_lload_6 dX12_common_15 ?_
          refine v_lrem dX12_common_17 (by first | assumption | decide) ?_
          rw [lN_rem hx hy]
          refine v_lstore_8 rfl dX12_common_18 ?_
          refine v_lload_6 dX12_common_20 ?_
          refine v_lstore_4 rfl dX12_common_22 ?_
          refine v_lload_8 dX12_common_24 ?_
          refine v_lstore_6 rfl dX12_common_26 ?_
          refine v_goto (tgt := 6) dX12_common_28 (by decide) ?_
          exact ih y (x % y) _ (by omega) hy (by omega) (by rw [← he, Nat.gcd_comm y, ← Nat.gcd_rec, Nat.gcd_comm])
  refine K.of (M := mX12_common) (lv := [some (.long (lN p)), none, some (.long (lN q)), none, none, none, none, none, none, none]) (by decide) (Nat.le_of_ble_eq_true rfl) rfl ?_
  refine v_lload_0 dX12_common_0 ?_
  refine v_lstore_4 rfl dX12_common_1 ?_
  refine v_lload_2 dX12_common_3 ?_
  refine v_lstore_6 rfl dX12_common_4 ?_
  exact loop (q + 1) p q _ (by omega) hp hq rfl
end
section
variable {b : Nat} {ad : Nat → Nat} {I J : HI} {L M : HL} {R : HR} {Q : QT} {tp : Nat → Nat} {nt tr fa pl : Nat} {F : bkF} {S : Nat → LSt} {u r : Nat} {im : Nat → LSt} {ic : Nat}
theorem r_odds {x : Int32} {y : Int32} {z : Int32} {lo : Bool} (hR : RO R) (h : RefB I tp nt tr fa pl F S u r im ic) (hQ : YQ I L R tp nt (t_odds F (S 0) x y z lo) fa pl F S u r im ic (a_odds F (S 0) x y z lo) Q) : KK 8 mX12_odds b ad [.ref (b + 157), .int x, .int y, .int z, .int (bI lo)] I L R Q := by
  have hO := h.2.2.1.1.2.2.1
  have o0 := hO.1
  have o1 := hO.2.1
  have o2 := hO.2.2.1
  have o3 := hO.2.2.2.1
  have o4 := hO.2.2.2.2.1
  have o5 := hO.2.2.2.2.2.1
  have o6 := hO.2.2.2.2.2.2.1
  have hK := h.2.2.1.2.2
  have hn20 := hK.1
  have hok : ∀ i, i < (S 0).1 → ok4 ((S 0).2.1 i) := fun i hi => (hK.2.1 i hi).1
  refine K.of (M := mX12_odds) (lv := [some (.ref (b + 157)), some (.int x), some (.int y), some (.int z), some (.int (bI lo)), none, none, none, none, none, none, none]) (by decide) (Nat.le_of_ble_eq_true rfl) rfl ?_
  refine v_aload_0 dX12_odds_0 ?_
  refine u_callV_0 dX12_odds_1 ml_X12_173 mv_X12_good (by first | assumption | rfl | exact led_1 (by assumption) | exact led_2 (by assumption) | exact bk_m (by assumption) (by first | assumption | omega) | exact bk_p (by assumption) (by first | assumption | omega) | exact bk_o (by assumption) (by first | assumption | omega) | exact bk_s (by assumption) (by first | assumption | omega) | exact bk_1 (by assumption) | exact bk_2 (by assumption) | exact bk_3 (by assumption) | exact bk_4 (by assumption) | exact bk_5 (by assumption) | exact bk_6 (by assumption) | exact bk_7 (by assumption) | exact bk_8 (by assumption) | exact sh_ring _ (by first | assumption | omega) | exact sh_imgs _ (by first | assumption | omega)) (by decide) rfl (by decide) (Nat.le_of_ble_eq_true rfl) (c_X12_good ?_)
  have h := rf_good h
  have hr : RfI _ F (S 0) := h.2.2.1
  have hS := hr.2.1
  refine v_aload_0 dX12_odds_4 ?_
  refine v_iload_2 dX12_odds_5 ?_
  refine u_callV_1 dX12_odds_6 ml_X12_307 mv_X12_isMask (by first | assumption | rfl | exact led_1 (by assumption) | exact led_2 (by assumption) | exact bk_m (by assumption) (by first | assumption | omega) | exact bk_p (by assumption) (by first | assumption | omega) | exact bk_o (by assumption) (by first | assumption | omega) | exact bk_s (by assumption) (by first | assumption | omega) | exact bk_1 (by assumption) | exact bk_2 (by assumption) | exact bk_3 (by assumption) | exact bk_4 (by assumption) | exact bk_5 (by assumption) | exact bk_6 (by assumption) | exact bk_7 (by assumption) | exact bk_8 (by assumption) | exact sh_ring _ (by first | assumption | omega) | exact sh_imgs _ (by first | assumption | omega)) (by decide) rfl (by decide) (Nat.le_of_ble_eq_true rfl) (c_X12_isMask hR hr.1 ?_)
  refine v_if_eq (tgt := 20) dX12_odds_9 (by decide) (fun hc9 => ?_) (fun hc9 => ?_)
  · (first | rw [bI_0, Bool.not_eq_false] at hc9 | rw [bI_0] at hc9 | rw [show (0 : Int32) = nI 0 from rfl, nI_eq (by omega) (by omega)] at hc9 | skip)
    refine v_aload_0 dX12_odds_20 ?_
    refine v_iconst (v := nI 1) dX12_odds_21 (by decide) ?_
    refine u_callV_1 dX12_odds_22 ml_X12_176 mv_X12_no (by first | assumption | rfl | exact led_1 (by assumption) | exact led_2 (by assumption) | exact bk_m (by assumption) (by first | assumption | omega) | exact bk_p (by assumption) (by first | assumption | omega) | exact bk_o (by assumption) (by first | assumption | omega) | exact bk_s (by assumption) (by first | assumption | omega) | exact bk_1 (by assumption) | exact bk_2 (by assumption) | exact bk_3 (by assumption) | exact bk_4 (by assumption) | exact bk_5 (by assumption) | exact bk_6 (by assumption) | exact bk_7 (by assumption) | exact bk_8 (by assumption) | exact sh_ring _ (by first | assumption | omega) | exact sh_imgs _ (by first | assumption | omega)) (by decide) rfl (by decide) (Nat.le_of_ble_eq_true rfl) (c_X12_no (k := 1) ?_)
    refine v_iret dX12_odds_25 rfl rfl rfl rfl ?_
    exact hQ.fin (rf_tr h (by decide)) (fun x hx => by simp only [ui_ne (show x ≠ 157 by omega)]) (fun _ _ => rfl) (by first | simp [t_odds, trc, hc9, hc17] | simp [t_odds, trc, hc9]) (by first | simp [a_odds, hc9, hc17] | simp [a_odds, hc9])
  · (first | rw [bI_0, Bool.not_eq_false] at hc9 | rw [bI_0] at hc9 | rw [show (0 : Int32) = nI 0 from rfl, nI_eq (by omega) (by omega)] at hc9 | skip)
    refine v_aload_0 dX12_odds_12 ?_
    refine v_iload_3 dX12_odds_13 ?_
    refine u_callV_1 dX12_odds_14 ml_X12_310 mv_X12_isPerson (by first | assumption | rfl | exact led_1 (by assumption) | exact led_2 (by assumption) | exact bk_m (by assumption) (by first | assumption | omega) | exact bk_p (by assumption) (by first | assumption | omega) | exact bk_o (by assumption) (by first | assumption | omega) | exact bk_s (by assumption) (by first | assumption | omega) | exact bk_1 (by assumption) | exact bk_2 (by assumption) | exact bk_3 (by assumption) | exact bk_4 (by assumption) | exact bk_5 (by assumption) | exact bk_6 (by assumption) | exact bk_7 (by assumption) | exact bk_8 (by assumption) | exact sh_ring _ (by first | assumption | omega) | exact sh_imgs _ (by first | assumption | omega)) (by decide) rfl (by decide) (Nat.le_of_ble_eq_true rfl) (c_X12_isPerson hR hr.1 ?_)
    refine v_if_ne (tgt := 26) dX12_odds_17 (by decide) (fun hc17 => ?_) (fun hc17 => ?_)
    · (first | rw [bI_0, Bool.not_eq_false] at hc17 | rw [bI_0] at hc17 | rw [show (0 : Int32) = nI 0 from rfl, nI_eq (by omega) (by omega)] at hc17 | skip)
      refine v_aload_0 dX12_odds_26 ?_
      refine v_iload_1 dX12_odds_27 ?_
      refine u_callV_1 dX12_odds_28 ml_X12_313 mv_X12_isDay (by first | assumption | rfl | exact led_1 (by assumption) | exact led_2 (by assumption) | exact bk_m (by assumption) (by first | assumption | omega) | exact bk_p (by assumption) (by first | assumption | omega) | exact bk_o (by assumption) (by first | assumption | omega) | exact bk_s (by assumption) (by first | assumption | omega) | exact bk_1 (by assumption) | exact bk_2 (by assumption) | exact bk_3 (by assumption) | exact bk_4 (by assumption) | exact bk_5 (by assumption) | exact bk_6 (by assumption) | exact bk_7 (by assumption) | exact bk_8 (by assumption) | exact sh_ring _ (by first | assumption | omega) | exact sh_imgs _ (by first | assumption | omega)) (by decide) rfl (by decide) (Nat.le_of_ble_eq_true rfl) (c_X12_isDay hR hr.1 ?_)
      refine v_if_ne (tgt := 40) dX12_odds_31 (by decide) (fun hc31 => ?_) (fun hc31 => ?_)
      · (first | rw [bI_0, Bool.not_eq_false] at hc31 | rw [bI_0] at hc31 | rw [show (0 : Int32) = nI 0 from rfl, nI_eq (by omega) (by omega)] at hc31 | skip)
        obtain ⟨m, rfl, hm⟩ := inb_ex (by omega) hc9
        have em : tN (nI m) = m := tN_nI (by omega)
        obtain ⟨p, rfl, hp⟩ := inb_ex (by omega) hc17
        have ep : tN (nI p) = p := tN_nI (by omega)
        obtain ⟨d, rfl, hd1, hd⟩ := ind_ex (by omega) hc31
        have ed : tN (nI d) = d := tN_nI (by omega)
        have hcc : ((inb (nI m) (F 2) && inb (nI p) (F 3)) && ind (nI d) (F 0)) = true := by rw [hc9, hc17, hc31]; rfl
        have ha := allT_pos (s := S 0) hO hK d
        have ha31 : allT F (S 0) d < 2 ^ 31 := wys_lt o3 o2
        have hw := wys_one (s := S 0) (d := d) hm hp
        have hw31 : alw F (pgT F (S 0) d) (cdT F (S 0) d) m p < 2 ^ 31 := by rw [← hw]; exact wys_lt o3 o2
        have hg := Nat.gcd_pos_of_pos_right (alw F (pgT F (S 0) d) (cdT F (S 0) d) m p) ha
        have hg2 := Nat.gcd_le_right (n := allT F (S 0) d) (alw F (pgT F (S 0) d) (cdT F (S 0) d) m p) ha
        have hg0 := lN_n0 (n := Nat.gcd (alw F (pgT F (S 0) d) (cdT F (S 0) d) m p) (allT F (S 0) d)) (by omega) (by omega)
        have ewt : wys (F 3) (Gt F (S 0) d (tru F (S 0) d) none none) (Ct F (S 0) d (tru F (S 0) d) none none) (F 2) 0 0 = allT F (S 0) d := wys_tell _ _ _
        refine v_aload_0 dX12_odds_40 ?_
        refine v_iload_1 dX12_odds_41 ?_
        refine u_callV_1 dX12_odds_42 ml_X12_403 mv_X12_trueOf (by first | assumption | rfl | exact led_1 (by assumption) | exact led_2 (by assumption) | exact bk_m (by assumption) (by first | assumption | omega) | exact bk_p (by assumption) (by first | assumption | omega) | exact bk_o (by assumption) (by first | assumption | omega) | exact bk_s (by assumption) (by first | assumption | omega) | exact bk_1 (by assumption) | exact bk_2 (by assumption) | exact bk_3 (by assumption) | exact bk_4 (by assumption) | exact bk_5 (by assumption) | exact bk_6 (by assumption) | exact bk_7 (by assumption) | exact bk_8 (by assumption) | exact sh_ring _ (by first | assumption | omega) | exact sh_imgs _ (by first | assumption | omega)) (by decide) rfl (by decide) (Nat.le_of_ble_eq_true rfl) (c_X12_trueOf (s := S 0) hR hr (by omega) (fun M1 k1 => ?_))
        refine v_istore_5 rfl dX12_odds_45 ?_
        refine v_aload_0 dX12_odds_47 ?_
        refine v_iload_1 dX12_odds_48 ?_
        refine v_iload_5 dX12_odds_49 ?_
        refine u_callV_2 dX12_odds_51 ml_X12_396 mv_X12_countWearers (by first | assumption | rfl | exact led_1 (by assumption) | exact led_2 (by assumption) | exact bk_m (by assumption) (by first | assumption | omega) | exact bk_p (by assumption) (by first | assumption | omega) | exact bk_o (by assumption) (by first | assumption | omega) | exact bk_s (by assumption) (by first | assumption | omega) | exact bk_1 (by assumption) | exact bk_2 (by assumption) | exact bk_3 (by assumption) | exact bk_4 (by assumption) | exact bk_5 (by assumption) | exact bk_6 (by assumption) | exact bk_7 (by assumption) | exact bk_8 (by assumption) | exact sh_ring _ (by first | assumption | omega) | exact sh_imgs _ (by first | assumption | omega)) (by decide) rfl (by decide) (Nat.le_of_ble_eq_true rfl) (c_X12_countWearers (s := S 0) (t1 := none) (t2 := none) hR (rfi_nt hr) (by omega) (tru_ok hO).1 (tru_ok hO).2 tl_nt.1 tl_nt.2 (fun M2 k2 => ?_))
        rw [ewt]
        refine v_lstore_6 rfl dX12_odds_54 ?_
        refine v_lload_6 dX12_odds_56 ?_
        refine v_lconst (v := 0) dX12_odds_58 (by decide) ?_
        refine v_lcmp dX12_odds_59 ?_
        refine v_if_ne (tgt := 70) dX12_odds_60 (by decide) (fun hc60 => ?_) (fun hc60 => ?_)
        · (first | rw [bI_0, Bool.not_eq_false] at hc60 | rw [bI_0] at hc60 | rw [show (0 : Int32) = nI 0 from rfl, nI_eq (by omega) (by omega)] at hc60 | skip)
          refine v_aload_0 dX12_odds_70 ?_
          refine v_iload_2 dX12_odds_71 ?_
          refine u_putI dX12_odds_72 gf_X12_365 (by first | assumption | rfl | exact led_1 (by assumption) | exact led_2 (by assumption) | exact bk_m (by assumption) (by first | assumption | omega) | exact bk_p (by assumption) (by first | assumption | omega) | exact bk_o (by assumption) (by first | assumption | omega) | exact bk_s (by assumption) (by first | assumption | omega) | exact bk_1 (by assumption) | exact bk_2 (by assumption) | exact bk_3 (by assumption) | exact bk_4 (by assumption) | exact bk_5 (by assumption) | exact bk_6 (by assumption) | exact bk_7 (by assumption) | exact bk_8 (by assumption) | exact sh_ring _ (by first | assumption | omega) | exact sh_imgs _ (by first | assumption | omega)) rfl rfl rfl ?_
          refine v_aload_0 dX12_odds_75 ?_
          refine v_iload_3 dX12_odds_76 ?_
          refine u_putI dX12_odds_77 gf_X12_368 (by first | assumption | rfl | exact led_1 (by assumption) | exact led_2 (by assumption) | exact bk_m (by assumption) (by first | assumption | omega) | exact bk_p (by assumption) (by first | assumption | omega) | exact bk_o (by assumption) (by first | assumption | omega) | exact bk_s (by assumption) (by first | assumption | omega) | exact bk_1 (by assumption) | exact bk_2 (by assumption) | exact bk_3 (by assumption) | exact bk_4 (by assumption) | exact bk_5 (by assumption) | exact bk_6 (by assumption) | exact bk_7 (by assumption) | exact bk_8 (by assumption) | exact sh_ring _ (by first | assumption | omega) | exact sh_imgs _ (by first | assumption | omega)) rfl rfl rfl ?_
          have ht1 : TlI (ui (ui (ui (ui (ui (ui I 157 0 (nI 0)) 157 11 (nI 0)) 157 28 (-1)) 157 30 (-1)) 157 28 (nI m)) 157 29 (nI p)) 28 (some (m, some p)) := ⟨by rw [ui_o (by decide), ui_s], ui_s _ _ _ _, by omega, fun q e => by cases e; omega⟩
          have ht2 : TlI (ui (ui (ui (ui (ui (ui I 157 0 (nI 0)) 157 11 (nI 0)) 157 28 (-1)) 157 30 (-1)) 157 28 (nI m)) 157 29 (nI p)) 30 none := by show _ = _; rw [ui_o (by decide), ui_o (by decide), ui_s]
          have h2 := rf_k (k := 29) (v := nI p) (rf_k (k := 28) (v := nI m) (rf_nt (v := -1) (w := -1) h) (by decide)) (by decide)
          refine v_aload_0 dX12_odds_80 ?_
          refine v_iload_1 dX12_odds_81 ?_
          refine v_iload_5 dX12_odds_82 ?_
          refine u_callV_2 dX12_odds_84 ml_X12_396 mv_X12_countWearers (by first | assumption | rfl | exact led_1 (by assumption) | exact led_2 (by assumption) | exact bk_m (by assumption) (by first | assumption | omega) | exact bk_p (by assumption) (by first | assumption | omega) | exact bk_o (by assumption) (by first | assumption | omega) | exact bk_s (by assumption) (by first | assumption | omega) | exact bk_1 (by assumption) | exact bk_2 (by assumption) | exact bk_3 (by assumption) | exact bk_4 (by assumption) | exact bk_5 (by assumption) | exact bk_6 (by assumption) | exact bk_7 (by assumption) | exact bk_8 (by assumption) | exact sh_ring _ (by first | assumption | omega) | exact sh_imgs _ (by first | assumption | omega)) (by decide) rfl (by decide) (Nat.le_of_ble_eq_true rfl) (c_X12_countWearers (s := S 0) (t1 := some (m, some p)) (t2 := none) hR h2.2.2.1 (by omega) (tru_ok hO).1 (tru_ok hO).2 ht1 ht2 (fun M3 k3 => ?_))
          rw [hw]
          refine v_lstore_8 rfl dX12_odds_87 ?_
          refine v_aload_0 dX12_odds_89 ?_
          refine u_callV_0 dX12_odds_90 ml_X12_384 mv_X12_tellNone (by first | assumption | rfl | exact led_1 (by assumption) | exact led_2 (by assumption) | exact bk_m (by assumption) (by first | assumption | omega) | exact bk_p (by assumption) (by first | assumption | omega) | exact bk_o (by assumption) (by first | assumption | omega) | exact bk_s (by assumption) (by first | assumption | omega) | exact bk_1 (by assumption) | exact bk_2 (by assumption) | exact bk_3 (by assumption) | exact bk_4 (by assumption) | exact bk_5 (by assumption) | exact bk_6 (by assumption) | exact bk_7 (by assumption) | exact bk_8 (by assumption) | exact sh_ring _ (by first | assumption | omega) | exact sh_imgs _ (by first | assumption | omega)) (by decide) rfl (by decide) (Nat.le_of_ble_eq_true rfl) (c_X12_tellNone ?_)
          refine v_lload_8 dX12_odds_93 ?_
          refine v_lload_6 dX12_odds_95 ?_
          refine u_callS_2 dX12_odds_97 ml_X12_406 ms_X12_common (by decide) (Nat.le_of_ble_eq_true rfl) (c_X12_common hw31 ha31 ?_)
          refine v_lstore_10 rfl dX12_odds_100 ?_
          refine v_iload_4 dX12_odds_102 ?_
          refine v_if_eq (tgt := 112) dX12_odds_104 (by decide) (fun hc104 => ?_) (fun hc104 => ?_)
          · (first | rw [bI_0, Bool.not_eq_false] at hc104 | rw [bI_0] at hc104 | rw [show (0 : Int32) = nI 0 from rfl, nI_eq (by omega) (by omega)] at hc104 | skip)
            refine v_lload_8 dX12_odds_112 ?_
            refine v_lload_10 dX12_odds_114 ?_
            refine v_ldiv dX12_odds_116 (by first | assumption | decide) ?_
            refine v_l2i dX12_odds_117 ?_
            refine v_iret dX12_odds_118 rfl rfl rfl rfl ?_
            first
              | (rw [lN_div (by assumption) (by omega)]; exact hQ.fin (rf_nt h2) (fun x hx => by simp only [ui_ne (show x ≠ 157 by omega)]) (fun x q => by rw [k3 x q, k2 x q]; exact k1 x q) (by rw [t_odds, hc9, hc17, hc31]; rfl) (by rw [a_odds, if_pos hcc, em, ep, ed, Nat.gcd_comm, l2i_n (Nat.lt_of_le_of_lt (Nat.div_le_self _ _) (by assumption))]; rw [hc104]; rfl))
          · (first | rw [bI_0, Bool.not_eq_false] at hc104 | rw [bI_0] at hc104 | rw [show (0 : Int32) = nI 0 from rfl, nI_eq (by omega) (by omega)] at hc104 | skip)
            refine v_lload_6 dX12_odds_107 ?_
            refine v_goto (tgt := 114) dX12_odds_109 (by decide) ?_
            refine v_lload_10 dX12_odds_114 ?_
            refine v_ldiv dX12_odds_116 (by first | assumption | decide) ?_
            refine v_l2i dX12_odds_117 ?_
            refine v_iret dX12_odds_118 rfl rfl rfl rfl ?_
            first
              | (rw [lN_div (by assumption) (by omega)]; exact hQ.fin (rf_nt h2) (fun x hx => by simp only [ui_ne (show x ≠ 157 by omega)]) (fun x q => by rw [k3 x q, k2 x q]; exact k1 x q) (by rw [t_odds, hc9, hc17, hc31]; rfl) (by rw [a_odds, if_pos hcc, em, ep, ed, Nat.gcd_comm, l2i_n (Nat.lt_of_le_of_lt (Nat.div_le_self _ _) (by assumption))]; rw [hc104]; rfl))
        · exact absurd (lg_cmp0 hc60) (lN_n0 ha31 (by omega))
      · (first | rw [bI_0, Bool.not_eq_false] at hc31 | rw [bI_0] at hc31 | rw [show (0 : Int32) = nI 0 from rfl, nI_eq (by omega) (by omega)] at hc31 | skip)
        refine v_aload_0 dX12_odds_34 ?_
        refine v_iconst (v := nI 2) dX12_odds_35 (by decide) ?_
        refine u_callV_1 dX12_odds_36 ml_X12_176 mv_X12_no (by first | assumption | rfl | exact led_1 (by assumption) | exact led_2 (by assumption) | exact bk_m (by assumption) (by first | assumption | omega) | exact bk_p (by assumption) (by first | assumption | omega) | exact bk_o (by assumption) (by first | assumption | omega) | exact bk_s (by assumption) (by first | assumption | omega) | exact bk_1 (by assumption) | exact bk_2 (by assumption) | exact bk_3 (by assumption) | exact bk_4 (by assumption) | exact bk_5 (by assumption) | exact bk_6 (by assumption) | exact bk_7 (by assumption) | exact bk_8 (by assumption) | exact sh_ring _ (by first | assumption | omega) | exact sh_imgs _ (by first | assumption | omega)) (by decide) rfl (by decide) (Nat.le_of_ble_eq_true rfl) (c_X12_no (k := 2) ?_)
        refine v_iret dX12_odds_39 rfl rfl rfl rfl ?_
        exact hQ.fin (rf_tr h (by decide)) (fun x hx => by simp only [ui_ne (show x ≠ 157 by omega)]) (fun _ _ => rfl) (by rw [t_odds, hc9, hc17, hc31]; rfl) (by rw [a_odds, hc9, hc17, hc31]; rfl)
    · (first | rw [bI_0, Bool.not_eq_false] at hc17 | rw [bI_0] at hc17 | rw [show (0 : Int32) = nI 0 from rfl, nI_eq (by omega) (by omega)] at hc17 | skip)
      refine v_aload_0 dX12_odds_20 ?_
      refine v_iconst (v := nI 1) dX12_odds_21 (by decide) ?_
      refine u_callV_1 dX12_odds_22 ml_X12_176 mv_X12_no (by first | assumption | rfl | exact led_1 (by assumption) | exact led_2 (by assumption) | exact bk_m (by assumption) (by first | assumption | omega) | exact bk_p (by assumption) (by first | assumption | omega) | exact bk_o (by assumption) (by first | assumption | omega) | exact bk_s (by assumption) (by first | assumption | omega) | exact bk_1 (by assumption) | exact bk_2 (by assumption) | exact bk_3 (by assumption) | exact bk_4 (by assumption) | exact bk_5 (by assumption) | exact bk_6 (by assumption) | exact bk_7 (by assumption) | exact bk_8 (by assumption) | exact sh_ring _ (by first | assumption | omega) | exact sh_imgs _ (by first | assumption | omega)) (by decide) rfl (by decide) (Nat.le_of_ble_eq_true rfl) (c_X12_no (k := 1) ?_)
      refine v_iret dX12_odds_25 rfl rfl rfl rfl ?_
      exact hQ.fin (rf_tr h (by decide)) (fun x hx => by simp only [ui_ne (show x ≠ 157 by omega)]) (fun _ _ => rfl) (by first | simp [t_odds, trc, hc9, hc17] | simp [t_odds, trc, hc9]) (by first | simp [a_odds, hc9, hc17] | simp [a_odds, hc9])
end
