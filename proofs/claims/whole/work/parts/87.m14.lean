theorem dX12_feed_0 : decode cX12_feed 0 = .ok (.aload_n 0, 1) := by decide +kernel
theorem dX12_feed_1 : decode cX12_feed 1 = .ok (.iconst 0, 1) := by decide +kernel
theorem dX12_feed_2 : decode cX12_feed 2 = .ok (.putfield 54, 3) := by decide +kernel
theorem dX12_feed_5 : decode cX12_feed 5 = .ok (.aload_n 0, 1) := by decide +kernel
theorem dX12_feed_6 : decode cX12_feed 6 = .ok (.getfield 60, 3) := by decide +kernel
theorem dX12_feed_9 : decode cX12_feed 9 = .ok (.bipush 20, 2) := by decide +kernel
theorem dX12_feed_11 : decode cX12_feed 11 = .ok (.iadd, 1) := by decide +kernel
theorem dX12_feed_12 : decode cX12_feed 12 = .ok (.sipush 900, 3) := by decide +kernel
theorem dX12_feed_15 : decode cX12_feed 15 = .ok (.if_icmp .le 5, 3) := by decide +kernel
theorem dX12_feed_18 : decode cX12_feed 18 = .ok (.iconst (-1), 1) := by decide +kernel
theorem dX12_feed_19 : decode cX12_feed 19 = .ok (.ireturn, 1) := by decide +kernel
theorem dX12_feed_20 : decode cX12_feed 20 = .ok (.iconst 0, 1) := by decide +kernel
theorem dX12_feed_21 : decode cX12_feed 21 = .ok (.istore 6, 2) := by decide +kernel
theorem dX12_feed_23 : decode cX12_feed 23 = .ok (.iload 6, 2) := by decide +kernel
theorem dX12_feed_25 : decode cX12_feed 25 = .ok (.bipush 20, 2) := by decide +kernel
theorem dX12_feed_27 : decode cX12_feed 27 = .ok (.if_icmp .ge 93, 3) := by decide +kernel
theorem dX12_feed_30 : decode cX12_feed 30 = .ok (.iload 6, 2) := by decide +kernel
theorem dX12_feed_32 : decode cX12_feed 32 = .ok (.iconst 4, 1) := by decide +kernel
theorem dX12_feed_33 : decode cX12_feed 33 = .ok (.if_icmp .ge 7, 3) := by decide +kernel
theorem dX12_feed_36 : decode cX12_feed 36 = .ok (.iload_n 1, 1) := by decide +kernel
theorem dX12_feed_37 : decode cX12_feed 37 = .ok (.goto 39, 3) := by decide +kernel
theorem dX12_feed_40 : decode cX12_feed 40 = .ok (.iload 6, 2) := by decide +kernel
theorem dX12_feed_42 : decode cX12_feed 42 = .ok (.bipush 8, 2) := by decide +kernel
theorem dX12_feed_44 : decode cX12_feed 44 = .ok (.if_icmp .ge 7, 3) := by decide +kernel
theorem dX12_feed_47 : decode cX12_feed 47 = .ok (.iload_n 2, 1) := by decide +kernel
theorem dX12_feed_48 : decode cX12_feed 48 = .ok (.goto 28, 3) := by decide +kernel
theorem dX12_feed_51 : decode cX12_feed 51 = .ok (.iload 6, 2) := by decide +kernel
theorem dX12_feed_53 : decode cX12_feed 53 = .ok (.bipush 12, 2) := by decide +kernel
theorem dX12_feed_55 : decode cX12_feed 55 = .ok (.if_icmp .ge 7, 3) := by decide +kernel
theorem dX12_feed_58 : decode cX12_feed 58 = .ok (.iload_n 3, 1) := by decide +kernel
theorem dX12_feed_59 : decode cX12_feed 59 = .ok (.goto 17, 3) := by decide +kernel
theorem dX12_feed_62 : decode cX12_feed 62 = .ok (.iload 6, 2) := by decide +kernel
theorem dX12_feed_64 : decode cX12_feed 64 = .ok (.bipush 16, 2) := by decide +kernel
theorem dX12_feed_66 : decode cX12_feed 66 = .ok (.if_icmp .ge 8, 3) := by decide +kernel
theorem dX12_feed_69 : decode cX12_feed 69 = .ok (.iload 4, 2) := by decide +kernel
theorem dX12_feed_71 : decode cX12_feed 71 = .ok (.goto 5, 3) := by decide +kernel
theorem dX12_feed_74 : decode cX12_feed 74 = .ok (.iload 5, 2) := by decide +kernel
theorem dX12_feed_76 : decode cX12_feed 76 = .ok (.istore 7, 2) := by decide +kernel
theorem dX12_feed_78 : decode cX12_feed 78 = .ok (.aload_n 0, 1) := by decide +kernel
theorem dX12_feed_79 : decode cX12_feed 79 = .ok (.getfield 7, 3) := by decide +kernel
theorem dX12_feed_82 : decode cX12_feed 82 = .ok (.aload_n 0, 1) := by decide +kernel
theorem dX12_feed_83 : decode cX12_feed 83 = .ok (.getfield 60, 3) := by decide +kernel
theorem dX12_feed_86 : decode cX12_feed 86 = .ok (.iload 7, 2) := by decide +kernel
theorem dX12_feed_88 : decode cX12_feed 88 = .ok (.bipush 24, 2) := by decide +kernel
theorem dX12_feed_90 : decode cX12_feed 90 = .ok (.bipush 8, 2) := by decide +kernel
theorem dX12_feed_92 : decode cX12_feed 92 = .ok (.iload 6, 2) := by decide +kernel
theorem dX12_feed_94 : decode cX12_feed 94 = .ok (.iconst 4, 1) := by decide +kernel
theorem dX12_feed_95 : decode cX12_feed 95 = .ok (.irem, 1) := by decide +kernel
theorem dX12_feed_96 : decode cX12_feed 96 = .ok (.imul, 1) := by decide +kernel
theorem dX12_feed_97 : decode cX12_feed 97 = .ok (.isub, 1) := by decide +kernel
theorem dX12_feed_98 : decode cX12_feed 98 = .ok (.ishr, 1) := by decide +kernel
theorem dX12_feed_99 : decode cX12_feed 99 = .ok (.sipush 255, 3) := by decide +kernel
theorem dX12_feed_102 : decode cX12_feed 102 = .ok (.iand, 1) := by decide +kernel
theorem dX12_feed_103 : decode cX12_feed 103 = .ok (.iastore, 1) := by decide +kernel
theorem dX12_feed_104 : decode cX12_feed 104 = .ok (.aload_n 0, 1) := by decide +kernel
theorem dX12_feed_105 : decode cX12_feed 105 = .ok (.dup, 1) := by decide +kernel
theorem dX12_feed_106 : decode cX12_feed 106 = .ok (.getfield 60, 3) := by decide +kernel
theorem dX12_feed_109 : decode cX12_feed 109 = .ok (.iconst 1, 1) := by decide +kernel
theorem dX12_feed_110 : decode cX12_feed 110 = .ok (.iadd, 1) := by decide +kernel
theorem dX12_feed_111 : decode cX12_feed 111 = .ok (.putfield 60, 3) := by decide +kernel
theorem dX12_feed_114 : decode cX12_feed 114 = .ok (.iinc 6 1, 3) := by decide +kernel
theorem dX12_feed_117 : decode cX12_feed 117 = .ok (.goto (-94), 3) := by decide +kernel
theorem dX12_feed_120 : decode cX12_feed 120 = .ok (.aload_n 0, 1) := by decide +kernel
theorem dX12_feed_121 : decode cX12_feed 121 = .ok (.getfield 60, 3) := by decide +kernel
theorem dX12_feed_124 : decode cX12_feed 124 = .ok (.ireturn, 1) := by decide +kernel
theorem sh_bv (x z : Int32) (n : Nat) (h : (z.toBitVec.smod 32).toNat = n) : (x >>> z).toBitVec = x.toBitVec.sshiftRight n := by
  rw [Int32.toBitVec_shiftRight, BitVec.sshiftRight', h]
theorem sbt {x : Int32} {k : Nat} (hk : k < 4) : (x >>> (nI (24 - 8 * k) &&& 31)) &&& nI 255 = nI (bN x k) := by
  have h : ((nI (24 - 8 * k) &&& 31).toBitVec.smod 32).toNat = 24 - 8 * k := by
    match k, hk with
    | 0, _ => decide
    | 1, _ => decide
    | 2, _ => decide
    | 3, _ => decide
  apply Int32.toBitVec_inj.1
  rw [Int32.toBitVec_and, sh_bv _ _ _ h]
  apply BitVec.eq_of_getLsbD_eq
  intro i hi
  rw [BitVec.getLsbD_and, BitVec.getLsbD_sshiftRight]
  show (_ && (BitVec.ofNat 32 255).getLsbD i) = (BitVec.ofNat 32 (bN x k)).getLsbD i
  rw [BitVec.getLsbD_ofNat, BitVec.getLsbD_ofNat, show (255 : Nat) = 2 ^ 8 - 1 from rfl, Nat.testBit_two_pow_sub_one]
  unfold bN
  rw [show (256 : Nat) = 2 ^ 8 from rfl, Nat.testBit_mod_two_pow, Nat.testBit_div_two_pow]
  by_cases c : i < 8
  · simp only [c, hi, decide_true, Bool.true_and, Bool.and_true, show ¬ 32 ≤ i by omega, decide_false, Bool.not_false, show 24 - 8 * k + i < 32 by omega, if_true]
    rw [BitVec.getLsbD, Nat.add_comm]
  · simp only [c, decide_false, Bool.and_false, Bool.false_and]
theorem feedT_lo {tp : Nat → Nat} {nt i : Nat} {a c d e f : Int32} (h : i < nt) : feedT tp nt a c d e f i = tp i := by
  unfold feedT putT
  rw [if_neg (by omega), if_neg (by omega), if_neg (by omega), if_neg (by omega), if_neg (by omega)]
theorem feedT_lt {tp : Nat → Nat} {nt i : Nat} {a c d e f : Int32} (h1 : nt ≤ i) (h2 : i < nt + 20) : feedT tp nt a c d e f i < 256 := by
  unfold feedT putT
  split
  · exact bN_lt _ _
  · split
    · exact bN_lt _ _
    · split
      · exact bN_lt _ _
      · split
        · exact bN_lt _ _
        · split
          · exact bN_lt _ _
          · omega
section
variable {b : Nat} {ad : Nat → Nat} {I J : HI} {L M : HL} {R : HR} {Q : QT} {tp : Nat → Nat} {nt tr fa pl : Nat} {F : bkF} {S : Nat → LSt} {u r : Nat} {im : Nat → LSt} {ic : Nat}
theorem r_feed {x0 x1 x2 x3 x4 : Int32} (hR : RO R) (h : RefB I tp nt tr fa pl F S u r im ic) (hQ0 : ¬ nt + 20 ≤ 900 → YQ I L R tp nt tr fa pl F S u r im ic (-1) Q) (hQ1 : nt + 20 ≤ 900 → YQ I L R (feedT tp nt x0 x1 x2 x3 x4) (nt + 20) tr fa pl F S u r im ic (nI (nt + 20)) Q) : KK 8 mX12_feed b ad [.ref (b + 157), .int x0, .int x1, .int x2, .int x3, .int x4] I L R Q := by
  have h1 := rf_th (v := nI 0) h
  have hnt := h.1.2.1
  have loop : nt + 20 ≤ 900 → ∀ (j i : Nat) (J : HI) (w : Option Value), i + j = 20 → J 157 2 = nI (nt + i) → (∀ k, k ≠ 2 → J 157 k = ui I 157 0 (nI 0) 157 k) → (∀ k, J 158 k = if nt ≤ k ∧ k < nt + i then nI (feedT tp nt x0 x1 x2 x3 x4 k) else I 158 k) → (∀ x, x ≠ 157 → x ≠ 158 → J x = I x) → VV yX12_feed cX12_feed 8 (some .int) 8 Q b ad 23 [some (.ref (b + 157)), some (.int x0), some (.int x1), some (.int x2), some (.int x3), some (.int x4), some (.int (nI i)), w] [] J L R := by
    intro h9 j
    induction j with
    | zero =>
      intro i J w hi j2 jo jt jx
      have hi : i = 20 := hi
      subst hi
      refine v_iload_6 dX12_feed_23 ?_
      refine v_bipush (v := nI 20) dX12_feed_25 (by decide) ?_
      refine v_icmp_ge (tgt := 120) dX12_feed_27 (by decide) (fun hc27 => ?_) (fun hc27 => ?_)
      · (try rw [nI_leI (by omega) (by omega)] at hc27)
        refine v_aload_0 dX12_feed_120 ?_
        refine u_getI dX12_feed_121 gf_X12_60 (by first | assumption | rfl | exact led_1 (by assumption) | exact led_2 (by assumption) | exact bk_m (by assumption) (by first | assumption | omega) | exact bk_p (by assumption) (by first | assumption | omega) | exact bk_o (by assumption) (by first | assumption | omega) | exact bk_s (by assumption) (by first | assumption | omega) | exact bk_1 (by assumption) | exact bk_2 (by assumption) | exact bk_3 (by assumption) | exact bk_4 (by assumption) | exact bk_5 (by assumption) | exact bk_6 (by assumption) | exact bk_7 (by assumption) | exact bk_8 (by assumption) | exact sh_ring _ (by first | assumption | omega) | exact sh_imgs _ (by first | assumption | omega)) ?_
        rw [j2]
        refine v_iret dX12_feed_124 rfl rfl rfl rfl ?_
        obtain ⟨⟨a1, a2, a3⟩, ⟨b1, b2, b3, b4⟩, c, ⟨d1, d2, d3, d4, d5⟩, ⟨e1, e2, e3⟩, f⟩ := h
        have hB : RefB J (feedT tp nt x0 x1 x2 x3 x4) (nt + 20) tr fa pl F S u r im ic := by
          have g : ∀ k, k ≠ 2 → k ≠ 0 → J 157 k = I 157 k := fun k q1 q2 => by rw [jo k q1, ui_o q2]
          refine ⟨⟨j2, h9, fun i hi => ?_⟩, ⟨by rw [g 11 (by decide) (by decide)]; exact b1, by rw [g 9 (by decide) (by decide)]; exact b2, fun q => by rw [g 10 (by decide) (by decide)]; exact b3 q, b4⟩, c.fr (jx 160 (by decide) (by decide)) (g 14 (by decide) (by decide)) (jx 162 (by decide) (by decide)), ⟨by rw [g 23 (by decide) (by decide)]; exact d1, by rw [g 24 (by decide) (by decide)]; exact d2, d3, fun j q => (d4 j q).fr (jx 165 (by decide) (by decide)), fun j q => (d5 j q).fr (jx 166 (by decide) (by decide))⟩, ⟨by rw [g 25 (by decide) (by decide)]; exact e1, e2, fun c q => (e3 c q).fr (jx 167 (by decide) (by decide))⟩, f⟩
          rw [jt i]
          by_cases q : nt ≤ i
          · rw [if_pos ⟨q, hi⟩]; exact ⟨rfl, feedT_lt q hi⟩
          · rw [if_neg (by omega), feedT_lo (by omega)]; exact a3 i (by omega)
        exact (hQ1 h9).fin hB (fun x hx => jx x (by omega) (by omega)) (fun _ _ => rfl) rfl rfl
      · exact absurd (by decide) hc27
    | succ j ih =>
      intro i J w hij j2 jo jt jx
      have hi : i < 20 := by omega
      have cut : ∀ v : Int32, bN v (i % 4) = feedT tp nt x0 x1 x2 x3 x4 (nt + i) → VV yX12_feed cX12_feed 8 (some .int) 8 Q b ad 76 [some (.ref (b + 157)), some (.int x0), some (.int x1), some (.int x2), some (.int x3), some (.int x4), some (.int (nI i)), w] [.int v] J L R := by
        intro v eb
        refine v_istore_7 rfl dX12_feed_76 ?_
        refine v_aload_0 dX12_feed_78 ?_
        refine u_getR dX12_feed_79 gf_X12_7 (by first | assumption | rfl | exact led_1 (by assumption) | exact led_2 (by assumption) | exact bk_m (by assumption) (by first | assumption | omega) | exact bk_p (by assumption) (by first | assumption | omega) | exact bk_o (by assumption) (by first | assumption | omega) | exact bk_s (by assumption) (by first | assumption | omega) | exact bk_1 (by assumption) | exact bk_2 (by assumption) | exact bk_3 (by assumption) | exact bk_4 (by assumption) | exact bk_5 (by assumption) | exact bk_6 (by assumption) | exact bk_7 (by assumption) | exact bk_8 (by assumption) | exact sh_ring _ (by first | assumption | omega) | exact sh_imgs _ (by first | assumption | omega)) (ro_X12_1 (by assumption)) ?_
        skip
        refine v_aload_0 dX12_feed_82 ?_
        refine u_getI dX12_feed_83 gf_X12_60 (by first | assumption | rfl | exact led_1 (by assumption) | exact led_2 (by assumption) | exact bk_m (by assumption) (by first | assumption | omega) | exact bk_p (by assumption) (by first | assumption | omega) | exact bk_o (by assumption) (by first | assumption | omega) | exact bk_s (by assumption) (by first | assumption | omega) | exact bk_1 (by assumption) | exact bk_2 (by assumption) | exact bk_3 (by assumption) | exact bk_4 (by assumption) | exact bk_5 (by assumption) | exact bk_6 (by assumption) | exact bk_7 (by assumption) | exact bk_8 (by assumption) | exact sh_ring _ (by first | assumption | omega) | exact sh_imgs _ (by first | assumption | omega)) ?_
        rw [j2]
        refine v_iload_7 dX12_feed_86 ?_
        refine v_bipush (v := nI 24) dX12_feed_88 (by decide) ?_
        refine v_bipush (v := nI 8) dX12_feed_90 (by decide) ?_
        refine v_iload_6 dX12_feed_92 ?_
        refine v_iconst (v := nI 4) dX12_feed_94 (by decide) ?_
        refine v_irem dX12_feed_95 (by first | assumption | decide) ?_
        rw [pk_rem (by omega) (by decide) (by decide)]
        refine v_imul dX12_feed_96 ?_
        rw [pk_mul]
        refine v_isub dX12_feed_97 ?_
        rw [pk_sub (by omega)]
        refine v_ishr dX12_feed_98 ?_
        refine v_sipush (v := nI 255) dX12_feed_99 (by decide) ?_
        refine v_iand dX12_feed_102 ?_
        rw [sbt (by omega), eb]
        refine u_iast dX12_feed_103 (by first | assumption | rfl | exact led_1 (by assumption) | exact led_2 (by assumption) | exact bk_m (by assumption) (by first | assumption | omega) | exact bk_p (by assumption) (by first | assumption | omega) | exact bk_o (by assumption) (by first | assumption | omega) | exact bk_s (by assumption) (by first | assumption | omega) | exact bk_1 (by assumption) | exact bk_2 (by assumption) | exact bk_3 (by assumption) | exact bk_4 (by assumption) | exact bk_5 (by assumption) | exact bk_6 (by assumption) | exact bk_7 (by assumption) | exact bk_8 (by assumption) | exact sh_ring _ (by first | assumption | omega) | exact sh_imgs _ (by first | assumption | omega)) (by first | with_reducible rfl | (simp only [nlit, nI_add, pk_mul]; with_reducible rfl) | rfl) (by first | assumption | omega) (by first | assumption | decide) ?_
        refine v_aload_0 dX12_feed_104 ?_
        refine v_dup dX12_feed_105 rfl ?_
        refine u_getI dX12_feed_106 gf_X12_60 (by first | assumption | rfl | exact led_1 (by assumption) | exact led_2 (by assumption) | exact bk_m (by assumption) (by first | assumption | omega) | exact bk_p (by assumption) (by first | assumption | omega) | exact bk_o (by assumption) (by first | assumption | omega) | exact bk_s (by assumption) (by first | assumption | omega) | exact bk_1 (by assumption) | exact bk_2 (by assumption) | exact bk_3 (by assumption) | exact bk_4 (by assumption) | exact bk_5 (by assumption) | exact bk_6 (by assumption) | exact bk_7 (by assumption) | exact bk_8 (by assumption) | exact sh_ring _ (by first | assumption | omega) | exact sh_imgs _ (by first | assumption | omega)) ?_
        rw [ui_ne (by decide), j2]
        refine v_iconst (v := nI 1) dX12_feed_109 (by decide) ?_
        refine v_iadd dX12_feed_110 ?_
        rw [nI_add]
        refine u_putI dX12_feed_111 gf_X12_60 (by first | assumption | rfl | exact led_1 (by assumption) | exact led_2 (by assumption) | exact bk_m (by assumption) (by first | assumption | omega) | exact bk_p (by assumption) (by first | assumption | omega) | exact bk_o (by assumption) (by first | assumption | omega) | exact bk_s (by assumption) (by first | assumption | omega) | exact bk_1 (by assumption) | exact bk_2 (by assumption) | exact bk_3 (by assumption) | exact bk_4 (by assumption) | exact bk_5 (by assumption) | exact bk_6 (by assumption) | exact bk_7 (by assumption) | exact bk_8 (by assumption) | exact sh_ring _ (by first | assumption | omega) | exact sh_imgs _ (by first | assumption | omega)) rfl rfl rfl ?_
        refine v_iinc_6 (v := 1) rfl dX12_feed_114 (by decide) ?_
        rw [show nI i + 1 = nI (i + 1) from nI_1 i]
        refine v_goto (tgt := 23) dX12_feed_117 (by decide) ?_
        refine ih (i + 1) _ _ (by omega) ?_ ?_ ?_ ?_
        · rw [ui_s, Nat.add_assoc]
        · intro k hk; rw [ui_o hk, ui_ne (by decide)]; exact jo k hk
        · intro k
          rw [ui_ne (by decide)]
          by_cases e : k = nt + i
          · subst e; rw [ui_s, if_pos ⟨by omega, by omega⟩]
          · rw [ui_o e, jt k]
            by_cases c : nt ≤ k ∧ k < nt + i
            · rw [if_pos c, if_pos ⟨c.1, by omega⟩]
            · rw [if_neg c, if_neg (by omega)]
        · intro x a1 a2; rw [ui_ne a1, ui_ne a2]; exact jx x a1 a2
      refine v_iload_6 dX12_feed_23 ?_
      refine v_bipush (v := nI 20) dX12_feed_25 (by decide) ?_
      refine v_icmp_ge (tgt := 120) dX12_feed_27 (by decide) (fun hc27 => ?_) (fun hc27 => ?_)
      · first | omega | (have q := (nI_leI (by omega) (by omega)).mp hc27; omega)
      · (try rw [nI_leI (by omega) (by omega)] at hc27)
        refine v_iload_6 dX12_feed_30 ?_
        refine v_iconst (v := nI 4) dX12_feed_32 (by decide) ?_
        refine v_icmp_ge (tgt := 40) dX12_feed_33 (by decide) (fun hc33 => ?_) (fun hc33 => ?_)
        · (try rw [nI_leI (by omega) (by omega)] at hc33)
          refine v_iload_6 dX12_feed_40 ?_
          refine v_bipush (v := nI 8) dX12_feed_42 (by decide) ?_
          refine v_icmp_ge (tgt := 51) dX12_feed_44 (by decide) (fun hc44 => ?_) (fun hc44 => ?_)
          · (try rw [nI_leI (by omega) (by omega)] at hc44)
            refine v_iload_6 dX12_feed_51 ?_
            refine v_bipush (v := nI 12) dX12_feed_53 (by decide) ?_
            refine v_icmp_ge (tgt := 62) dX12_feed_55 (by decide) (fun hc55 => ?_) (fun hc55 => ?_)
            · (try rw [nI_leI (by omega) (by omega)] at hc55)
              refine v_iload_6 dX12_feed_62 ?_
              refine v_bipush (v := nI 16) dX12_feed_64 (by decide) ?_
              refine v_icmp_ge (tgt := 74) dX12_feed_66 (by decide) (fun hc66 => ?_) (fun hc66 => ?_)
              · (try rw [nI_leI (by omega) (by omega)] at hc66)
                refine v_iload_5 dX12_feed_74 ?_
                refine cut _ ?_
                unfold feedT putT
                first
                  | (rw [if_pos (show _ ∧ _ from ⟨by omega, by omega⟩)]; congr 1; omega)
                  | (rw [if_neg (by omega), if_pos (show _ ∧ _ from ⟨by omega, by omega⟩)]; congr 1; omega)
                  | (rw [if_neg (by omega), if_neg (by omega), if_pos (show _ ∧ _ from ⟨by omega, by omega⟩)]; congr 1; omega)
                  | (rw [if_neg (by omega), if_neg (by omega), if_neg (by omega), if_pos (show _ ∧ _ from ⟨by omega, by omega⟩)]; congr 1; omega)
                  | (rw [if_neg (by omega), if_neg (by omega), if_neg (by omega), if_neg (by omega), if_pos (show _ ∧ _ from ⟨by omega, by omega⟩)]; congr 1; omega)
              · (try rw [nI_leI (by omega) (by omega)] at hc66)
                refine v_iload_4 dX12_feed_69 ?_
                refine v_goto (tgt := 76) dX12_feed_71 (by decide) ?_
                refine cut _ ?_
                unfold feedT putT
                first
                  | (rw [if_pos (show _ ∧ _ from ⟨by omega, by omega⟩)]; congr 1; omega)
                  | (rw [if_neg (by omega), if_pos (show _ ∧ _ from ⟨by omega, by omega⟩)]; congr 1; omega)
                  | (rw [if_neg (by omega), if_neg (by omega), if_pos (show _ ∧ _ from ⟨by omega, by omega⟩)]; congr 1; omega)
                  | (rw [if_neg (by omega), if_neg (by omega), if_neg (by omega), if_pos (show _ ∧ _ from ⟨by omega, by omega⟩)]; congr 1; omega)
                  | (rw [if_neg (by omega), if_neg (by omega), if_neg (by omega), if_neg (by omega), if_pos (show _ ∧ _ from ⟨by omega, by omega⟩)]; congr 1; omega)
            · (try rw [nI_leI (by omega) (by omega)] at hc55)
              refine v_iload_3 dX12_feed_58 ?_
              refine v_goto (tgt := 76) dX12_feed_59 (by decide) ?_
              refine cut _ ?_
              unfold feedT putT
              first
                | (rw [if_pos (show _ ∧ _ from ⟨by omega, by omega⟩)]; congr 1; omega)
                | (rw [if_neg (by omega), if_pos (show _ ∧ _ from ⟨by omega, by omega⟩)]; congr 1; omega)
                | (rw [if_neg (by omega), if_neg (by omega), if_pos (show _ ∧ _ from ⟨by omega, by omega⟩)]; congr 1; omega)
                | (rw [if_neg (by omega), if_neg (by omega), if_neg (by omega), if_pos (show _ ∧ _ from ⟨by omega, by omega⟩)]; congr 1; omega)
                | (rw [if_neg (by omega), if_neg (by omega), if_neg (by omega), if_neg (by omega), if_pos (show _ ∧ _ from ⟨by omega, by omega⟩)]; congr 1; omega)
          · (try rw [nI_leI (by omega) (by omega)] at hc44)
            refine v_iload_2 dX12_feed_47 ?_
            refine v_goto (tgt := 76) dX12_feed_48 (by decide) ?_
            refine cut _ ?_
            unfold feedT putT
            first
              | (rw [if_pos (show _ ∧ _ from ⟨by omega, by omega⟩)]; congr 1; omega)
              | (rw [if_neg (by omega), if_pos (show _ ∧ _ from ⟨by omega, by omega⟩)]; congr 1; omega)
              | (rw [if_neg (by omega), if_neg (by omega), if_pos (show _ ∧ _ from ⟨by omega, by omega⟩)]; congr 1; omega)
              | (rw [if_neg (by omega), if_neg (by omega), if_neg (by omega), if_pos (show _ ∧ _ from ⟨by omega, by omega⟩)]; congr 1; omega)
              | (rw [if_neg (by omega), if_neg (by omega), if_neg (by omega), if_neg (by omega), if_pos (show _ ∧ _ from ⟨by omega, by omega⟩)]; congr 1; omega)
        · (try rw [nI_leI (by omega) (by omega)] at hc33)
          refine v_iload_1 dX12_feed_36 ?_
          refine v_goto (tgt := 76) dX12_feed_37 (by decide) ?_
          refine cut _ ?_
          unfold feedT putT
          first
            | (rw [if_pos (show _ ∧ _ from ⟨by omega, by omega⟩)]; congr 1; omega)
            | (rw [if_neg (by omega), if_pos (show _ ∧ _ from ⟨by omega, by omega⟩)]; congr 1; omega)
            | (rw [if_neg (by omega), if_neg (by omega), if_pos (show _ ∧ _ from ⟨by omega, by omega⟩)]; congr 1; omega)
            | (rw [if_neg (by omega), if_neg (by omega), if_neg (by omega), if_pos (show _ ∧ _ from ⟨by omega, by omega⟩)]; congr 1; omega)
            | (rw [if_neg (by omega), if_neg (by omega), if_neg (by omega), if_neg (by omega), if_pos (show _ ∧ _ from ⟨by omega, by omega⟩)]; congr 1; omega)
  refine K.of (M := mX12_feed) (lv := [some (.ref (b + 157)), some (.int x0), some (.int x1), some (.int x2), some (.int x3), some (.int x4), none, none]) (by decide) (Nat.le_of_ble_eq_true rfl) rfl ?_
  refine v_aload_0 dX12_feed_0 ?_
  refine v_iconst (v := nI 0) dX12_feed_1 (by decide) ?_
  refine u_putI dX12_feed_2 gf_X12_54 (by first | assumption | rfl | exact led_1 (by assumption) | exact led_2 (by assumption) | exact bk_m (by assumption) (by first | assumption | omega) | exact bk_p (by assumption) (by first | assumption | omega) | exact bk_o (by assumption) (by first | assumption | omega) | exact bk_s (by assumption) (by first | assumption | omega) | exact bk_1 (by assumption) | exact bk_2 (by assumption) | exact bk_3 (by assumption) | exact bk_4 (by assumption) | exact bk_5 (by assumption) | exact bk_6 (by assumption) | exact bk_7 (by assumption) | exact bk_8 (by assumption) | exact sh_ring _ (by first | assumption | omega) | exact sh_imgs _ (by first | assumption | omega)) rfl rfl rfl ?_
  refine v_aload_0 dX12_feed_5 ?_
  refine u_getI dX12_feed_6 gf_X12_60 (by first | assumption | rfl | exact led_1 (by assumption) | exact led_2 (by assumption) | exact bk_m (by assumption) (by first | assumption | omega) | exact bk_p (by assumption) (by first | assumption | omega) | exact bk_o (by assumption) (by first | assumption | omega) | exact bk_s (by assumption) (by first | assumption | omega) | exact bk_1 (by assumption) | exact bk_2 (by assumption) | exact bk_3 (by assumption) | exact bk_4 (by assumption) | exact bk_5 (by assumption) | exact bk_6 (by assumption) | exact bk_7 (by assumption) | exact bk_8 (by assumption) | exact sh_ring _ (by first | assumption | omega) | exact sh_imgs _ (by first | assumption | omega)) ?_
  rw [h1.1.1]
  refine v_bipush (v := nI 20) dX12_feed_9 (by decide) ?_
  refine v_iadd dX12_feed_11 ?_
  rw [nI_add]
  refine v_sipush (v := nI 900) dX12_feed_12 (by decide) ?_
  refine v_icmp_le (tgt := 20) dX12_feed_15 (by decide) (fun hc15 => ?_) (fun hc15 => ?_)
  · (try rw [nI_leI (by omega) (by omega)] at hc15)
    refine v_iconst (v := nI 0) dX12_feed_20 (by decide) ?_
    refine v_istore_6 rfl dX12_feed_21 ?_
    exact loop (by omega) 20 0 _ _ (by omega) h1.1.1 (fun _ _ => rfl) (fun k => by rw [if_neg (by omega), ui_ne (by decide)]) (fun x a1 a2 => ui_ne a1)
  · (try rw [nI_leI (by omega) (by omega)] at hc15)
    refine v_iconst (v := -1) dX12_feed_18 (by decide) ?_
    refine v_iret dX12_feed_19 rfl rfl rfl rfl ?_
    exact (hQ0 (by omega)).fin h1 (fun x hx => by simp only [ui_ne (show x ≠ 157 by omega)]) (fun _ _ => rfl) rfl rfl
end
