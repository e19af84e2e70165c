theorem dX12_lentLine_0 : decode cX12_lentLine 0 = .ok (.aload_n 0, 1) := by decide +kernel
theorem dX12_lentLine_1 : decode cX12_lentLine 1 = .ok (.getfield 92, 3) := by decide +kernel
theorem dX12_lentLine_4 : decode cX12_lentLine 4 = .ok (.ifCond .eq 4, 3) := by decide +kernel
theorem dX12_lentLine_7 : decode cX12_lentLine 7 = .ok (.return_, 1) := by decide +kernel
theorem dX12_lentLine_8 : decode cX12_lentLine 8 = .ok (.aload_n 0, 1) := by decide +kernel
theorem dX12_lentLine_9 : decode cX12_lentLine 9 = .ok (.iconst 1, 1) := by decide +kernel
theorem dX12_lentLine_10 : decode cX12_lentLine 10 = .ok (.iconst 0, 1) := by decide +kernel
theorem dX12_lentLine_11 : decode cX12_lentLine 11 = .ok (.invokevirtual 262, 3) := by decide +kernel
theorem dX12_lentLine_14 : decode cX12_lentLine 14 = .ok (.istore_n 1, 1) := by decide +kernel
theorem dX12_lentLine_15 : decode cX12_lentLine 15 = .ok (.aload_n 0, 1) := by decide +kernel
theorem dX12_lentLine_16 : decode cX12_lentLine 16 = .ok (.ldc_w 277, 3) := by decide +kernel
theorem dX12_lentLine_19 : decode cX12_lentLine 19 = .ok (.invokevirtual 166, 3) := by decide +kernel
theorem dX12_lentLine_22 : decode cX12_lentLine 22 = .ok (.aload_n 0, 1) := by decide +kernel
theorem dX12_lentLine_23 : decode cX12_lentLine 23 = .ok (.iconst 2, 1) := by decide +kernel
theorem dX12_lentLine_24 : decode cX12_lentLine 24 = .ok (.iconst 0, 1) := by decide +kernel
theorem dX12_lentLine_25 : decode cX12_lentLine 25 = .ok (.invokevirtual 262, 3) := by decide +kernel
theorem dX12_lentLine_28 : decode cX12_lentLine 28 = .ok (.istore_n 2, 1) := by decide +kernel
theorem dX12_lentLine_29 : decode cX12_lentLine 29 = .ok (.aload_n 0, 1) := by decide +kernel
theorem dX12_lentLine_30 : decode cX12_lentLine 30 = .ok (.ldc_w 279, 3) := by decide +kernel
theorem dX12_lentLine_33 : decode cX12_lentLine 33 = .ok (.invokevirtual 267, 3) := by decide +kernel
theorem dX12_lentLine_36 : decode cX12_lentLine 36 = .ok (.istore_n 3, 1) := by decide +kernel
theorem dX12_lentLine_37 : decode cX12_lentLine 37 = .ok (.aload_n 0, 1) := by decide +kernel
theorem dX12_lentLine_38 : decode cX12_lentLine 38 = .ok (.ldc_w 281, 3) := by decide +kernel
theorem dX12_lentLine_41 : decode cX12_lentLine 41 = .ok (.invokevirtual 166, 3) := by decide +kernel
theorem dX12_lentLine_44 : decode cX12_lentLine 44 = .ok (.aload_n 0, 1) := by decide +kernel
theorem dX12_lentLine_45 : decode cX12_lentLine 45 = .ok (.getfield 73, 3) := by decide +kernel
theorem dX12_lentLine_48 : decode cX12_lentLine 48 = .ok (.istore 4, 2) := by decide +kernel
theorem dX12_lentLine_50 : decode cX12_lentLine 50 = .ok (.aload_n 0, 1) := by decide +kernel
theorem dX12_lentLine_51 : decode cX12_lentLine 51 = .ok (.iload_n 3, 1) := by decide +kernel
theorem dX12_lentLine_52 : decode cX12_lentLine 52 = .ok (.aload_n 0, 1) := by decide +kernel
theorem dX12_lentLine_53 : decode cX12_lentLine 53 = .ok (.getfield 23, 3) := by decide +kernel
theorem dX12_lentLine_56 : decode cX12_lentLine 56 = .ok (.iconst 0, 1) := by decide +kernel
theorem dX12_lentLine_57 : decode cX12_lentLine 57 = .ok (.iaload, 1) := by decide +kernel
theorem dX12_lentLine_58 : decode cX12_lentLine 58 = .ok (.invokevirtual 170, 3) := by decide +kernel
theorem dX12_lentLine_61 : decode cX12_lentLine 61 = .ok (.istore 5, 2) := by decide +kernel
theorem dX12_lentLine_63 : decode cX12_lentLine 63 = .ok (.aload_n 0, 1) := by decide +kernel
theorem dX12_lentLine_64 : decode cX12_lentLine 64 = .ok (.getfield 92, 3) := by decide +kernel
theorem dX12_lentLine_67 : decode cX12_lentLine 67 = .ok (.ifCond .ne 31, 3) := by decide +kernel
theorem dX12_lentLine_70 : decode cX12_lentLine 70 = .ok (.aload_n 0, 1) := by decide +kernel
theorem dX12_lentLine_71 : decode cX12_lentLine 71 = .ok (.getfield 23, 3) := by decide +kernel
theorem dX12_lentLine_74 : decode cX12_lentLine 74 = .ok (.aload_n 0, 1) := by decide +kernel
theorem dX12_lentLine_75 : decode cX12_lentLine 75 = .ok (.getfield 29, 3) := by decide +kernel
theorem dX12_lentLine_78 : decode cX12_lentLine 78 = .ok (.iload_n 1, 1) := by decide +kernel
theorem dX12_lentLine_79 : decode cX12_lentLine 79 = .ok (.iload_n 2, 1) := by decide +kernel
theorem dX12_lentLine_80 : decode cX12_lentLine 80 = .ok (.iload_n 3, 1) := by decide +kernel
theorem dX12_lentLine_81 : decode cX12_lentLine 81 = .ok (.iload 5, 2) := by decide +kernel
theorem dX12_lentLine_83 : decode cX12_lentLine 83 = .ok (.iconst (-1), 1) := by decide +kernel
theorem dX12_lentLine_84 : decode cX12_lentLine 84 = .ok (.invokestatic 283, 3) := by decide +kernel
theorem dX12_lentLine_87 : decode cX12_lentLine 87 = .ok (.ifCond .ne 11, 3) := by decide +kernel
theorem dX12_lentLine_90 : decode cX12_lentLine 90 = .ok (.aload_n 0, 1) := by decide +kernel
theorem dX12_lentLine_91 : decode cX12_lentLine 91 = .ok (.bipush 7, 2) := by decide +kernel
theorem dX12_lentLine_93 : decode cX12_lentLine 93 = .ok (.iload 4, 2) := by decide +kernel
theorem dX12_lentLine_95 : decode cX12_lentLine 95 = .ok (.invokevirtual 119, 3) := by decide +kernel
theorem dX12_lentLine_98 : decode cX12_lentLine 98 = .ok (.aload_n 0, 1) := by decide +kernel
theorem dX12_lentLine_99 : decode cX12_lentLine 99 = .ok (.getfield 92, 3) := by decide +kernel
theorem dX12_lentLine_102 : decode cX12_lentLine 102 = .ok (.ifCond .ne 15, 3) := by decide +kernel
theorem dX12_lentLine_105 : decode cX12_lentLine 105 = .ok (.aload_n 0, 1) := by decide +kernel
theorem dX12_lentLine_106 : decode cX12_lentLine 106 = .ok (.getfield 29, 3) := by decide +kernel
theorem dX12_lentLine_109 : decode cX12_lentLine 109 = .ok (.iload_n 1, 1) := by decide +kernel
theorem dX12_lentLine_110 : decode cX12_lentLine 110 = .ok (.iload_n 2, 1) := by decide +kernel
theorem dX12_lentLine_111 : decode cX12_lentLine 111 = .ok (.iload_n 3, 1) := by decide +kernel
theorem dX12_lentLine_112 : decode cX12_lentLine 112 = .ok (.iload 5, 2) := by decide +kernel
theorem dX12_lentLine_114 : decode cX12_lentLine 114 = .ok (.invokestatic 287, 3) := by decide +kernel
theorem dX12_lentLine_117 : decode cX12_lentLine 117 = .ok (.return_, 1) := by decide +kernel
theorem dX12_breakLine_0 : decode cX12_breakLine 0 = .ok (.aload_n 0, 1) := by decide +kernel
theorem dX12_breakLine_1 : decode cX12_breakLine 1 = .ok (.getfield 92, 3) := by decide +kernel
theorem dX12_breakLine_4 : decode cX12_breakLine 4 = .ok (.ifCond .eq 4, 3) := by decide +kernel
theorem dX12_breakLine_7 : decode cX12_breakLine 7 = .ok (.return_, 1) := by decide +kernel
theorem dX12_breakLine_8 : decode cX12_breakLine 8 = .ok (.aload_n 0, 1) := by decide +kernel
theorem dX12_breakLine_9 : decode cX12_breakLine 9 = .ok (.iconst 2, 1) := by decide +kernel
theorem dX12_breakLine_10 : decode cX12_breakLine 10 = .ok (.iconst 0, 1) := by decide +kernel
theorem dX12_breakLine_11 : decode cX12_breakLine 11 = .ok (.invokevirtual 262, 3) := by decide +kernel
theorem dX12_breakLine_14 : decode cX12_breakLine 14 = .ok (.istore_n 1, 1) := by decide +kernel
theorem dX12_breakLine_15 : decode cX12_breakLine 15 = .ok (.aload_n 0, 1) := by decide +kernel
theorem dX12_breakLine_16 : decode cX12_breakLine 16 = .ok (.ldc_w 265, 3) := by decide +kernel
theorem dX12_breakLine_19 : decode cX12_breakLine 19 = .ok (.invokevirtual 166, 3) := by decide +kernel
theorem dX12_breakLine_22 : decode cX12_breakLine 22 = .ok (.aload_n 0, 1) := by decide +kernel
theorem dX12_breakLine_23 : decode cX12_breakLine 23 = .ok (.getfield 92, 3) := by decide +kernel
theorem dX12_breakLine_26 : decode cX12_breakLine 26 = .ok (.ifCond .eq 4, 3) := by decide +kernel
theorem dX12_breakLine_29 : decode cX12_breakLine 29 = .ok (.return_, 1) := by decide +kernel
theorem dX12_breakLine_30 : decode cX12_breakLine 30 = .ok (.aload_n 0, 1) := by decide +kernel
theorem dX12_breakLine_31 : decode cX12_breakLine 31 = .ok (.getfield 82, 3) := by decide +kernel
theorem dX12_breakLine_34 : decode cX12_breakLine 34 = .ok (.iconst 3, 1) := by decide +kernel
theorem dX12_breakLine_35 : decode cX12_breakLine 35 = .ok (.if_icmp .ne 43, 3) := by decide +kernel
theorem dX12_breakLine_38 : decode cX12_breakLine 38 = .ok (.aload_n 0, 1) := by decide +kernel
theorem dX12_breakLine_39 : decode cX12_breakLine 39 = .ok (.getfield 79, 3) := by decide +kernel
theorem dX12_breakLine_42 : decode cX12_breakLine 42 = .ok (.iconst 1, 1) := by decide +kernel
theorem dX12_breakLine_43 : decode cX12_breakLine 43 = .ok (.aload_n 0, 1) := by decide +kernel
theorem dX12_breakLine_44 : decode cX12_breakLine 44 = .ok (.getfield 23, 3) := by decide +kernel
theorem dX12_breakLine_47 : decode cX12_breakLine 47 = .ok (.iconst 0, 1) := by decide +kernel
theorem dX12_breakLine_48 : decode cX12_breakLine 48 = .ok (.iaload, 1) := by decide +kernel
theorem dX12_breakLine_49 : decode cX12_breakLine 49 = .ok (.invokestatic 154, 3) := by decide +kernel
theorem dX12_breakLine_52 : decode cX12_breakLine 52 = .ok (.ifCond .eq 26, 3) := by decide +kernel
theorem dX12_breakLine_55 : decode cX12_breakLine 55 = .ok (.aload_n 0, 1) := by decide +kernel
theorem dX12_breakLine_56 : decode cX12_breakLine 56 = .ok (.getfield 29, 3) := by decide +kernel
theorem dX12_breakLine_59 : decode cX12_breakLine 59 = .ok (.bipush 81, 2) := by decide +kernel
theorem dX12_breakLine_61 : decode cX12_breakLine 61 = .ok (.iload_n 1, 1) := by decide +kernel
theorem dX12_breakLine_62 : decode cX12_breakLine 62 = .ok (.iadd, 1) := by decide +kernel
theorem dX12_breakLine_63 : decode cX12_breakLine 63 = .ok (.iaload, 1) := by decide +kernel
theorem dX12_breakLine_64 : decode cX12_breakLine 64 = .ok (.aload_n 0, 1) := by decide +kernel
theorem dX12_breakLine_65 : decode cX12_breakLine 65 = .ok (.getfield 79, 3) := by decide +kernel
theorem dX12_breakLine_68 : decode cX12_breakLine 68 = .ok (.invokestatic 158, 3) := by decide +kernel
theorem dX12_breakLine_71 : decode cX12_breakLine 71 = .ok (.ifCond .eq 7, 3) := by decide +kernel
theorem dX12_breakLine_74 : decode cX12_breakLine 74 = .ok (.iconst 1, 1) := by decide +kernel
theorem dX12_breakLine_75 : decode cX12_breakLine 75 = .ok (.goto 4, 3) := by decide +kernel
theorem dX12_breakLine_78 : decode cX12_breakLine 78 = .ok (.iconst 0, 1) := by decide +kernel
theorem dX12_breakLine_79 : decode cX12_breakLine 79 = .ok (.istore_n 2, 1) := by decide +kernel
theorem dX12_breakLine_80 : decode cX12_breakLine 80 = .ok (.iload_n 2, 1) := by decide +kernel
theorem dX12_breakLine_81 : decode cX12_breakLine 81 = .ok (.ifCond .eq 12, 3) := by decide +kernel
theorem dX12_breakLine_84 : decode cX12_breakLine 84 = .ok (.aload_n 0, 1) := by decide +kernel
theorem dX12_breakLine_85 : decode cX12_breakLine 85 = .ok (.iconst 3, 1) := by decide +kernel
theorem dX12_breakLine_86 : decode cX12_breakLine 86 = .ok (.aload_n 0, 1) := by decide +kernel
theorem dX12_breakLine_87 : decode cX12_breakLine 87 = .ok (.getfield 73, 3) := by decide +kernel
theorem dX12_breakLine_90 : decode cX12_breakLine 90 = .ok (.invokevirtual 119, 3) := by decide +kernel
theorem dX12_breakLine_93 : decode cX12_breakLine 93 = .ok (.aload_n 0, 1) := by decide +kernel
theorem dX12_breakLine_94 : decode cX12_breakLine 94 = .ok (.iconst 1, 1) := by decide +kernel
theorem dX12_breakLine_95 : decode cX12_breakLine 95 = .ok (.aload_n 0, 1) := by decide +kernel
theorem dX12_breakLine_96 : decode cX12_breakLine 96 = .ok (.getfield 23, 3) := by decide +kernel
theorem dX12_breakLine_99 : decode cX12_breakLine 99 = .ok (.iconst 0, 1) := by decide +kernel
theorem dX12_breakLine_100 : decode cX12_breakLine 100 = .ok (.iaload, 1) := by decide +kernel
theorem dX12_breakLine_101 : decode cX12_breakLine 101 = .ok (.invokevirtual 170, 3) := by decide +kernel
theorem dX12_breakLine_104 : decode cX12_breakLine 104 = .ok (.istore_n 3, 1) := by decide +kernel
theorem dX12_breakLine_105 : decode cX12_breakLine 105 = .ok (.aload_n 0, 1) := by decide +kernel
theorem dX12_breakLine_106 : decode cX12_breakLine 106 = .ok (.getfield 92, 3) := by decide +kernel
theorem dX12_breakLine_109 : decode cX12_breakLine 109 = .ok (.ifCond .eq 4, 3) := by decide +kernel
theorem dX12_breakLine_112 : decode cX12_breakLine 112 = .ok (.return_, 1) := by decide +kernel
theorem dX12_breakLine_113 : decode cX12_breakLine 113 = .ok (.aload_n 0, 1) := by decide +kernel
theorem dX12_breakLine_114 : decode cX12_breakLine 114 = .ok (.getfield 29, 3) := by decide +kernel
theorem dX12_breakLine_117 : decode cX12_breakLine 117 = .ok (.bipush 81, 2) := by decide +kernel
theorem dX12_breakLine_119 : decode cX12_breakLine 119 = .ok (.iload_n 1, 1) := by decide +kernel
theorem dX12_breakLine_120 : decode cX12_breakLine 120 = .ok (.iadd, 1) := by decide +kernel
theorem dX12_breakLine_121 : decode cX12_breakLine 121 = .ok (.dup2, 1) := by decide +kernel
theorem dX12_breakLine_122 : decode cX12_breakLine 122 = .ok (.iaload, 1) := by decide +kernel
theorem dX12_breakLine_123 : decode cX12_breakLine 123 = .ok (.iconst 1, 1) := by decide +kernel
theorem dX12_breakLine_124 : decode cX12_breakLine 124 = .ok (.iload_n 3, 1) := by decide +kernel
theorem dX12_breakLine_125 : decode cX12_breakLine 125 = .ok (.ishl, 1) := by decide +kernel
theorem dX12_breakLine_126 : decode cX12_breakLine 126 = .ok (.ior, 1) := by decide +kernel
theorem dX12_breakLine_127 : decode cX12_breakLine 127 = .ok (.iastore, 1) := by decide +kernel
theorem dX12_breakLine_128 : decode cX12_breakLine 128 = .ok (.aload_n 0, 1) := by decide +kernel
theorem dX12_breakLine_129 : decode cX12_breakLine 129 = .ok (.getfield 23, 3) := by decide +kernel
theorem dX12_breakLine_132 : decode cX12_breakLine 132 = .ok (.bipush 7, 2) := by decide +kernel
theorem dX12_breakLine_134 : decode cX12_breakLine 134 = .ok (.dup2, 1) := by decide +kernel
theorem dX12_breakLine_135 : decode cX12_breakLine 135 = .ok (.iaload, 1) := by decide +kernel
theorem dX12_breakLine_136 : decode cX12_breakLine 136 = .ok (.iconst 1, 1) := by decide +kernel
theorem dX12_breakLine_137 : decode cX12_breakLine 137 = .ok (.iadd, 1) := by decide +kernel
theorem dX12_breakLine_138 : decode cX12_breakLine 138 = .ok (.iastore, 1) := by decide +kernel
theorem dX12_breakLine_139 : decode cX12_breakLine 139 = .ok (.return_, 1) := by decide +kernel
theorem or_xor {x d : Nat} (h : x.testBit d = false) : x ||| 2 ^ d = x ^^^ 2 ^ d := by
  apply Nat.eq_of_testBit_eq
  intro i
  rw [Nat.testBit_or, Nat.testBit_xor, Nat.testBit_two_pow]
  by_cases e : d = i
  · subst e; rw [h]; simp
  · simp [e]
theorem LvM.led {I J : HI} {tp : Nat → Nat} {sz e : Nat} {G : bkF} {l l' : LSt} (h : LvM I tp sz e G l) (hS : StI J 163 0 l') (f : ∀ x, x ≠ 163 → J x = I x) : LvM J tp sz e G l' :=
  ⟨⟨by rw [f 157 (by decide)]; exact h.1.1, h.1.2.1, fun i hi => by rw [f 158 (by decide)]; exact h.1.2.2 i hi⟩, h.2.1, by rw [f 157 (by decide)]; exact h.2.2.1, by
    have t := h.2.2.2.1
    unfold TkM
    rw [f 157 (by decide), f 159 (by decide)]
    exact t, fun k hk => by rw [f 161 (by decide)]; exact h.2.2.2.2.1 k hk, hS⟩
theorem FrK.led {I J K : HI} (h : FrK I J) (f : ∀ x, x ≠ 163 → K x = J x) : FrK I K := ⟨fun x a c d g => (f x g).trans (h.1 x a c d g), fun k a => by rw [f 157 (by decide)]; exact h.2 k a⟩
theorem PInv.mv {sz : Nat} {s u : PS} (h : PInv sz s) (e : u.2 = s.2) (hu : u.1 ≤ sz) : PInv sz u := by
  obtain ⟨a, c⟩ := u
  have e : c = s.2 := e
  subst e
  exact ⟨hu, h.2⟩
theorem StI.flip {J : HI} {l : LSt} {p d : Nat} (h : StI J 163 0 l) (hn : l.1 ≤ 20) (hb : (l.2.2 p).testBit d = false) : StI (ui J 163 (81 + p) (nI (l.2.2 p ||| 2 ^ d))) 163 0 (flipS l p d) := by
  refine ⟨by rw [ui_o (by omega)]; exact h.1, fun i hi => ?_, fun q hq => ?_⟩
  · have hi2 : i < l.1 := hi
    have := h.2.1 i hi2
    rw [ui_o (by omega), ui_o (by omega), ui_o (by omega), ui_o (by omega)]
    exact this
  · show ui J 163 (81 + p) _ 163 (0 + 81 + q) = nI (if q = p then l.2.2 p ^^^ 2 ^ d else l.2.2 q)
    by_cases e : q = p
    · subst e; rw [Nat.zero_add, ui_s, if_pos rfl, or_xor hb]
    · rw [ui_o (by omega), if_neg e]; exact h.2.2 q hq
section
variable {b : Nat} {ad : Nat → Nat} {I J : HI} {L M : HL} {R : HR} {Q : QT} {tp : Nat → Nat} {sz k e : Nat} {G F : bkF} {l : LSt} {s : PS}
theorem z_X12_lentLine (h : I 157 13 = nI 1) (hQ : Q none SH I L R) : KK 9 mX12_lentLine b ad [.ref (b + 157)] I L R Q := by
  refine K.of (M := mX12_lentLine) (lv := [some (.ref (b + 157)), none, none, none, none, none]) (by decide) (Nat.le_of_ble_eq_true rfl) rfl ?_
  refine v_aload_0 dX12_lentLine_0 ?_
  refine u_getI dX12_lentLine_1 gf_X12_92 (by first | assumption | rfl | exact led_1 (by assumption) | exact led_2 (by assumption) | exact bk_m (by assumption) (by first | assumption | omega) | exact bk_p (by assumption) (by first | assumption | omega) | exact bk_o (by assumption) (by first | assumption | omega) | exact bk_s (by assumption) (by first | assumption | omega) | exact bk_1 (by assumption) | exact bk_2 (by assumption) | exact bk_3 (by assumption) | exact bk_4 (by assumption) | exact bk_5 (by assumption) | exact bk_6 (by assumption) | exact bk_7 (by assumption) | exact bk_8 (by assumption) | exact sh_ring _ (by first | assumption | omega) | exact sh_imgs _ (by first | assumption | omega)) ?_
  rw [h]
  refine v_if_eq (tgt := 8) dX12_lentLine_4 (by decide) (fun hc4 => ?_) (fun hc4 => ?_)
  · exact absurd hc4 (by decide)
  · (first | rw [bI_0, Bool.not_eq_false] at hc4 | rw [bI_0] at hc4 | rw [show (0 : Int32) = nI 0 from rfl, nI_eq (by omega) (by omega)] at hc4 | skip)
    refine v_vret dX12_lentLine_7 rfl rfl rfl rfl ?_
    exact hQ
theorem z_X12_breakLine (h : I 157 13 = nI 1) (hQ : Q none SH I L R) : KK 9 mX12_breakLine b ad [.ref (b + 157)] I L R Q := by
  refine K.of (M := mX12_breakLine) (lv := [some (.ref (b + 157)), none, none, none]) (by decide) (Nat.le_of_ble_eq_true rfl) rfl ?_
  refine v_aload_0 dX12_breakLine_0 ?_
  refine u_getI dX12_breakLine_1 gf_X12_92 (by first | assumption | rfl | exact led_1 (by assumption) | exact led_2 (by assumption) | exact bk_m (by assumption) (by first | assumption | omega) | exact bk_p (by assumption) (by first | assumption | omega) | exact bk_o (by assumption) (by first | assumption | omega) | exact bk_s (by assumption) (by first | assumption | omega) | exact bk_1 (by assumption) | exact bk_2 (by assumption) | exact bk_3 (by assumption) | exact bk_4 (by assumption) | exact bk_5 (by assumption) | exact bk_6 (by assumption) | exact bk_7 (by assumption) | exact bk_8 (by assumption) | exact sh_ring _ (by first | assumption | omega) | exact sh_imgs _ (by first | assumption | omega)) ?_
  rw [h]
  refine v_if_eq (tgt := 8) dX12_breakLine_4 (by decide) (fun hc4 => ?_) (fun hc4 => ?_)
  · exact absurd hc4 (by decide)
  · (first | rw [bI_0, Bool.not_eq_false] at hc4 | rw [bI_0] at hc4 | rw [show (0 : Int32) = nI 0 from rfl, nI_eq (by omega) (by omega)] at hc4 | skip)
    refine v_vret dX12_breakLine_7 rfl rfl rfl rfl ?_
    exact hQ
theorem c_X12_lentLine (hR : RO R) (h : LvM I tp sz s.1 s.2.1 s.2.2) (hI : PInv sz s) (h12 : s.2.2.1 < 12) (hF : ∀ f p, lLent tp sz s = .inl (f, p) → ∀ J : HI, FlM J f p → FrK I J → Q none SH J L R) (hY : ∀ u, lLent tp sz s = .inr u → ∀ J : HI, LvM J tp sz u.1 u.2.1 u.2.2 → FrK I J → Q none SH J L R) : KK 9 mX12_lentLine b ad [.ref (b + 157)] I L R Q := by
  have hL := h
  have hG : NmE s.2.1 s.2.1 := NmE.refl
  have jk : FrK I I := FrK.refl
  have hO := hI.2.1
  have o0 := hO.1
  have o1 := hO.2.1
  have o2 := hO.2.2.1
  have o3 := hO.2.2.2.1
  have o4 := hO.2.2.2.2.1
  have o5 := hO.2.2.2.2.2.1
  have o6 := hO.2.2.2.2.2.2.1
  have es0 : s.2 = s.2 := rfl
  have hc_0 : s.2.1 0 = s.2.1 0 := rfl
  refine K.of (M := mX12_lentLine) (lv := [some (.ref (b + 157)), none, none, none, none, none]) (by decide) (Nat.le_of_ble_eq_true rfl) rfl ?_
  refine v_aload_0 dX12_lentLine_0 ?_
  refine u_getI dX12_lentLine_1 gf_X12_92 (by first | assumption | rfl | exact led_1 (by assumption) | exact led_2 (by assumption) | exact bk_m (by assumption) (by first | assumption | omega) | exact bk_p (by assumption) (by first | assumption | omega) | exact bk_o (by assumption) (by first | assumption | omega) | exact bk_s (by assumption) (by first | assumption | omega) | exact bk_1 (by assumption) | exact bk_2 (by assumption) | exact bk_3 (by assumption) | exact bk_4 (by assumption) | exact bk_5 (by assumption) | exact bk_6 (by assumption) | exact bk_7 (by assumption) | exact bk_8 (by assumption) | exact sh_ring _ (by first | assumption | omega) | exact sh_imgs _ (by first | assumption | omega)) ?_
  rw [hL.2.2.1]
  refine v_if_eq (tgt := 8) dX12_lentLine_4 (by decide) (fun hc4 => ?_) (fun hc4 => ?_)
  · (first | rw [bI_0, Bool.not_eq_false] at hc4 | rw [bI_0] at hc4 | rw [show (0 : Int32) = nI 0 from rfl, nI_eq (by omega) (by omega)] at hc4 | skip)
    refine v_aload_0 dX12_lentLine_8 ?_
    refine v_iconst (v := nI 1) dX12_lentLine_9 (by decide) ?_
    refine v_iconst (v := nI 0) dX12_lentLine_10 (by decide) ?_
    refine u_callV_2 dX12_lentLine_11 ml_X12_262 mv_X12_passed (by first | assumption | rfl | exact led_1 (by assumption) | exact led_2 (by assumption) | exact bk_m (by assumption) (by first | assumption | omega) | exact bk_p (by assumption) (by first | assumption | omega) | exact bk_o (by assumption) (by first | assumption | omega) | exact bk_s (by assumption) (by first | assumption | omega) | exact bk_1 (by assumption) | exact bk_2 (by assumption) | exact bk_3 (by assumption) | exact bk_4 (by assumption) | exact bk_5 (by assumption) | exact bk_6 (by assumption) | exact bk_7 (by assumption) | exact bk_8 (by assumption) | exact sh_ring _ (by first | assumption | omega) | exact sh_imgs _ (by first | assumption | omega)) (by decide) rfl (by decide) (Nat.le_of_ble_eq_true rfl) (c_X12_passed_1 (but := 0) (s := s) (by omega) hR hL (by rw [es0]; exact hG) (fun f p q J j1 j2 => ?_) (fun v1 u1 q1 e1 g1 J1 j11 j12 => ?_))
    · have jf := jk.trans j2.k
      refine v_istore_1 rfl dX12_lentLine_14 ?_
      refine v_aload_0 dX12_lentLine_15 ?_
      refine v_ldcSw (i := 52) dX12_lentLine_16 (by decide) rfl rfl ?_
      refine u_callV_1 dX12_lentLine_19 ml_X12_166 mv_X12_must (by first | assumption | rfl | exact led_1 (by assumption) | exact led_2 (by assumption) | exact bk_m (by assumption) (by first | assumption | omega) | exact bk_p (by assumption) (by first | assumption | omega) | exact bk_o (by assumption) (by first | assumption | omega) | exact bk_s (by assumption) (by first | assumption | omega) | exact bk_1 (by assumption) | exact bk_2 (by assumption) | exact bk_3 (by assumption) | exact bk_4 (by assumption) | exact bk_5 (by assumption) | exact bk_6 (by assumption) | exact bk_7 (by assumption) | exact bk_8 (by assumption) | exact sh_ring _ (by first | assumption | omega) | exact sh_imgs _ (by first | assumption | omega)) (by decide) rfl (by decide) (Nat.le_of_ble_eq_true rfl) (z_X12_must (by (try simp only [ui_ne (show (157 : Nat) ≠ 161 by decide)]); exact j1.1) ?_)
      refine v_aload_0 dX12_lentLine_22 ?_
      refine v_iconst (v := nI 2) dX12_lentLine_23 (by decide) ?_
      refine v_iconst (v := nI 0) dX12_lentLine_24 (by decide) ?_
      refine u_callV_2 dX12_lentLine_25 ml_X12_262 mv_X12_passed (by first | assumption | rfl | exact led_1 (by assumption) | exact led_2 (by assumption) | exact bk_m (by assumption) (by first | assumption | omega) | exact bk_p (by assumption) (by first | assumption | omega) | exact bk_o (by assumption) (by first | assumption | omega) | exact bk_s (by assumption) (by first | assumption | omega) | exact bk_1 (by assumption) | exact bk_2 (by assumption) | exact bk_3 (by assumption) | exact bk_4 (by assumption) | exact bk_5 (by assumption) | exact bk_6 (by assumption) | exact bk_7 (by assumption) | exact bk_8 (by assumption) | exact sh_ring _ (by first | assumption | omega) | exact sh_imgs _ (by first | assumption | omega)) (by decide) rfl (by decide) (Nat.le_of_ble_eq_true rfl) (z_X12_passed (by (try simp only [ui_ne (show (157 : Nat) ≠ 161 by decide)]); exact j1.1) ?_)
      refine v_istore_2 rfl dX12_lentLine_28 ?_
      refine v_aload_0 dX12_lentLine_29 ?_
      refine v_ldcSw (i := 53) dX12_lentLine_30 (by decide) rfl rfl ?_
      refine u_callV_1 dX12_lentLine_33 ml_X12_267 mv_X12_day (by first | assumption | rfl | exact led_1 (by assumption) | exact led_2 (by assumption) | exact bk_m (by assumption) (by first | assumption | omega) | exact bk_p (by assumption) (by first | assumption | omega) | exact bk_o (by assumption) (by first | assumption | omega) | exact bk_s (by assumption) (by first | assumption | omega) | exact bk_1 (by assumption) | exact bk_2 (by assumption) | exact bk_3 (by assumption) | exact bk_4 (by assumption) | exact bk_5 (by assumption) | exact bk_6 (by assumption) | exact bk_7 (by assumption) | exact bk_8 (by assumption) | exact sh_ring _ (by first | assumption | omega) | exact sh_imgs _ (by first | assumption | omega)) (by decide) rfl (by decide) (Nat.le_of_ble_eq_true rfl) (z_X12_day hR (by (try simp only [ui_ne (show (157 : Nat) ≠ 161 by decide)]); exact j1.1) ?_)
      refine v_istore_3 rfl dX12_lentLine_36 ?_
      refine v_aload_0 dX12_lentLine_37 ?_
      refine v_ldcSw (i := 54) dX12_lentLine_38 (by decide) rfl rfl ?_
      refine u_callV_1 dX12_lentLine_41 ml_X12_166 mv_X12_must (by first | assumption | rfl | exact led_1 (by assumption) | exact led_2 (by assumption) | exact bk_m (by assumption) (by first | assumption | omega) | exact bk_p (by assumption) (by first | assumption | omega) | exact bk_o (by assumption) (by first | assumption | omega) | exact bk_s (by assumption) (by first | assumption | omega) | exact bk_1 (by assumption) | exact bk_2 (by assumption) | exact bk_3 (by assumption) | exact bk_4 (by assumption) | exact bk_5 (by assumption) | exact bk_6 (by assumption) | exact bk_7 (by assumption) | exact bk_8 (by assumption) | exact sh_ring _ (by first | assumption | omega) | exact sh_imgs _ (by first | assumption | omega)) (by decide) rfl (by decide) (Nat.le_of_ble_eq_true rfl) (z_X12_must (by (try simp only [ui_ne (show (157 : Nat) ≠ 161 by decide)]); exact j1.1) ?_)
      refine v_aload_0 dX12_lentLine_44 ?_
      refine u_getI dX12_lentLine_45 gf_X12_73 (by first | assumption | rfl | exact led_1 (by assumption) | exact led_2 (by assumption) | exact bk_m (by assumption) (by first | assumption | omega) | exact bk_p (by assumption) (by first | assumption | omega) | exact bk_o (by assumption) (by first | assumption | omega) | exact bk_s (by assumption) (by first | assumption | omega) | exact bk_1 (by assumption) | exact bk_2 (by assumption) | exact bk_3 (by assumption) | exact bk_4 (by assumption) | exact bk_5 (by assumption) | exact bk_6 (by assumption) | exact bk_7 (by assumption) | exact bk_8 (by assumption) | exact sh_ring _ (by first | assumption | omega) | exact sh_imgs _ (by first | assumption | omega)) ?_
      refine v_istore_4 rfl dX12_lentLine_48 ?_
      refine v_aload_0 dX12_lentLine_50 ?_
      refine v_iload_3 dX12_lentLine_51 ?_
      refine v_aload_0 dX12_lentLine_52 ?_
      refine u_getR dX12_lentLine_53 gf_X12_23 (by first | assumption | rfl | exact led_1 (by assumption) | exact led_2 (by assumption) | exact bk_m (by assumption) (by first | assumption | omega) | exact bk_p (by assumption) (by first | assumption | omega) | exact bk_o (by assumption) (by first | assumption | omega) | exact bk_s (by assumption) (by first | assumption | omega) | exact bk_1 (by assumption) | exact bk_2 (by assumption) | exact bk_3 (by assumption) | exact bk_4 (by assumption) | exact bk_5 (by assumption) | exact bk_6 (by assumption) | exact bk_7 (by assumption) | exact bk_8 (by assumption) | exact sh_ring _ (by first | assumption | omega) | exact sh_imgs _ (by first | assumption | omega)) (ro_X12_16 (by assumption)) ?_
      refine v_iconst (v := nI 0) dX12_lentLine_56 (by decide) ?_
      refine u_iald dX12_lentLine_57 (by first | assumption | rfl | exact led_1 (by assumption) | exact led_2 (by assumption) | exact bk_m (by assumption) (by first | assumption | omega) | exact bk_p (by assumption) (by first | assumption | omega) | exact bk_o (by assumption) (by first | assumption | omega) | exact bk_s (by assumption) (by first | assumption | omega) | exact bk_1 (by assumption) | exact bk_2 (by assumption) | exact bk_3 (by assumption) | exact bk_4 (by assumption) | exact bk_5 (by assumption) | exact bk_6 (by assumption) | exact bk_7 (by assumption) | exact bk_8 (by assumption) | exact sh_ring _ (by first | assumption | omega) | exact sh_imgs _ (by first | assumption | omega)) (by first | with_reducible rfl | (simp only [nlit, nI_add, pk_mul]; with_reducible rfl) | rfl) (by first | assumption | omega) (by first | assumption | decide) ?_
      refine u_callV_2 dX12_lentLine_58 ml_X12_170 mv_X12_number (by first | assumption | rfl | exact led_1 (by assumption) | exact led_2 (by assumption) | exact bk_m (by assumption) (by first | assumption | omega) | exact bk_p (by assumption) (by first | assumption | omega) | exact bk_o (by assumption) (by first | assumption | omega) | exact bk_s (by assumption) (by first | assumption | omega) | exact bk_1 (by assumption) | exact bk_2 (by assumption) | exact bk_3 (by assumption) | exact bk_4 (by assumption) | exact bk_5 (by assumption) | exact bk_6 (by assumption) | exact bk_7 (by assumption) | exact bk_8 (by assumption) | exact sh_ring _ (by first | assumption | omega) | exact sh_imgs _ (by first | assumption | omega)) (by decide) rfl (by decide) (Nat.le_of_ble_eq_true rfl) (z_X12_number (by (try simp only [ui_ne (show (157 : Nat) ≠ 161 by decide)]); exact j1.1) ?_)
      refine v_istore_5 rfl dX12_lentLine_61 ?_
      refine v_aload_0 dX12_lentLine_63 ?_
      refine u_getI dX12_lentLine_64 gf_X12_92 (by first | assumption | rfl | exact led_1 (by assumption) | exact led_2 (by assumption) | exact bk_m (by assumption) (by first | assumption | omega) | exact bk_p (by assumption) (by first | assumption | omega) | exact bk_o (by assumption) (by first | assumption | omega) | exact bk_s (by assumption) (by first | assumption | omega) | exact bk_1 (by assumption) | exact bk_2 (by assumption) | exact bk_3 (by assumption) | exact bk_4 (by assumption) | exact bk_5 (by assumption) | exact bk_6 (by assumption) | exact bk_7 (by assumption) | exact bk_8 (by assumption) | exact sh_ring _ (by first | assumption | omega) | exact sh_imgs _ (by first | assumption | omega)) ?_
      (try simp only [ui_ne (show (157 : Nat) ≠ 161 by decide)])
      rw [j1.1]
      refine v_if_ne (tgt := 98) dX12_lentLine_67 (by decide) (fun hc67 => ?_) (fun hc67 => ?_)
      · (first | rw [bI_0, Bool.not_eq_false] at hc67 | rw [bI_0] at hc67 | rw [show (0 : Int32) = nI 0 from rfl, nI_eq (by omega) (by omega)] at hc67 | skip)
        refine v_aload_0 dX12_lentLine_98 ?_
        refine u_getI dX12_lentLine_99 gf_X12_92 (by first | assumption | rfl | exact led_1 (by assumption) | exact led_2 (by assumption) | exact bk_m (by assumption) (by first | assumption | omega) | exact bk_p (by assumption) (by first | assumption | omega) | exact bk_o (by assumption) (by first | assumption | omega) | exact bk_s (by assumption) (by first | assumption | omega) | exact bk_1 (by assumption) | exact bk_2 (by assumption) | exact bk_3 (by assumption) | exact bk_4 (by assumption) | exact bk_5 (by assumption) | exact bk_6 (by assumption) | exact bk_7 (by assumption) | exact bk_8 (by assumption) | exact sh_ring _ (by first | assumption | omega) | exact sh_imgs _ (by first | assumption | omega)) ?_
        (try simp only [ui_ne (show (157 : Nat) ≠ 161 by decide)])
        rw [j1.1]
        refine v_if_ne (tgt := 117) dX12_lentLine_102 (by decide) (fun hc102 => ?_) (fun hc102 => ?_)
        · (first | rw [bI_0, Bool.not_eq_false] at hc102 | rw [bI_0] at hc102 | rw [show (0 : Int32) = nI 0 from rfl, nI_eq (by omega) (by omega)] at hc102 | skip)
          refine v_vret dX12_lentLine_117 rfl rfl rfl rfl ?_
          refine hF f p (by rw [lLent, bnd_l q]) _ ?_ ?_
          · (repeat (first | exact j1 | apply FlM.put))
          · (repeat (first | exact jf | apply FrK.up))
        · exact absurd hc102 (by decide)
      · exact absurd hc67 (by decide)
    · have e1 : u1.2 = s.2 := by rw [e1]; rfl
      have es1 : u1.2 = s.2 := e1.trans es0
      have hL := j11
      have jk := jk.trans j12.k
      refine v_istore_1 rfl dX12_lentLine_14 ?_
      refine v_aload_0 dX12_lentLine_15 ?_
      refine v_ldcSw (i := 52) dX12_lentLine_16 (by decide) rfl rfl ?_
      refine u_callV_1 dX12_lentLine_19 ml_X12_166 mv_X12_must (by first | assumption | rfl | exact led_1 (by assumption) | exact led_2 (by assumption) | exact bk_m (by assumption) (by first | assumption | omega) | exact bk_p (by assumption) (by first | assumption | omega) | exact bk_o (by assumption) (by first | assumption | omega) | exact bk_s (by assumption) (by first | assumption | omega) | exact bk_1 (by assumption) | exact bk_2 (by assumption) | exact bk_3 (by assumption) | exact bk_4 (by assumption) | exact bk_5 (by assumption) | exact bk_6 (by assumption) | exact bk_7 (by assumption) | exact bk_8 (by assumption) | exact sh_ring _ (by first | assumption | omega) | exact sh_imgs _ (by first | assumption | omega)) (by decide) rfl (by decide) (Nat.le_of_ble_eq_true rfl) (c_X12_must (i := 52) (s := u1) (by decide) hR hL (fun f p q J j1 j2 => ?_) (fun u2 q2 e2 J2 j21 j22 => ?_))
      · have q : qWord tp sz (wd 24) u1 = .inl (f, p) := q
        have jf := jk.trans j2.k
        refine v_aload_0 dX12_lentLine_22 ?_
        refine v_iconst (v := nI 2) dX12_lentLine_23 (by decide) ?_
        refine v_iconst (v := nI 0) dX12_lentLine_24 (by decide) ?_
        refine u_callV_2 dX12_lentLine_25 ml_X12_262 mv_X12_passed (by first | assumption | rfl | exact led_1 (by assumption) | exact led_2 (by assumption) | exact bk_m (by assumption) (by first | assumption | omega) | exact bk_p (by assumption) (by first | assumption | omega) | exact bk_o (by assumption) (by first | assumption | omega) | exact bk_s (by assumption) (by first | assumption | omega) | exact bk_1 (by assumption) | exact bk_2 (by assumption) | exact bk_3 (by assumption) | exact bk_4 (by assumption) | exact bk_5 (by assumption) | exact bk_6 (by assumption) | exact bk_7 (by assumption) | exact bk_8 (by assumption) | exact sh_ring _ (by first | assumption | omega) | exact sh_imgs _ (by first | assumption | omega)) (by decide) rfl (by decide) (Nat.le_of_ble_eq_true rfl) (z_X12_passed (by (try simp only [ui_ne (show (157 : Nat) ≠ 161 by decide)]); exact j1.1) ?_)
        refine v_istore_2 rfl dX12_lentLine_28 ?_
        refine v_aload_0 dX12_lentLine_29 ?_
        refine v_ldcSw (i := 53) dX12_lentLine_30 (by decide) rfl rfl ?_
        refine u_callV_1 dX12_lentLine_33 ml_X12_267 mv_X12_day (by first | assumption | rfl | exact led_1 (by assumption) | exact led_2 (by assumption) | exact bk_m (by assumption) (by first | assumption | omega) | exact bk_p (by assumption) (by first | assumption | omega) | exact bk_o (by assumption) (by first | assumption | omega) | exact bk_s (by assumption) (by first | assumption | omega) | exact bk_1 (by assumption) | exact bk_2 (by assumption) | exact bk_3 (by assumption) | exact bk_4 (by assumption) | exact bk_5 (by assumption) | exact bk_6 (by assumption) | exact bk_7 (by assumption) | exact bk_8 (by assumption) | exact sh_ring _ (by first | assumption | omega) | exact sh_imgs _ (by first | assumption | omega)) (by decide) rfl (by decide) (Nat.le_of_ble_eq_true rfl) (z_X12_day hR (by (try simp only [ui_ne (show (157 : Nat) ≠ 161 by decide)]); exact j1.1) ?_)
        refine v_istore_3 rfl dX12_lentLine_36 ?_
        refine v_aload_0 dX12_lentLine_37 ?_
        refine v_ldcSw (i := 54) dX12_lentLine_38 (by decide) rfl rfl ?_
        refine u_callV_1 dX12_lentLine_41 ml_X12_166 mv_X12_must (by first | assumption | rfl | exact led_1 (by assumption) | exact led_2 (by assumption) | exact bk_m (by assumption) (by first | assumption | omega) | exact bk_p (by assumption) (by first | assumption | omega) | exact bk_o (by assumption) (by first | assumption | omega) | exact bk_s (by assumption) (by first | assumption | omega) | exact bk_1 (by assumption) | exact bk_2 (by assumption) | exact bk_3 (by assumption) | exact bk_4 (by assumption) | exact bk_5 (by assumption) | exact bk_6 (by assumption) | exact bk_7 (by assumption) | exact bk_8 (by assumption) | exact sh_ring _ (by first | assumption | omega) | exact sh_imgs _ (by first | assumption | omega)) (by decide) rfl (by decide) (Nat.le_of_ble_eq_true rfl) (z_X12_must (by (try simp only [ui_ne (show (157 : Nat) ≠ 161 by decide)]); exact j1.1) ?_)
        refine v_aload_0 dX12_lentLine_44 ?_
        refine u_getI dX12_lentLine_45 gf_X12_73 (by first | assumption | rfl | exact led_1 (by assumption) | exact led_2 (by assumption) | exact bk_m (by assumption) (by first | assumption | omega) | exact bk_p (by assumption) (by first | assumption | omega) | exact bk_o (by assumption) (by first | assumption | omega) | exact bk_s (by assumption) (by first | assumption | omega) | exact bk_1 (by assumption) | exact bk_2 (by assumption) | exact bk_3 (by assumption) | exact bk_4 (by assumption) | exact bk_5 (by assumption) | exact bk_6 (by assumption) | exact bk_7 (by assumption) | exact bk_8 (by assumption) | exact sh_ring _ (by first | assumption | omega) | exact sh_imgs _ (by first | assumption | omega)) ?_
        refine v_istore_4 rfl dX12_lentLine_48 ?_
        refine v_aload_0 dX12_lentLine_50 ?_
        refine v_iload_3 dX12_lentLine_51 ?_
        refine v_aload_0 dX12_lentLine_52 ?_
        refine u_getR dX12_lentLine_53 gf_X12_23 (by first | assumption | rfl | exact led_1 (by assumption) | exact led_2 (by assumption) | exact bk_m (by assumption) (by first | assumption | omega) | exact bk_p (by assumption) (by first | assumption | omega) | exact bk_o (by assumption) (by first | assumption | omega) | exact bk_s (by assumption) (by first | assumption | omega) | exact bk_1 (by assumption) | exact bk_2 (by assumption) | exact bk_3 (by assumption) | exact bk_4 (by assumption) | exact bk_5 (by assumption) | exact bk_6 (by assumption) | exact bk_7 (by assumption) | exact bk_8 (by assumption) | exact sh_ring _ (by first | assumption | omega) | exact sh_imgs _ (by first | assumption | omega)) (ro_X12_16 (by assumption)) ?_
        refine v_iconst (v := nI 0) dX12_lentLine_56 (by decide) ?_
        refine u_iald dX12_lentLine_57 (by first | assumption | rfl | exact led_1 (by assumption) | exact led_2 (by assumption) | exact bk_m (by assumption) (by first | assumption | omega) | exact bk_p (by assumption) (by first | assumption | omega) | exact bk_o (by assumption) (by first | assumption | omega) | exact bk_s (by assumption) (by first | assumption | omega) | exact bk_1 (by assumption) | exact bk_2 (by assumption) | exact bk_3 (by assumption) | exact bk_4 (by assumption) | exact bk_5 (by assumption) | exact bk_6 (by assumption) | exact bk_7 (by assumption) | exact bk_8 (by assumption) | exact sh_ring _ (by first | assumption | omega) | exact sh_imgs _ (by first | assumption | omega)) (by first | with_reducible rfl | (simp only [nlit, nI_add, pk_mul]; with_reducible rfl) | rfl) (by first | assumption | omega) (by first | assumption | decide) ?_
        refine u_callV_2 dX12_lentLine_58 ml_X12_170 mv_X12_number (by first | assumption | rfl | exact led_1 (by assumption) | exact led_2 (by assumption) | exact bk_m (by assumption) (by first | assumption | omega) | exact bk_p (by assumption) (by first | assumption | omega) | exact bk_o (by assumption) (by first | assumption | omega) | exact bk_s (by assumption) (by first | assumption | omega) | exact bk_1 (by assumption) | exact bk_2 (by assumption) | exact bk_3 (by assumption) | exact bk_4 (by assumption) | exact bk_5 (by assumption) | exact bk_6 (by assumption) | exact bk_7 (by assumption) | exact bk_8 (by assumption) | exact sh_ring _ (by first | assumption | omega) | exact sh_imgs _ (by first | assumption | omega)) (by decide) rfl (by decide) (Nat.le_of_ble_eq_true rfl) (z_X12_number (by (try simp only [ui_ne (show (157 : Nat) ≠ 161 by decide)]); exact j1.1) ?_)
        refine v_istore_5 rfl dX12_lentLine_61 ?_
        refine v_aload_0 dX12_lentLine_63 ?_
        refine u_getI dX12_lentLine_64 gf_X12_92 (by first | assumption | rfl | exact led_1 (by assumption) | exact led_2 (by assumption) | exact bk_m (by assumption) (by first | assumption | omega) | exact bk_p (by assumption) (by first | assumption | omega) | exact bk_o (by assumption) (by first | assumption | omega) | exact bk_s (by assumption) (by first | assumption | omega) | exact bk_1 (by assumption) | exact bk_2 (by assumption) | exact bk_3 (by assumption) | exact bk_4 (by assumption) | exact bk_5 (by assumption) | exact bk_6 (by assumption) | exact bk_7 (by assumption) | exact bk_8 (by assumption) | exact sh_ring _ (by first | assumption | omega) | exact sh_imgs _ (by first | assumption | omega)) ?_
        (try simp only [ui_ne (show (157 : Nat) ≠ 161 by decide)])
        rw [j1.1]
        refine v_if_ne (tgt := 98) dX12_lentLine_67 (by decide) (fun hc67 => ?_) (fun hc67 => ?_)
        · (first | rw [bI_0, Bool.not_eq_false] at hc67 | rw [bI_0] at hc67 | rw [show (0 : Int32) = nI 0 from rfl, nI_eq (by omega) (by omega)] at hc67 | skip)
          refine v_aload_0 dX12_lentLine_98 ?_
          refine u_getI dX12_lentLine_99 gf_X12_92 (by first | assumption | rfl | exact led_1 (by assumption) | exact led_2 (by assumption) | exact bk_m (by assumption) (by first | assumption | omega) | exact bk_p (by assumption) (by first | assumption | omega) | exact bk_o (by assumption) (by first | assumption | omega) | exact bk_s (by assumption) (by first | assumption | omega) | exact bk_1 (by assumption) | exact bk_2 (by assumption) | exact bk_3 (by assumption) | exact bk_4 (by assumption) | exact bk_5 (by assumption) | exact bk_6 (by assumption) | exact bk_7 (by assumption) | exact bk_8 (by assumption) | exact sh_ring _ (by first | assumption | omega) | exact sh_imgs _ (by first | assumption | omega)) ?_
          (try simp only [ui_ne (show (157 : Nat) ≠ 161 by decide)])
          rw [j1.1]
          refine v_if_ne (tgt := 117) dX12_lentLine_102 (by decide) (fun hc102 => ?_) (fun hc102 => ?_)
          · (first | rw [bI_0, Bool.not_eq_false] at hc102 | rw [bI_0] at hc102 | rw [show (0 : Int32) = nI 0 from rfl, nI_eq (by omega) (by omega)] at hc102 | skip)
            refine v_vret dX12_lentLine_117 rfl rfl rfl rfl ?_
            refine hF f p (by rw [lLent, bnd_r q1, bnd_l q]) _ ?_ ?_
            · (repeat (first | exact j1 | apply FlM.put))
            · (repeat (first | exact jf | apply FrK.up))
          · exact absurd hc102 (by decide)
        · exact absurd hc67 (by decide)
      · have q2 : qWord tp sz (wd 24) u1 = .inr u2 := q2
        have e2 : u2.2 = u1.2 := by rw [e2]; rfl
        have es2 : u2.2 = s.2 := e2.trans es1
        have hL := j21
        have jk := jk.trans j22.k
        refine v_aload_0 dX12_lentLine_22 ?_
        refine v_iconst (v := nI 2) dX12_lentLine_23 (by decide) ?_
        refine v_iconst (v := nI 0) dX12_lentLine_24 (by decide) ?_
        refine u_callV_2 dX12_lentLine_25 ml_X12_262 mv_X12_passed (by first | assumption | rfl | exact led_1 (by assumption) | exact led_2 (by assumption) | exact bk_m (by assumption) (by first | assumption | omega) | exact bk_p (by assumption) (by first | assumption | omega) | exact bk_o (by assumption) (by first | assumption | omega) | exact bk_s (by assumption) (by first | assumption | omega) | exact bk_1 (by assumption) | exact bk_2 (by assumption) | exact bk_3 (by assumption) | exact bk_4 (by assumption) | exact bk_5 (by assumption) | exact bk_6 (by assumption) | exact bk_7 (by assumption) | exact bk_8 (by assumption) | exact sh_ring _ (by first | assumption | omega) | exact sh_imgs _ (by first | assumption | omega)) (by decide) rfl (by decide) (Nat.le_of_ble_eq_true rfl) (c_X12_passed_2 (but := 0) (s := u2) (by omega) hR hL (by rw [es2]; exact hG) (fun f p q J j1 j2 => ?_) (fun v3 u3 q3 e3 g3 J3 j31 j32 => ?_))
        · have jf := jk.trans j2.k
          refine v_istore_2 rfl dX12_lentLine_28 ?_
          refine v_aload_0 dX12_lentLine_29 ?_
          refine v_ldcSw (i := 53) dX12_lentLine_30 (by decide) rfl rfl ?_
          refine u_callV_1 dX12_lentLine_33 ml_X12_267 mv_X12_day (by first | assumption | rfl | exact led_1 (by assumption) | exact led_2 (by assumption) | exact bk_m (by assumption) (by first | assumption | omega) | exact bk_p (by assumption) (by first | assumption | omega) | exact bk_o (by assumption) (by first | assumption | omega) | exact bk_s (by assumption) (by first | assumption | omega) | exact bk_1 (by assumption) | exact bk_2 (by assumption) | exact bk_3 (by assumption) | exact bk_4 (by assumption) | exact bk_5 (by assumption) | exact bk_6 (by assumption) | exact bk_7 (by assumption) | exact bk_8 (by assumption) | exact sh_ring _ (by first | assumption | omega) | exact sh_imgs _ (by first | assumption | omega)) (by decide) rfl (by decide) (Nat.le_of_ble_eq_true rfl) (z_X12_day hR (by (try simp only [ui_ne (show (157 : Nat) ≠ 161 by decide)]); exact j1.1) ?_)
          refine v_istore_3 rfl dX12_lentLine_36 ?_
          refine v_aload_0 dX12_lentLine_37 ?_
          refine v_ldcSw (i := 54) dX12_lentLine_38 (by decide) rfl rfl ?_
          refine u_callV_1 dX12_lentLine_41 ml_X12_166 mv_X12_must (by first | assumption | rfl | exact led_1 (by assumption) | exact led_2 (by assumption) | exact bk_m (by assumption) (by first | assumption | omega) | exact bk_p (by assumption) (by first | assumption | omega) | exact bk_o (by assumption) (by first | assumption | omega) | exact bk_s (by assumption) (by first | assumption | omega) | exact bk_1 (by assumption) | exact bk_2 (by assumption) | exact bk_3 (by assumption) | exact bk_4 (by assumption) | exact bk_5 (by assumption) | exact bk_6 (by assumption) | exact bk_7 (by assumption) | exact bk_8 (by assumption) | exact sh_ring _ (by first | assumption | omega) | exact sh_imgs _ (by first | assumption | omega)) (by decide) rfl (by decide) (Nat.le_of_ble_eq_true rfl) (z_X12_must (by (try simp only [ui_ne (show (157 : Nat) ≠ 161 by decide)]); exact j1.1) ?_)
          refine v_aload_0 dX12_lentLine_44 ?_
          refine u_getI dX12_lentLine_45 gf_X12_73 (by first | assumption | rfl | exact led_1 (by assumption) | exact led_2 (by assumption) | exact bk_m (by assumption) (by first | assumption | omega) | exact bk_p (by assumption) (by first | assumption | omega) | exact bk_o (by assumption) (by first | assumption | omega) | exact bk_s (by assumption) (by first | assumption | omega) | exact bk_1 (by assumption) | exact bk_2 (by assumption) | exact bk_3 (by assumption) | exact bk_4 (by assumption) | exact bk_5 (by assumption) | exact bk_6 (by assumption) | exact bk_7 (by assumption) | exact bk_8 (by assumption) | exact sh_ring _ (by first | assumption | omega) | exact sh_imgs _ (by first | assumption | omega)) ?_
          refine v_istore_4 rfl dX12_lentLine_48 ?_
          refine v_aload_0 dX12_lentLine_50 ?_
          refine v_iload_3 dX12_lentLine_51 ?_
          refine v_aload_0 dX12_lentLine_52 ?_
          refine u_getR dX12_lentLine_53 gf_X12_23 (by first | assumption | rfl | exact led_1 (by assumption) | exact led_2 (by assumption) | exact bk_m (by assumption) (by first | assumption | omega) | exact bk_p (by assumption) (by first | assumption | omega) | exact bk_o (by assumption) (by first | assumption | omega) | exact bk_s (by assumption) (by first | assumption | omega) | exact bk_1 (by assumption) | exact bk_2 (by assumption) | exact bk_3 (by assumption) | exact bk_4 (by assumption) | exact bk_5 (by assumption) | exact bk_6 (by assumption) | exact bk_7 (by assumption) | exact bk_8 (by assumption) | exact sh_ring _ (by first | assumption | omega) | exact sh_imgs _ (by first | assumption | omega)) (ro_X12_16 (by assumption)) ?_
          refine v_iconst (v := nI 0) dX12_lentLine_56 (by decide) ?_
          refine u_iald dX12_lentLine_57 (by first | assumption | rfl | exact led_1 (by assumption) | exact led_2 (by assumption) | exact bk_m (by assumption) (by first | assumption | omega) | exact bk_p (by assumption) (by first | assumption | omega) | exact bk_o (by assumption) (by first | assumption | omega) | exact bk_s (by assumption) (by first | assumption | omega) | exact bk_1 (by assumption) | exact bk_2 (by assumption) | exact bk_3 (by assumption) | exact bk_4 (by assumption) | exact bk_5 (by assumption) | exact bk_6 (by assumption) | exact bk_7 (by assumption) | exact bk_8 (by assumption) | exact sh_ring _ (by first | assumption | omega) | exact sh_imgs _ (by first | assumption | omega)) (by first | with_reducible rfl | (simp only [nlit, nI_add, pk_mul]; with_reducible rfl) | rfl) (by first | assumption | omega) (by first | assumption | decide) ?_
          refine u_callV_2 dX12_lentLine_58 ml_X12_170 mv_X12_number (by first | assumption | rfl | exact led_1 (by assumption) | exact led_2 (by assumption) | exact bk_m (by assumption) (by first | assumption | omega) | exact bk_p (by assumption) (by first | assumption | omega) | exact bk_o (by assumption) (by first | assumption | omega) | exact bk_s (by assumption) (by first | assumption | omega) | exact bk_1 (by assumption) | exact bk_2 (by assumption) | exact bk_3 (by assumption) | exact bk_4 (by assumption) | exact bk_5 (by assumption) | exact bk_6 (by assumption) | exact bk_7 (by assumption) | exact bk_8 (by assumption) | exact sh_ring _ (by first | assumption | omega) | exact sh_imgs _ (by first | assumption | omega)) (by decide) rfl (by decide) (Nat.le_of_ble_eq_true rfl) (z_X12_number (by (try simp only [ui_ne (show (157 : Nat) ≠ 161 by decide)]); exact j1.1) ?_)
          refine v_istore_5 rfl dX12_lentLine_61 ?_
          refine v_aload_0 dX12_lentLine_63 ?_
          refine u_getI dX12_lentLine_64 gf_X12_92 (by first | assumption | rfl | exact led_1 (by assumption) | exact led_2 (by assumption) | exact bk_m (by assumption) (by first | assumption | omega) | exact bk_p (by assumption) (by first | assumption | omega) | exact bk_o (by assumption) (by first | assumption | omega) | exact bk_s (by assumption) (by first | assumption | omega) | exact bk_1 (by assumption) | exact bk_2 (by assumption) | exact bk_3 (by assumption) | exact bk_4 (by assumption) | exact bk_5 (by assumption) | exact bk_6 (by assumption) | exact bk_7 (by assumption) | exact bk_8 (by assumption) | exact sh_ring _ (by first | assumption | omega) | exact sh_imgs _ (by first | assumption | omega)) ?_
          (try simp only [ui_ne (show (157 : Nat) ≠ 161 by decide)])
          rw [j1.1]
          refine v_if_ne (tgt := 98) dX12_lentLine_67 (by decide) (fun hc67 => ?_) (fun hc67 => ?_)
          · (first | rw [bI_0, Bool.not_eq_false] at hc67 | rw [bI_0] at hc67 | rw [show (0 : Int32) = nI 0 from rfl, nI_eq (by omega) (by omega)] at hc67 | skip)
            refine v_aload_0 dX12_lentLine_98 ?_
            refine u_getI dX12_lentLine_99 gf_X12_92 (by first | assumption | rfl | exact led_1 (by assumption) | exact led_2 (by assumption) | exact bk_m (by assumption) (by first | assumption | omega) | exact bk_p (by assumption) (by first | assumption | omega) | exact bk_o (by assumption) (by first | assumption | omega) | exact bk_s (by assumption) (by first | assumption | omega) | exact bk_1 (by assumption) | exact bk_2 (by assumption) | exact bk_3 (by assumption) | exact bk_4 (by assumption) | exact bk_5 (by assumption) | exact bk_6 (by assumption) | exact bk_7 (by assumption) | exact bk_8 (by assumption) | exact sh_ring _ (by first | assumption | omega) | exact sh_imgs _ (by first | assumption | omega)) ?_
            (try simp only [ui_ne (show (157 : Nat) ≠ 161 by decide)])
            rw [j1.1]
            refine v_if_ne (tgt := 117) dX12_lentLine_102 (by decide) (fun hc102 => ?_) (fun hc102 => ?_)
            · (first | rw [bI_0, Bool.not_eq_false] at hc102 | rw [bI_0] at hc102 | rw [show (0 : Int32) = nI 0 from rfl, nI_eq (by omega) (by omega)] at hc102 | skip)
              refine v_vret dX12_lentLine_117 rfl rfl rfl rfl ?_
              refine hF f p (by rw [lLent, bnd_r q1, bnd_r q2, bnd_l q]) _ ?_ ?_
              · (repeat (first | exact j1 | apply FlM.put))
              · (repeat (first | exact jf | apply FrK.up))
            · exact absurd hc102 (by decide)
          · exact absurd hc67 (by decide)
        · have e3 : u3.2 = u2.2 := by rw [e3]; rfl
          have es3 : u3.2 = s.2 := e3.trans es2
          have hL := j31
          have jk := jk.trans j32.k
          refine v_istore_2 rfl dX12_lentLine_28 ?_
          refine v_aload_0 dX12_lentLine_29 ?_
          refine v_ldcSw (i := 53) dX12_lentLine_30 (by decide) rfl rfl ?_
          refine u_callV_1 dX12_lentLine_33 ml_X12_267 mv_X12_day (by first | assumption | rfl | exact led_1 (by assumption) | exact led_2 (by assumption) | exact bk_m (by assumption) (by first | assumption | omega) | exact bk_p (by assumption) (by first | assumption | omega) | exact bk_o (by assumption) (by first | assumption | omega) | exact bk_s (by assumption) (by first | assumption | omega) | exact bk_1 (by assumption) | exact bk_2 (by assumption) | exact bk_3 (by assumption) | exact bk_4 (by assumption) | exact bk_5 (by assumption) | exact bk_6 (by assumption) | exact bk_7 (by assumption) | exact bk_8 (by assumption) | exact sh_ring _ (by first | assumption | omega) | exact sh_imgs _ (by first | assumption | omega)) (by decide) rfl (by decide) (Nat.le_of_ble_eq_true rfl) (c_X12_day (i := 53) (d := s.2.1 0) (s := u3) (by decide) hc_0 hR hL (fun f p q J j1 j2 => ?_) (fun v4 u4 q4 e4 g4 h4 w4 J4 j41 j42 => ?_))
          · have q : qWhole tp sz (wd 25) 1 (s.2.1 0) u3 = .inl (f, p) := q
            have jf := jk.trans j2.k
            refine v_istore_3 rfl dX12_lentLine_36 ?_
            refine v_aload_0 dX12_lentLine_37 ?_
            refine v_ldcSw (i := 54) dX12_lentLine_38 (by decide) rfl rfl ?_
            refine u_callV_1 dX12_lentLine_41 ml_X12_166 mv_X12_must (by first | assumption | rfl | exact led_1 (by assumption) | exact led_2 (by assumption) | exact bk_m (by assumption) (by first | assumption | omega) | exact bk_p (by assumption) (by first | assumption | omega) | exact bk_o (by assumption) (by first | assumption | omega) | exact bk_s (by assumption) (by first | assumption | omega) | exact bk_1 (by assumption) | exact bk_2 (by assumption) | exact bk_3 (by assumption) | exact bk_4 (by assumption) | exact bk_5 (by assumption) | exact bk_6 (by assumption) | exact bk_7 (by assumption) | exact bk_8 (by assumption) | exact sh_ring _ (by first | assumption | omega) | exact sh_imgs _ (by first | assumption | omega)) (by decide) rfl (by decide) (Nat.le_of_ble_eq_true rfl) (z_X12_must (by (try simp only [ui_ne (show (157 : Nat) ≠ 161 by decide)]); exact j1.1) ?_)
            refine v_aload_0 dX12_lentLine_44 ?_
            refine u_getI dX12_lentLine_45 gf_X12_73 (by first | assumption | rfl | exact led_1 (by assumption) | exact led_2 (by assumption) | exact bk_m (by assumption) (by first | assumption | omega) | exact bk_p (by assumption) (by first | assumption | omega) | exact bk_o (by assumption) (by first | assumption | omega) | exact bk_s (by assumption) (by first | assumption | omega) | exact bk_1 (by assumption) | exact bk_2 (by assumption) | exact bk_3 (by assumption) | exact bk_4 (by assumption) | exact bk_5 (by assumption) | exact bk_6 (by assumption) | exact bk_7 (by assumption) | exact bk_8 (by assumption) | exact sh_ring _ (by first | assumption | omega) | exact sh_imgs _ (by first | assumption | omega)) ?_
            refine v_istore_4 rfl dX12_lentLine_48 ?_
            refine v_aload_0 dX12_lentLine_50 ?_
            refine v_iload_3 dX12_lentLine_51 ?_
            refine v_aload_0 dX12_lentLine_52 ?_
            refine u_getR dX12_lentLine_53 gf_X12_23 (by first | assumption | rfl | exact led_1 (by assumption) | exact led_2 (by assumption) | exact bk_m (by assumption) (by first | assumption | omega) | exact bk_p (by assumption) (by first | assumption | omega) | exact bk_o (by assumption) (by first | assumption | omega) | exact bk_s (by assumption) (by first | assumption | omega) | exact bk_1 (by assumption) | exact bk_2 (by assumption) | exact bk_3 (by assumption) | exact bk_4 (by assumption) | exact bk_5 (by assumption) | exact bk_6 (by assumption) | exact bk_7 (by assumption) | exact bk_8 (by assumption) | exact sh_ring _ (by first | assumption | omega) | exact sh_imgs _ (by first | assumption | omega)) (ro_X12_16 (by assumption)) ?_
            refine v_iconst (v := nI 0) dX12_lentLine_56 (by decide) ?_
            refine u_iald dX12_lentLine_57 (by first | assumption | rfl | exact led_1 (by assumption) | exact led_2 (by assumption) | exact bk_m (by assumption) (by first | assumption | omega) | exact bk_p (by assumption) (by first | assumption | omega) | exact bk_o (by assumption) (by first | assumption | omega) | exact bk_s (by assumption) (by first | assumption | omega) | exact bk_1 (by assumption) | exact bk_2 (by assumption) | exact bk_3 (by assumption) | exact bk_4 (by assumption) | exact bk_5 (by assumption) | exact bk_6 (by assumption) | exact bk_7 (by assumption) | exact bk_8 (by assumption) | exact sh_ring _ (by first | assumption | omega) | exact sh_imgs _ (by first | assumption | omega)) (by first | with_reducible rfl | (simp only [nlit, nI_add, pk_mul]; with_reducible rfl) | rfl) (by first | assumption | omega) (by first | assumption | decide) ?_
            refine u_callV_2 dX12_lentLine_58 ml_X12_170 mv_X12_number (by first | assumption | rfl | exact led_1 (by assumption) | exact led_2 (by assumption) | exact bk_m (by assumption) (by first | assumption | omega) | exact bk_p (by assumption) (by first | assumption | omega) | exact bk_o (by assumption) (by first | assumption | omega) | exact bk_s (by assumption) (by first | assumption | omega) | exact bk_1 (by assumption) | exact bk_2 (by assumption) | exact bk_3 (by assumption) | exact bk_4 (by assumption) | exact bk_5 (by assumption) | exact bk_6 (by assumption) | exact bk_7 (by assumption) | exact bk_8 (by assumption) | exact sh_ring _ (by first | assumption | omega) | exact sh_imgs _ (by first | assumption | omega)) (by decide) rfl (by decide) (Nat.le_of_ble_eq_true rfl) (z_X12_number (by (try simp only [ui_ne (show (157 : Nat) ≠ 161 by decide)]); exact j1.1) ?_)
            refine v_istore_5 rfl dX12_lentLine_61 ?_
            refine v_aload_0 dX12_lentLine_63 ?_
            refine u_getI dX12_lentLine_64 gf_X12_92 (by first | assumption | rfl | exact led_1 (by assumption) | exact led_2 (by assumption) | exact bk_m (by assumption) (by first | assumption | omega) | exact bk_p (by assumption) (by first | assumption | omega) | exact bk_o (by assumption) (by first | assumption | omega) | exact bk_s (by assumption) (by first | assumption | omega) | exact bk_1 (by assumption) | exact bk_2 (by assumption) | exact bk_3 (by assumption) | exact bk_4 (by assumption) | exact bk_5 (by assumption) | exact bk_6 (by assumption) | exact bk_7 (by assumption) | exact bk_8 (by assumption) | exact sh_ring _ (by first | assumption | omega) | exact sh_imgs _ (by first | assumption | omega)) ?_
            (try simp only [ui_ne (show (157 : Nat) ≠ 161 by decide)])
            rw [j1.1]
            refine v_if_ne (tgt := 98) dX12_lentLine_67 (by decide) (fun hc67 => ?_) (fun hc67 => ?_)
            · (first | rw [bI_0, Bool.not_eq_false] at hc67 | rw [bI_0] at hc67 | rw [show (0 : Int32) = nI 0 from rfl, nI_eq (by omega) (by omega)] at hc67 | skip)
              refine v_aload_0 dX12_lentLine_98 ?_
              refine u_getI dX12_lentLine_99 gf_X12_92 (by first | assumption | rfl | exact led_1 (by assumption) | exact led_2 (by assumption) | exact bk_m (by assumption) (by first | assumption | omega) | exact bk_p (by assumption) (by first | assumption | omega) | exact bk_o (by assumption) (by first | assumption | omega) | exact bk_s (by assumption) (by first | assumption | omega) | exact bk_1 (by assumption) | exact bk_2 (by assumption) | exact bk_3 (by assumption) | exact bk_4 (by assumption) | exact bk_5 (by assumption) | exact bk_6 (by assumption) | exact bk_7 (by assumption) | exact bk_8 (by assumption) | exact sh_ring _ (by first | assumption | omega) | exact sh_imgs _ (by first | assumption | omega)) ?_
              (try simp only [ui_ne (show (157 : Nat) ≠ 161 by decide)])
              rw [j1.1]
              refine v_if_ne (tgt := 117) dX12_lentLine_102 (by decide) (fun hc102 => ?_) (fun hc102 => ?_)
              · (first | rw [bI_0, Bool.not_eq_false] at hc102 | rw [bI_0] at hc102 | rw [show (0 : Int32) = nI 0 from rfl, nI_eq (by omega) (by omega)] at hc102 | skip)
                refine v_vret dX12_lentLine_117 rfl rfl rfl rfl ?_
                refine hF f p (by rw [lLent, bnd_r q1, bnd_r q2, bnd_r q3, bnd_l q]) _ ?_ ?_
                · (repeat (first | exact j1 | apply FlM.put))
                · (repeat (first | exact jf | apply FrK.up))
              · exact absurd hc102 (by decide)
            · exact absurd hc67 (by decide)
          · have q4 : qWhole tp sz (wd 25) 1 (s.2.1 0) u3 = .inr (v4, u4) := q4
            have es4 : u4.2 = s.2 := e4.trans es3
            have hL := j41
            have jk := jk.trans j42.k
            refine v_istore_3 rfl dX12_lentLine_36 ?_
            refine v_aload_0 dX12_lentLine_37 ?_
            refine v_ldcSw (i := 54) dX12_lentLine_38 (by decide) rfl rfl ?_
            refine u_callV_1 dX12_lentLine_41 ml_X12_166 mv_X12_must (by first | assumption | rfl | exact led_1 (by assumption) | exact led_2 (by assumption) | exact bk_m (by assumption) (by first | assumption | omega) | exact bk_p (by assumption) (by first | assumption | omega) | exact bk_o (by assumption) (by first | assumption | omega) | exact bk_s (by assumption) (by first | assumption | omega) | exact bk_1 (by assumption) | exact bk_2 (by assumption) | exact bk_3 (by assumption) | exact bk_4 (by assumption) | exact bk_5 (by assumption) | exact bk_6 (by assumption) | exact bk_7 (by assumption) | exact bk_8 (by assumption) | exact sh_ring _ (by first | assumption | omega) | exact sh_imgs _ (by first | assumption | omega)) (by decide) rfl (by decide) (Nat.le_of_ble_eq_true rfl) (c_X12_must (i := 54) (s := u4) (by decide) hR hL (fun f p q J j1 j2 => ?_) (fun u5 q5 e5 J5 j51 j52 => ?_))
            · have q : qWord tp sz (wd 26) u4 = .inl (f, p) := q
              have jf := jk.trans j2.k
              refine v_aload_0 dX12_lentLine_44 ?_
              refine u_getI dX12_lentLine_45 gf_X12_73 (by first | assumption | rfl | exact led_1 (by assumption) | exact led_2 (by assumption) | exact bk_m (by assumption) (by first | assumption | omega) | exact bk_p (by assumption) (by first | assumption | omega) | exact bk_o (by assumption) (by first | assumption | omega) | exact bk_s (by assumption) (by first | assumption | omega) | exact bk_1 (by assumption) | exact bk_2 (by assumption) | exact bk_3 (by assumption) | exact bk_4 (by assumption) | exact bk_5 (by assumption) | exact bk_6 (by assumption) | exact bk_7 (by assumption) | exact bk_8 (by assumption) | exact sh_ring _ (by first | assumption | omega) | exact sh_imgs _ (by first | assumption | omega)) ?_
              refine v_istore_4 rfl dX12_lentLine_48 ?_
              refine v_aload_0 dX12_lentLine_50 ?_
              refine v_iload_3 dX12_lentLine_51 ?_
              refine v_aload_0 dX12_lentLine_52 ?_
              refine u_getR dX12_lentLine_53 gf_X12_23 (by first | assumption | rfl | exact led_1 (by assumption) | exact led_2 (by assumption) | exact bk_m (by assumption) (by first | assumption | omega) | exact bk_p (by assumption) (by first | assumption | omega) | exact bk_o (by assumption) (by first | assumption | omega) | exact bk_s (by assumption) (by first | assumption | omega) | exact bk_1 (by assumption) | exact bk_2 (by assumption) | exact bk_3 (by assumption) | exact bk_4 (by assumption) | exact bk_5 (by assumption) | exact bk_6 (by assumption) | exact bk_7 (by assumption) | exact bk_8 (by assumption) | exact sh_ring _ (by first | assumption | omega) | exact sh_imgs _ (by first | assumption | omega)) (ro_X12_16 (by assumption)) ?_
              refine v_iconst (v := nI 0) dX12_lentLine_56 (by decide) ?_
              refine u_iald dX12_lentLine_57 (by first | assumption | rfl | exact led_1 (by assumption) | exact led_2 (by assumption) | exact bk_m (by assumption) (by first | assumption | omega) | exact bk_p (by assumption) (by first | assumption | omega) | exact bk_o (by assumption) (by first | assumption | omega) | exact bk_s (by assumption) (by first | assumption | omega) | exact bk_1 (by assumption) | exact bk_2 (by assumption) | exact bk_3 (by assumption) | exact bk_4 (by assumption) | exact bk_5 (by assumption) | exact bk_6 (by assumption) | exact bk_7 (by assumption) | exact bk_8 (by assumption) | exact sh_ring _ (by first | assumption | omega) | exact sh_imgs _ (by first | assumption | omega)) (by first | with_reducible rfl | (simp only [nlit, nI_add, pk_mul]; with_reducible rfl) | rfl) (by first | assumption | omega) (by first | assumption | decide) ?_
              refine u_callV_2 dX12_lentLine_58 ml_X12_170 mv_X12_number (by first | assumption | rfl | exact led_1 (by assumption) | exact led_2 (by assumption) | exact bk_m (by assumption) (by first | assumption | omega) | exact bk_p (by assumption) (by first | assumption | omega) | exact bk_o (by assumption) (by first | assumption | omega) | exact bk_s (by assumption) (by first | assumption | omega) | exact bk_1 (by assumption) | exact bk_2 (by assumption) | exact bk_3 (by assumption) | exact bk_4 (by assumption) | exact bk_5 (by assumption) | exact bk_6 (by assumption) | exact bk_7 (by assumption) | exact bk_8 (by assumption) | exact sh_ring _ (by first | assumption | omega) | exact sh_imgs _ (by first | assumption | omega)) (by decide) rfl (by decide) (Nat.le_of_ble_eq_true rfl) (z_X12_number (by (try simp only [ui_ne (show (157 : Nat) ≠ 161 by decide)]); exact j1.1) ?_)
              refine v_istore_5 rfl dX12_lentLine_61 ?_
              refine v_aload_0 dX12_lentLine_63 ?_
              refine u_getI dX12_lentLine_64 gf_X12_92 (by first | assumption | rfl | exact led_1 (by assumption) | exact led_2 (by assumption) | exact bk_m (by assumption) (by first | assumption | omega) | exact bk_p (by assumption) (by first | assumption | omega) | exact bk_o (by assumption) (by first | assumption | omega) | exact bk_s (by assumption) (by first | assumption | omega) | exact bk_1 (by assumption) | exact bk_2 (by assumption) | exact bk_3 (by assumption) | exact bk_4 (by assumption) | exact bk_5 (by assumption) | exact bk_6 (by assumption) | exact bk_7 (by assumption) | exact bk_8 (by assumption) | exact sh_ring _ (by first | assumption | omega) | exact sh_imgs _ (by first | assumption | omega)) ?_
              (try simp only [ui_ne (show (157 : Nat) ≠ 161 by decide)])
              rw [j1.1]
              refine v_if_ne (tgt := 98) dX12_lentLine_67 (by decide) (fun hc67 => ?_) (fun hc67 => ?_)
              · (first | rw [bI_0, Bool.not_eq_false] at hc67 | rw [bI_0] at hc67 | rw [show (0 : Int32) = nI 0 from rfl, nI_eq (by omega) (by omega)] at hc67 | skip)
                refine v_aload_0 dX12_lentLine_98 ?_
                refine u_getI dX12_lentLine_99 gf_X12_92 (by first | assumption | rfl | exact led_1 (by assumption) | exact led_2 (by assumption) | exact bk_m (by assumption) (by first | assumption | omega) | exact bk_p (by assumption) (by first | assumption | omega) | exact bk_o (by assumption) (by first | assumption | omega) | exact bk_s (by assumption) (by first | assumption | omega) | exact bk_1 (by assumption) | exact bk_2 (by assumption) | exact bk_3 (by assumption) | exact bk_4 (by assumption) | exact bk_5 (by assumption) | exact bk_6 (by assumption) | exact bk_7 (by assumption) | exact bk_8 (by assumption) | exact sh_ring _ (by first | assumption | omega) | exact sh_imgs _ (by first | assumption | omega)) ?_
                (try simp only [ui_ne (show (157 : Nat) ≠ 161 by decide)])
                rw [j1.1]
                refine v_if_ne (tgt := 117) dX12_lentLine_102 (by decide) (fun hc102 => ?_) (fun hc102 => ?_)
                · (first | rw [bI_0, Bool.not_eq_false] at hc102 | rw [bI_0] at hc102 | rw [show (0 : Int32) = nI 0 from rfl, nI_eq (by omega) (by omega)] at hc102 | skip)
                  refine v_vret dX12_lentLine_117 rfl rfl rfl rfl ?_
                  refine hF f p (by rw [lLent, bnd_r q1, bnd_r q2, bnd_r q3, bnd_r q4, bnd_l q]) _ ?_ ?_
                  · (repeat (first | exact j1 | apply FlM.put))
                  · (repeat (first | exact jf | apply FrK.up))
                · exact absurd hc102 (by decide)
              · exact absurd hc67 (by decide)
            · have q5 : qWord tp sz (wd 26) u4 = .inr u5 := q5
              have e5 : u5.2 = u4.2 := by rw [e5]; rfl
              have es5 : u5.2 = s.2 := e5.trans es4
              have hL := j51
              have jk := jk.trans j52.k
              refine v_aload_0 dX12_lentLine_44 ?_
              refine u_getI dX12_lentLine_45 gf_X12_73 (by first | assumption | rfl | exact led_1 (by assumption) | exact led_2 (by assumption) | exact bk_m (by assumption) (by first | assumption | omega) | exact bk_p (by assumption) (by first | assumption | omega) | exact bk_o (by assumption) (by first | assumption | omega) | exact bk_s (by assumption) (by first | assumption | omega) | exact bk_1 (by assumption) | exact bk_2 (by assumption) | exact bk_3 (by assumption) | exact bk_4 (by assumption) | exact bk_5 (by assumption) | exact bk_6 (by assumption) | exact bk_7 (by assumption) | exact bk_8 (by assumption) | exact sh_ring _ (by first | assumption | omega) | exact sh_imgs _ (by first | assumption | omega)) ?_
              rw [hL.2.2.2.1.1]
              refine v_istore_4 rfl dX12_lentLine_48 ?_
              refine v_aload_0 dX12_lentLine_50 ?_
              refine v_iload_3 dX12_lentLine_51 ?_
              refine v_aload_0 dX12_lentLine_52 ?_
              refine u_getR dX12_lentLine_53 gf_X12_23 (by first | assumption | rfl | exact led_1 (by assumption) | exact led_2 (by assumption) | exact bk_m (by assumption) (by first | assumption | omega) | exact bk_p (by assumption) (by first | assumption | omega) | exact bk_o (by assumption) (by first | assumption | omega) | exact bk_s (by assumption) (by first | assumption | omega) | exact bk_1 (by assumption) | exact bk_2 (by assumption) | exact bk_3 (by assumption) | exact bk_4 (by assumption) | exact bk_5 (by assumption) | exact bk_6 (by assumption) | exact bk_7 (by assumption) | exact bk_8 (by assumption) | exact sh_ring _ (by first | assumption | omega) | exact sh_imgs _ (by first | assumption | omega)) (ro_X12_16 (by assumption)) ?_
              refine v_iconst (v := nI 0) dX12_lentLine_56 (by decide) ?_
              refine u_iald dX12_lentLine_57 (by first | assumption | rfl | exact led_1 (by assumption) | exact led_2 (by assumption) | exact bk_m (by assumption) (by first | assumption | omega) | exact bk_p (by assumption) (by first | assumption | omega) | exact bk_o (by assumption) (by first | assumption | omega) | exact bk_s (by assumption) (by first | assumption | omega) | exact bk_1 (by assumption) | exact bk_2 (by assumption) | exact bk_3 (by assumption) | exact bk_4 (by assumption) | exact bk_5 (by assumption) | exact bk_6 (by assumption) | exact bk_7 (by assumption) | exact bk_8 (by assumption) | exact sh_ring _ (by first | assumption | omega) | exact sh_imgs _ (by first | assumption | omega)) (by first | with_reducible rfl | (simp only [nlit, nI_add, pk_mul]; with_reducible rfl) | rfl) (by first | assumption | omega) (by first | assumption | decide) ?_
              rw [(hL.2.2.2.2.1 0 (by decide)).1]
              refine u_callV_2 dX12_lentLine_58 ml_X12_170 mv_X12_number (by first | assumption | rfl | exact led_1 (by assumption) | exact led_2 (by assumption) | exact bk_m (by assumption) (by first | assumption | omega) | exact bk_p (by assumption) (by first | assumption | omega) | exact bk_o (by assumption) (by first | assumption | omega) | exact bk_s (by assumption) (by first | assumption | omega) | exact bk_1 (by assumption) | exact bk_2 (by assumption) | exact bk_3 (by assumption) | exact bk_4 (by assumption) | exact bk_5 (by assumption) | exact bk_6 (by assumption) | exact bk_7 (by assumption) | exact bk_8 (by assumption) | exact sh_ring _ (by first | assumption | omega) | exact sh_imgs _ (by first | assumption | omega)) (by decide) rfl (by decide) (Nat.le_of_ble_eq_true rfl) (c_X12_number (lo := v4) (hi := (s.2.1 0)) (s := u5) (by omega) (by omega) hR hL (fun f p q J j1 j2 => ?_) (fun v6 u6 q6 e6 g6 h6 w6 J6 j61 j62 => ?_))
              · have jf := jk.trans j2.k
                refine v_istore_5 rfl dX12_lentLine_61 ?_
                refine v_aload_0 dX12_lentLine_63 ?_
                refine u_getI dX12_lentLine_64 gf_X12_92 (by first | assumption | rfl | exact led_1 (by assumption) | exact led_2 (by assumption) | exact bk_m (by assumption) (by first | assumption | omega) | exact bk_p (by assumption) (by first | assumption | omega) | exact bk_o (by assumption) (by first | assumption | omega) | exact bk_s (by assumption) (by first | assumption | omega) | exact bk_1 (by assumption) | exact bk_2 (by assumption) | exact bk_3 (by assumption) | exact bk_4 (by assumption) | exact bk_5 (by assumption) | exact bk_6 (by assumption) | exact bk_7 (by assumption) | exact bk_8 (by assumption) | exact sh_ring _ (by first | assumption | omega) | exact sh_imgs _ (by first | assumption | omega)) ?_
                (try simp only [ui_ne (show (157 : Nat) ≠ 161 by decide)])
                rw [j1.1]
                refine v_if_ne (tgt := 98) dX12_lentLine_67 (by decide) (fun hc67 => ?_) (fun hc67 => ?_)
                · (first | rw [bI_0, Bool.not_eq_false] at hc67 | rw [bI_0] at hc67 | rw [show (0 : Int32) = nI 0 from rfl, nI_eq (by omega) (by omega)] at hc67 | skip)
                  refine v_aload_0 dX12_lentLine_98 ?_
                  refine u_getI dX12_lentLine_99 gf_X12_92 (by first | assumption | rfl | exact led_1 (by assumption) | exact led_2 (by assumption) | exact bk_m (by assumption) (by first | assumption | omega) | exact bk_p (by assumption) (by first | assumption | omega) | exact bk_o (by assumption) (by first | assumption | omega) | exact bk_s (by assumption) (by first | assumption | omega) | exact bk_1 (by assumption) | exact bk_2 (by assumption) | exact bk_3 (by assumption) | exact bk_4 (by assumption) | exact bk_5 (by assumption) | exact bk_6 (by assumption) | exact bk_7 (by assumption) | exact bk_8 (by assumption) | exact sh_ring _ (by first | assumption | omega) | exact sh_imgs _ (by first | assumption | omega)) ?_
                  (try simp only [ui_ne (show (157 : Nat) ≠ 161 by decide)])
                  rw [j1.1]
                  refine v_if_ne (tgt := 117) dX12_lentLine_102 (by decide) (fun hc102 => ?_) (fun hc102 => ?_)
                  · (first | rw [bI_0, Bool.not_eq_false] at hc102 | rw [bI_0] at hc102 | rw [show (0 : Int32) = nI 0 from rfl, nI_eq (by omega) (by omega)] at hc102 | skip)
                    refine v_vret dX12_lentLine_117 rfl rfl rfl rfl ?_
                    refine hF f p (by rw [lLent, bnd_r q1, bnd_r q2, bnd_r q3, bnd_r q4, bnd_r q5, bnd_l q]) _ ?_ ?_
                    · (repeat (first | exact j1 | apply FlM.put))
                    · (repeat (first | exact jf | apply FrK.up))
                  · exact absurd hc102 (by decide)
                · exact absurd hc67 (by decide)
              · have e6 : u6.2 = u5.2 := by rw [e6]; rfl
                have es6 : u6.2 = s.2 := e6.trans es5
                have hL := j61
                have jk := jk.trans j62.k
                refine v_istore_5 rfl dX12_lentLine_61 ?_
                refine v_aload_0 dX12_lentLine_63 ?_
                refine u_getI dX12_lentLine_64 gf_X12_92 (by first | assumption | rfl | exact led_1 (by assumption) | exact led_2 (by assumption) | exact bk_m (by assumption) (by first | assumption | omega) | exact bk_p (by assumption) (by first | assumption | omega) | exact bk_o (by assumption) (by first | assumption | omega) | exact bk_s (by assumption) (by first | assumption | omega) | exact bk_1 (by assumption) | exact bk_2 (by assumption) | exact bk_3 (by assumption) | exact bk_4 (by assumption) | exact bk_5 (by assumption) | exact bk_6 (by assumption) | exact bk_7 (by assumption) | exact bk_8 (by assumption) | exact sh_ring _ (by first | assumption | omega) | exact sh_imgs _ (by first | assumption | omega)) ?_
                rw [hL.2.2.1]
                refine v_if_ne (tgt := 98) dX12_lentLine_67 (by decide) (fun hc67 => ?_) (fun hc67 => ?_)
                · exact absurd rfl hc67
                · (first | rw [bI_0, Bool.not_eq_false] at hc67 | rw [bI_0] at hc67 | rw [show (0 : Int32) = nI 0 from rfl, nI_eq (by omega) (by omega)] at hc67 | skip)
                  refine v_aload_0 dX12_lentLine_70 ?_
                  refine u_getR dX12_lentLine_71 gf_X12_23 (by first | assumption | rfl | exact led_1 (by assumption) | exact led_2 (by assumption) | exact bk_m (by assumption) (by first | assumption | omega) | exact bk_p (by assumption) (by first | assumption | omega) | exact bk_o (by assumption) (by first | assumption | omega) | exact bk_s (by assumption) (by first | assumption | omega) | exact bk_1 (by assumption) | exact bk_2 (by assumption) | exact bk_3 (by assumption) | exact bk_4 (by assumption) | exact bk_5 (by assumption) | exact bk_6 (by assumption) | exact bk_7 (by assumption) | exact bk_8 (by assumption) | exact sh_ring _ (by first | assumption | omega) | exact sh_imgs _ (by first | assumption | omega)) (ro_X12_16 (by assumption)) ?_
                  refine v_aload_0 dX12_lentLine_74 ?_
                  refine u_getR dX12_lentLine_75 gf_X12_29 (by first | assumption | rfl | exact led_1 (by assumption) | exact led_2 (by assumption) | exact bk_m (by assumption) (by first | assumption | omega) | exact bk_p (by assumption) (by first | assumption | omega) | exact bk_o (by assumption) (by first | assumption | omega) | exact bk_s (by assumption) (by first | assumption | omega) | exact bk_1 (by assumption) | exact bk_2 (by assumption) | exact bk_3 (by assumption) | exact bk_4 (by assumption) | exact bk_5 (by assumption) | exact bk_6 (by assumption) | exact bk_7 (by assumption) | exact bk_8 (by assumption) | exact sh_ring _ (by first | assumption | omega) | exact sh_imgs _ (by first | assumption | omega)) (ro_X12_18 (by assumption)) ?_
                  refine v_iload_1 dX12_lentLine_78 ?_
                  refine v_iload_2 dX12_lentLine_79 ?_
                  refine v_iload_3 dX12_lentLine_80 ?_
                  refine v_iload_5 dX12_lentLine_81 ?_
                  refine v_iconst (v := -1) dX12_lentLine_83 (by decide) ?_
                  have hm : v1 < s.2.1 2 := told_lt hI (by decide) q1
                  have hI2 : PInv sz u2 := hI.mv es2 j21.2.1
                  have hp : v3 < s.2.1 3 := by have := told_lt hI2 (by decide) q3; rw [es2] at this; exact this
                  have hK := hI.2.2.2.2.2.1
                  have hS := hL.2.2.2.2.2
                  refine u_callS_7 dX12_lentLine_84 ml_X12_283 ms_X12_canLend (by decide) (Nat.le_of_ble_eq_true rfl) (c_X12_canLendN (F := s.2.1) (s := s.2.2) (a := 161) (c := 163) ⟨rfl, fun k hk => (hL.2.2.2.2.1 k (by omega)).1⟩ hO rfl hS hK hm hp g6 (by omega) ?_)
                  rw [aup_okL hK g6]
                  refine v_if_ne (tgt := 98) dX12_lentLine_87 (by decide) (fun hc87 => ?_) (fun hc87 => ?_)
                  · (first | rw [bI_0, Bool.not_eq_false] at hc87 | rw [bI_0] at hc87 | rw [show (0 : Int32) = nI 0 from rfl, nI_eq (by omega) (by omega)] at hc87 | skip)
                    have hoq := hc87
                    unfold okL at hoq
                    rw [Bool.and_eq_true, Bool.and_eq_true] at hoq
                    obtain ⟨⟨hfit, hfm⟩, hfp⟩ := hoq
                    have hq4 : ok4 (v1, v3, v4, v6) := ⟨Nat.lt_of_lt_of_le hm o2, Nat.lt_of_lt_of_le hp o3, g4, g6, by show v6 ≤ 20; omega⟩
                    have hq5 : okq s.2.1 (v1, v3, v4, v6) := ⟨hq4, hm, hp, h6, hfit⟩
                    have hfr : free s.2.2.1 s.2.2.2.1 (v1, v3, v4, v6) := ⟨fup_isNone hfm, fup_isNone hfp⟩
                    refine v_aload_0 dX12_lentLine_98 ?_
                    refine u_getI dX12_lentLine_99 gf_X12_92 (by first | assumption | rfl | exact led_1 (by assumption) | exact led_2 (by assumption) | exact bk_m (by assumption) (by first | assumption | omega) | exact bk_p (by assumption) (by first | assumption | omega) | exact bk_o (by assumption) (by first | assumption | omega) | exact bk_s (by assumption) (by first | assumption | omega) | exact bk_1 (by assumption) | exact bk_2 (by assumption) | exact bk_3 (by assumption) | exact bk_4 (by assumption) | exact bk_5 (by assumption) | exact bk_6 (by assumption) | exact bk_7 (by assumption) | exact bk_8 (by assumption) | exact sh_ring _ (by first | assumption | omega) | exact sh_imgs _ (by first | assumption | omega)) ?_
                    rw [hL.2.2.1]
                    refine v_if_ne (tgt := 117) dX12_lentLine_102 (by decide) (fun hc102 => ?_) (fun hc102 => ?_)
                    · exact absurd rfl hc102
                    · (first | rw [bI_0, Bool.not_eq_false] at hc102 | rw [bI_0] at hc102 | rw [show (0 : Int32) = nI 0 from rfl, nI_eq (by omega) (by omega)] at hc102 | skip)
                      refine v_aload_0 dX12_lentLine_105 ?_
                      refine u_getR dX12_lentLine_106 gf_X12_29 (by first | assumption | rfl | exact led_1 (by assumption) | exact led_2 (by assumption) | exact bk_m (by assumption) (by first | assumption | omega) | exact bk_p (by assumption) (by first | assumption | omega) | exact bk_o (by assumption) (by first | assumption | omega) | exact bk_s (by assumption) (by first | assumption | omega) | exact bk_1 (by assumption) | exact bk_2 (by assumption) | exact bk_3 (by assumption) | exact bk_4 (by assumption) | exact bk_5 (by assumption) | exact bk_6 (by assumption) | exact bk_7 (by assumption) | exact bk_8 (by assumption) | exact sh_ring _ (by first | assumption | omega) | exact sh_imgs _ (by first | assumption | omega)) (ro_X12_18 (by assumption)) ?_
                      refine v_iload_1 dX12_lentLine_109 ?_
                      refine v_iload_2 dX12_lentLine_110 ?_
                      refine v_iload_3 dX12_lentLine_111 ?_
                      refine v_iload_5 dX12_lentLine_112 ?_
                      refine u_callS_5 dX12_lentLine_114 ml_X12_287 ms_X12_putLending (by decide) (Nat.le_of_ble_eq_true rfl) (c_X12_putLending (F := s.2.1) (s := s.2.2) rfl hS hK (by omega) hq5 hfr (fun J7 y1 y2 => ?_))
                      refine v_vret dX12_lentLine_117 rfl rfl rfl rfl ?_
                      exact hY _ (by rw [lLent, bnd_r q1, bnd_r q2, bnd_r q3, bnd_r q4, bnd_r q5, bnd_r q6]; exact if_pos hc87) _ (hL.led y1 y2) (jk.led y2)
                  · (first | rw [bI_0, Bool.not_eq_false] at hc87 | rw [bI_0] at hc87 | rw [show (0 : Int32) = nI 0 from rfl, nI_eq (by omega) (by omega)] at hc87 | skip)
                    refine v_aload_0 dX12_lentLine_90 ?_
                    refine v_bipush (v := nI 7) dX12_lentLine_91 (by decide) ?_
                    refine v_iload_4 dX12_lentLine_93 ?_
                    refine u_callV_2 dX12_lentLine_95 ml_X12_119 mv_X12_wrong (by first | assumption | rfl | exact led_1 (by assumption) | exact led_2 (by assumption) | exact bk_m (by assumption) (by first | assumption | omega) | exact bk_p (by assumption) (by first | assumption | omega) | exact bk_o (by assumption) (by first | assumption | omega) | exact bk_s (by assumption) (by first | assumption | omega) | exact bk_1 (by assumption) | exact bk_2 (by assumption) | exact bk_3 (by assumption) | exact bk_4 (by assumption) | exact bk_5 (by assumption) | exact bk_6 (by assumption) | exact bk_7 (by assumption) | exact bk_8 (by assumption) | exact sh_ring _ (by first | assumption | omega) | exact sh_imgs _ (by first | assumption | omega)) (by decide) rfl (by decide) (Nat.le_of_ble_eq_true rfl) (c_X12_wrong hL.2.2.1 ?_)
                    refine v_aload_0 dX12_lentLine_98 ?_
                    refine u_getI dX12_lentLine_99 gf_X12_92 (by first | assumption | rfl | exact led_1 (by assumption) | exact led_2 (by assumption) | exact bk_m (by assumption) (by first | assumption | omega) | exact bk_p (by assumption) (by first | assumption | omega) | exact bk_o (by assumption) (by first | assumption | omega) | exact bk_s (by assumption) (by first | assumption | omega) | exact bk_1 (by assumption) | exact bk_2 (by assumption) | exact bk_3 (by assumption) | exact bk_4 (by assumption) | exact bk_5 (by assumption) | exact bk_6 (by assumption) | exact bk_7 (by assumption) | exact bk_8 (by assumption) | exact sh_ring _ (by first | assumption | omega) | exact sh_imgs _ (by first | assumption | omega)) ?_
                    rw [wrong_fl.1.1]
                    refine v_if_ne (tgt := 117) dX12_lentLine_102 (by decide) (fun hc102 => ?_) (fun hc102 => ?_)
                    · (first | rw [bI_0, Bool.not_eq_false] at hc102 | rw [bI_0] at hc102 | rw [show (0 : Int32) = nI 0 from rfl, nI_eq (by omega) (by omega)] at hc102 | skip)
                      refine v_vret dX12_lentLine_117 rfl rfl rfl rfl ?_
                      exact hF 7 _ (by rw [lLent, bnd_r q1, bnd_r q2, bnd_r q3, bnd_r q4, bnd_r q5, bnd_r q6]; exact if_neg (by rw [hc87]; decide)) _ wrong_fl.1 (jk.trans wrong_fl.2.k)
                    · exact absurd hc102 (by decide)
  · exact absurd rfl hc4
theorem c_X12_breakLine (hR : RO R) (h : LvM I tp sz s.1 s.2.1 s.2.2) (hI : PInv sz s)  (hF : ∀ f p, lBreak tp sz s = .inl (f, p) → ∀ J : HI, FlM J f p → FrK I J → Q none SH J L R) (hY : ∀ u, lBreak tp sz s = .inr u → ∀ J : HI, LvM J tp sz u.1 u.2.1 u.2.2 → FrK I J → Q none SH J L R) : KK 9 mX12_breakLine b ad [.ref (b + 157)] I L R Q := by
  have hL := h
  have hG : NmE s.2.1 s.2.1 := NmE.refl
  have jk : FrK I I := FrK.refl
  have hO := hI.2.1
  have o0 := hO.1
  have o1 := hO.2.1
  have o2 := hO.2.2.1
  have o3 := hO.2.2.2.1
  have o4 := hO.2.2.2.2.1
  have o5 := hO.2.2.2.2.2.1
  have o6 := hO.2.2.2.2.2.2.1
  have es0 : s.2 = s.2 := rfl
  have hc_0 : s.2.1 0 = s.2.1 0 := rfl
  refine K.of (M := mX12_breakLine) (lv := [some (.ref (b + 157)), none, none, none]) (by decide) (Nat.le_of_ble_eq_true rfl) rfl ?_
  refine v_aload_0 dX12_breakLine_0 ?_
  refine u_getI dX12_breakLine_1 gf_X12_92 (by first | assumption | rfl | exact led_1 (by assumption) | exact led_2 (by assumption) | exact bk_m (by assumption) (by first | assumption | omega) | exact bk_p (by assumption) (by first | assumption | omega) | exact bk_o (by assumption) (by first | assumption | omega) | exact bk_s (by assumption) (by first | assumption | omega) | exact bk_1 (by assumption) | exact bk_2 (by assumption) | exact bk_3 (by assumption) | exact bk_4 (by assumption) | exact bk_5 (by assumption) | exact bk_6 (by assumption) | exact bk_7 (by assumption) | exact bk_8 (by assumption) | exact sh_ring _ (by first | assumption | omega) | exact sh_imgs _ (by first | assumption | omega)) ?_
  rw [hL.2.2.1]
  refine v_if_eq (tgt := 8) dX12_breakLine_4 (by decide) (fun hc4 => ?_) (fun hc4 => ?_)
  · (first | rw [bI_0, Bool.not_eq_false] at hc4 | rw [bI_0] at hc4 | rw [show (0 : Int32) = nI 0 from rfl, nI_eq (by omega) (by omega)] at hc4 | skip)
    refine v_aload_0 dX12_breakLine_8 ?_
    refine v_iconst (v := nI 2) dX12_breakLine_9 (by decide) ?_
    refine v_iconst (v := nI 0) dX12_breakLine_10 (by decide) ?_
    refine u_callV_2 dX12_breakLine_11 ml_X12_262 mv_X12_passed (by first | assumption | rfl | exact led_1 (by assumption) | exact led_2 (by assumption) | exact bk_m (by assumption) (by first | assumption | omega) | exact bk_p (by assumption) (by first | assumption | omega) | exact bk_o (by assumption) (by first | assumption | omega) | exact bk_s (by assumption) (by first | assumption | omega) | exact bk_1 (by assumption) | exact bk_2 (by assumption) | exact bk_3 (by assumption) | exact bk_4 (by assumption) | exact bk_5 (by assumption) | exact bk_6 (by assumption) | exact bk_7 (by assumption) | exact bk_8 (by assumption) | exact sh_ring _ (by first | assumption | omega) | exact sh_imgs _ (by first | assumption | omega)) (by decide) rfl (by decide) (Nat.le_of_ble_eq_true rfl) (c_X12_passed_2 (but := 0) (s := s) (by omega) hR hL (by rw [es0]; exact hG) (fun f p q J j1 j2 => ?_) (fun v1 u1 q1 e1 g1 J1 j11 j12 => ?_))
    · have jf := jk.trans j2.k
      refine v_istore_1 rfl dX12_breakLine_14 ?_
      refine v_aload_0 dX12_breakLine_15 ?_
      refine v_ldcSw (i := 48) dX12_breakLine_16 (by decide) rfl rfl ?_
      refine u_callV_1 dX12_breakLine_19 ml_X12_166 mv_X12_must (by first | assumption | rfl | exact led_1 (by assumption) | exact led_2 (by assumption) | exact bk_m (by assumption) (by first | assumption | omega) | exact bk_p (by assumption) (by first | assumption | omega) | exact bk_o (by assumption) (by first | assumption | omega) | exact bk_s (by assumption) (by first | assumption | omega) | exact bk_1 (by assumption) | exact bk_2 (by assumption) | exact bk_3 (by assumption) | exact bk_4 (by assumption) | exact bk_5 (by assumption) | exact bk_6 (by assumption) | exact bk_7 (by assumption) | exact bk_8 (by assumption) | exact sh_ring _ (by first | assumption | omega) | exact sh_imgs _ (by first | assumption | omega)) (by decide) rfl (by decide) (Nat.le_of_ble_eq_true rfl) (z_X12_must (by (try simp only [ui_ne (show (157 : Nat) ≠ 161 by decide)]); exact j1.1) ?_)
      refine v_aload_0 dX12_breakLine_22 ?_
      refine u_getI dX12_breakLine_23 gf_X12_92 (by first | assumption | rfl | exact led_1 (by assumption) | exact led_2 (by assumption) | exact bk_m (by assumption) (by first | assumption | omega) | exact bk_p (by assumption) (by first | assumption | omega) | exact bk_o (by assumption) (by first | assumption | omega) | exact bk_s (by assumption) (by first | assumption | omega) | exact bk_1 (by assumption) | exact bk_2 (by assumption) | exact bk_3 (by assumption) | exact bk_4 (by assumption) | exact bk_5 (by assumption) | exact bk_6 (by assumption) | exact bk_7 (by assumption) | exact bk_8 (by assumption) | exact sh_ring _ (by first | assumption | omega) | exact sh_imgs _ (by first | assumption | omega)) ?_
      (try simp only [ui_ne (show (157 : Nat) ≠ 161 by decide)])
      rw [j1.1]
      refine v_if_eq (tgt := 30) dX12_breakLine_26 (by decide) (fun hc26 => ?_) (fun hc26 => ?_)
      · exact absurd hc26 (by decide)
      · (first | rw [bI_0, Bool.not_eq_false] at hc26 | rw [bI_0] at hc26 | rw [show (0 : Int32) = nI 0 from rfl, nI_eq (by omega) (by omega)] at hc26 | skip)
        refine v_vret dX12_breakLine_29 rfl rfl rfl rfl ?_
        refine hF f p (by rw [lBreak, bnd_l q]) _ ?_ ?_
        · (repeat (first | exact j1 | apply FlM.put))
        · (repeat (first | exact jf | apply FrK.up))
    · have e1 : u1.2 = s.2 := by rw [e1]; rfl
      have es1 : u1.2 = s.2 := e1.trans es0
      have hL := j11
      have jk := jk.trans j12.k
      refine v_istore_1 rfl dX12_breakLine_14 ?_
      refine v_aload_0 dX12_breakLine_15 ?_
      refine v_ldcSw (i := 48) dX12_breakLine_16 (by decide) rfl rfl ?_
      refine u_callV_1 dX12_breakLine_19 ml_X12_166 mv_X12_must (by first | assumption | rfl | exact led_1 (by assumption) | exact led_2 (by assumption) | exact bk_m (by assumption) (by first | assumption | omega) | exact bk_p (by assumption) (by first | assumption | omega) | exact bk_o (by assumption) (by first | assumption | omega) | exact bk_s (by assumption) (by first | assumption | omega) | exact bk_1 (by assumption) | exact bk_2 (by assumption) | exact bk_3 (by assumption) | exact bk_4 (by assumption) | exact bk_5 (by assumption) | exact bk_6 (by assumption) | exact bk_7 (by assumption) | exact bk_8 (by assumption) | exact sh_ring _ (by first | assumption | omega) | exact sh_imgs _ (by first | assumption | omega)) (by decide) rfl (by decide) (Nat.le_of_ble_eq_true rfl) (c_X12_must (i := 48) (s := u1) (by decide) hR hL (fun f p q J j1 j2 => ?_) (fun u2 q2 e2 J2 j21 j22 => ?_))
      · have q : qWord tp sz (wd 20) u1 = .inl (f, p) := q
        have jf := jk.trans j2.k
        refine v_aload_0 dX12_breakLine_22 ?_
        refine u_getI dX12_breakLine_23 gf_X12_92 (by first | assumption | rfl | exact led_1 (by assumption) | exact led_2 (by assumption) | exact bk_m (by assumption) (by first | assumption | omega) | exact bk_p (by assumption) (by first | assumption | omega) | exact bk_o (by assumption) (by first | assumption | omega) | exact bk_s (by assumption) (by first | assumption | omega) | exact bk_1 (by assumption) | exact bk_2 (by assumption) | exact bk_3 (by assumption) | exact bk_4 (by assumption) | exact bk_5 (by assumption) | exact bk_6 (by assumption) | exact bk_7 (by assumption) | exact bk_8 (by assumption) | exact sh_ring _ (by first | assumption | omega) | exact sh_imgs _ (by first | assumption | omega)) ?_
        (try simp only [ui_ne (show (157 : Nat) ≠ 161 by decide)])
        rw [j1.1]
        refine v_if_eq (tgt := 30) dX12_breakLine_26 (by decide) (fun hc26 => ?_) (fun hc26 => ?_)
        · exact absurd hc26 (by decide)
        · (first | rw [bI_0, Bool.not_eq_false] at hc26 | rw [bI_0] at hc26 | rw [show (0 : Int32) = nI 0 from rfl, nI_eq (by omega) (by omega)] at hc26 | skip)
          refine v_vret dX12_breakLine_29 rfl rfl rfl rfl ?_
          refine hF f p (by rw [lBreak, bnd_r q1, bnd_l q]) _ ?_ ?_
          · (repeat (first | exact j1 | apply FlM.put))
          · (repeat (first | exact jf | apply FrK.up))
      · have q2 : qWord tp sz (wd 20) u1 = .inr u2 := q2
        have e2 : u2.2 = u1.2 := by rw [e2]; rfl
        have es2 : u2.2 = s.2 := e2.trans es1
        have hL := j21
        have jk := jk.trans j22.k
        refine v_aload_0 dX12_breakLine_22 ?_
        refine u_getI dX12_breakLine_23 gf_X12_92 (by first | assumption | rfl | exact led_1 (by assumption) | exact led_2 (by assumption) | exact bk_m (by assumption) (by first | assumption | omega) | exact bk_p (by assumption) (by first | assumption | omega) | exact bk_o (by assumption) (by first | assumption | omega) | exact bk_s (by assumption) (by first | assumption | omega) | exact bk_1 (by assumption) | exact bk_2 (by assumption) | exact bk_3 (by assumption) | exact bk_4 (by assumption) | exact bk_5 (by assumption) | exact bk_6 (by assumption) | exact bk_7 (by assumption) | exact bk_8 (by assumption) | exact sh_ring _ (by first | assumption | omega) | exact sh_imgs _ (by first | assumption | omega)) ?_
        rw [hL.2.2.1]
        refine v_if_eq (tgt := 30) dX12_breakLine_26 (by decide) (fun hc26 => ?_) (fun hc26 => ?_)
        · (first | rw [bI_0, Bool.not_eq_false] at hc26 | rw [bI_0] at hc26 | rw [show (0 : Int32) = nI 0 from rfl, nI_eq (by omega) (by omega)] at hc26 | skip)
          have hk9 : tK tp sz u2.1 < 60 := by unfold tK; (repeat' split) <;> omega
          have hK := hI.2.2.2.2.2.1
          have hn20 := hK.1
          have hbr := hK.2.2.2 v1
          have hS := hL.2.2.2.2.2
          have t4 := hL.2.2.2.1.1
          have t6 := hL.2.2.2.1.2.2.1
          have f0 := hL.2.2.2.2.1 0 (by decide)
          have cut : (∀ d w, qNum tp sz 1 (s.2.1 0) u2 = .inr (d, w) → (s.2.2.2.2 v1).testBit d = false) → VV yX12_breakLine cX12_breakLine 4 none 9 Q b ad 93 [some (.ref (b + 157)), some (.int (nI v1)), some (.int (nI 0)), none] [] J2 L R := by
            intro nb
            refine v_aload_0 dX12_breakLine_93 ?_
            refine v_iconst (v := nI 1) dX12_breakLine_94 (by decide) ?_
            refine v_aload_0 dX12_breakLine_95 ?_
            refine u_getR dX12_breakLine_96 gf_X12_23 (by first | assumption | rfl | exact led_1 (by assumption) | exact led_2 (by assumption) | exact bk_m (by assumption) (by first | assumption | omega) | exact bk_p (by assumption) (by first | assumption | omega) | exact bk_o (by assumption) (by first | assumption | omega) | exact bk_s (by assumption) (by first | assumption | omega) | exact bk_1 (by assumption) | exact bk_2 (by assumption) | exact bk_3 (by assumption) | exact bk_4 (by assumption) | exact bk_5 (by assumption) | exact bk_6 (by assumption) | exact bk_7 (by assumption) | exact bk_8 (by assumption) | exact sh_ring _ (by first | assumption | omega) | exact sh_imgs _ (by first | assumption | omega)) (ro_X12_16 (by assumption)) ?_
            refine v_iconst (v := nI 0) dX12_breakLine_99 (by decide) ?_
            refine u_iald dX12_breakLine_100 (by first | assumption | rfl | exact led_1 (by assumption) | exact led_2 (by assumption) | exact bk_m (by assumption) (by first | assumption | omega) | exact bk_p (by assumption) (by first | assumption | omega) | exact bk_o (by assumption) (by first | assumption | omega) | exact bk_s (by assumption) (by first | assumption | omega) | exact bk_1 (by assumption) | exact bk_2 (by assumption) | exact bk_3 (by assumption) | exact bk_4 (by assumption) | exact bk_5 (by assumption) | exact bk_6 (by assumption) | exact bk_7 (by assumption) | exact bk_8 (by assumption) | exact sh_ring _ (by first | assumption | omega) | exact sh_imgs _ (by first | assumption | omega)) (by first | with_reducible rfl | (simp only [nlit, nI_add, pk_mul]; with_reducible rfl) | rfl) (by first | assumption | omega) (by first | assumption | decide) ?_
            rw [f0.1]
            refine u_callV_2 dX12_breakLine_101 ml_X12_170 mv_X12_number (by first | assumption | rfl | exact led_1 (by assumption) | exact led_2 (by assumption) | exact bk_m (by assumption) (by first | assumption | omega) | exact bk_p (by assumption) (by first | assumption | omega) | exact bk_o (by assumption) (by first | assumption | omega) | exact bk_s (by assumption) (by first | assumption | omega) | exact bk_1 (by assumption) | exact bk_2 (by assumption) | exact bk_3 (by assumption) | exact bk_4 (by assumption) | exact bk_5 (by assumption) | exact bk_6 (by assumption) | exact bk_7 (by assumption) | exact bk_8 (by assumption) | exact sh_ring _ (by first | assumption | omega) | exact sh_imgs _ (by first | assumption | omega)) (by decide) rfl (by decide) (Nat.le_of_ble_eq_true rfl) (c_X12_number (lo := 1) (hi := s.2.1 0) (s := u2) (by omega) (by omega) hR hL (fun f p q J j1 j2 => ?_) (fun v3 u3 q3 e3 g3 h3 w3 J3 j31 j32 => ?_))
            · have jf := jk.trans j2.k
              refine v_istore_3 rfl dX12_breakLine_104 ?_
              refine v_aload_0 dX12_breakLine_105 ?_
              refine u_getI dX12_breakLine_106 gf_X12_92 (by first | assumption | rfl | exact led_1 (by assumption) | exact led_2 (by assumption) | exact bk_m (by assumption) (by first | assumption | omega) | exact bk_p (by assumption) (by first | assumption | omega) | exact bk_o (by assumption) (by first | assumption | omega) | exact bk_s (by assumption) (by first | assumption | omega) | exact bk_1 (by assumption) | exact bk_2 (by assumption) | exact bk_3 (by assumption) | exact bk_4 (by assumption) | exact bk_5 (by assumption) | exact bk_6 (by assumption) | exact bk_7 (by assumption) | exact bk_8 (by assumption) | exact sh_ring _ (by first | assumption | omega) | exact sh_imgs _ (by first | assumption | omega)) ?_
              (try simp only [ui_ne (show (157 : Nat) ≠ 161 by decide)])
              rw [j1.1]
              refine v_if_eq (tgt := 113) dX12_breakLine_109 (by decide) (fun hc109 => ?_) (fun hc109 => ?_)
              · exact absurd hc109 (by decide)
              · (first | rw [bI_0, Bool.not_eq_false] at hc109 | rw [bI_0] at hc109 | rw [show (0 : Int32) = nI 0 from rfl, nI_eq (by omega) (by omega)] at hc109 | skip)
                refine v_vret dX12_breakLine_112 rfl rfl rfl rfl ?_
                refine hF f p (by rw [lBreak, bnd_r q1, bnd_r q2, bnd_l q]) _ ?_ ?_
                · (repeat (first | exact j1 | apply FlM.put))
                · (repeat (first | exact jf | apply FrK.up))
            · have hb := nb v3 u3 q3
              have es3 : u3.2 = s.2 := by rw [e3]; exact es2
              have hS := j31.2.2.2.2.2
              have hf7 := j31.2.2.2.2.1 7 (by decide)
              have hv8 : s.2.1 7 ≤ 8 := hI.2.2.1
              refine v_istore_3 rfl dX12_breakLine_104 ?_
              refine v_aload_0 dX12_breakLine_105 ?_
              refine u_getI dX12_breakLine_106 gf_X12_92 (by first | assumption | rfl | exact led_1 (by assumption) | exact led_2 (by assumption) | exact bk_m (by assumption) (by first | assumption | omega) | exact bk_p (by assumption) (by first | assumption | omega) | exact bk_o (by assumption) (by first | assumption | omega) | exact bk_s (by assumption) (by first | assumption | omega) | exact bk_1 (by assumption) | exact bk_2 (by assumption) | exact bk_3 (by assumption) | exact bk_4 (by assumption) | exact bk_5 (by assumption) | exact bk_6 (by assumption) | exact bk_7 (by assumption) | exact bk_8 (by assumption) | exact sh_ring _ (by first | assumption | omega) | exact sh_imgs _ (by first | assumption | omega)) ?_
              rw [j31.2.2.1]
              refine v_if_eq (tgt := 113) dX12_breakLine_109 (by decide) (fun hc109 => ?_) (fun hc109 => ?_)
              · (first | rw [bI_0, Bool.not_eq_false] at hc109 | rw [bI_0] at hc109 | rw [show (0 : Int32) = nI 0 from rfl, nI_eq (by omega) (by omega)] at hc109 | skip)
                refine v_aload_0 dX12_breakLine_113 ?_
                refine u_getR dX12_breakLine_114 gf_X12_29 (by first | assumption | rfl | exact led_1 (by assumption) | exact led_2 (by assumption) | exact bk_m (by assumption) (by first | assumption | omega) | exact bk_p (by assumption) (by first | assumption | omega) | exact bk_o (by assumption) (by first | assumption | omega) | exact bk_s (by assumption) (by first | assumption | omega) | exact bk_1 (by assumption) | exact bk_2 (by assumption) | exact bk_3 (by assumption) | exact bk_4 (by assumption) | exact bk_5 (by assumption) | exact bk_6 (by assumption) | exact bk_7 (by assumption) | exact bk_8 (by assumption) | exact sh_ring _ (by first | assumption | omega) | exact sh_imgs _ (by first | assumption | omega)) (ro_X12_18 (by assumption)) ?_
                refine v_bipush (v := nI 81) dX12_breakLine_117 (by decide) ?_
                refine v_iload_1 dX12_breakLine_119 ?_
                refine v_iadd dX12_breakLine_120 ?_
                refine v_dup2 dX12_breakLine_121 rfl rfl ?_
                refine u_iald dX12_breakLine_122 (by first | assumption | rfl | exact led_1 (by assumption) | exact led_2 (by assumption) | exact bk_m (by assumption) (by first | assumption | omega) | exact bk_p (by assumption) (by first | assumption | omega) | exact bk_o (by assumption) (by first | assumption | omega) | exact bk_s (by assumption) (by first | assumption | omega) | exact bk_1 (by assumption) | exact bk_2 (by assumption) | exact bk_3 (by assumption) | exact bk_4 (by assumption) | exact bk_5 (by assumption) | exact bk_6 (by assumption) | exact bk_7 (by assumption) | exact bk_8 (by assumption) | exact sh_ring _ (by first | assumption | omega) | exact sh_imgs _ (by first | assumption | omega)) (by first | with_reducible rfl | (simp only [nlit, nI_add, pk_mul]; with_reducible rfl) | rfl) (by first | assumption | omega) (by first | assumption | decide) ?_
                rw [hS.b (by omega) (by omega)]
                refine v_iconst (v := nI 1) dX12_breakLine_123 (by decide) ?_
                refine v_iload_3 dX12_breakLine_124 ?_
                refine v_ishl dX12_breakLine_125 ?_
                rw [one_shl (by omega)]
                refine v_ior dX12_breakLine_126 ?_
                rw [nx_or]
                refine u_iast dX12_breakLine_127 (by first | assumption | rfl | exact led_1 (by assumption) | exact led_2 (by assumption) | exact bk_m (by assumption) (by first | assumption | omega) | exact bk_p (by assumption) (by first | assumption | omega) | exact bk_o (by assumption) (by first | assumption | omega) | exact bk_s (by assumption) (by first | assumption | omega) | exact bk_1 (by assumption) | exact bk_2 (by assumption) | exact bk_3 (by assumption) | exact bk_4 (by assumption) | exact bk_5 (by assumption) | exact bk_6 (by assumption) | exact bk_7 (by assumption) | exact bk_8 (by assumption) | exact sh_ring _ (by first | assumption | omega) | exact sh_imgs _ (by first | assumption | omega)) (by first | with_reducible rfl | (simp only [nlit, nI_add, pk_mul]; with_reducible rfl) | rfl) (by first | assumption | omega) (by first | assumption | decide) ?_
                refine v_aload_0 dX12_breakLine_128 ?_
                refine u_getR dX12_breakLine_129 gf_X12_23 (by first | assumption | rfl | exact led_1 (by assumption) | exact led_2 (by assumption) | exact bk_m (by assumption) (by first | assumption | omega) | exact bk_p (by assumption) (by first | assumption | omega) | exact bk_o (by assumption) (by first | assumption | omega) | exact bk_s (by assumption) (by first | assumption | omega) | exact bk_1 (by assumption) | exact bk_2 (by assumption) | exact bk_3 (by assumption) | exact bk_4 (by assumption) | exact bk_5 (by assumption) | exact bk_6 (by assumption) | exact bk_7 (by assumption) | exact bk_8 (by assumption) | exact sh_ring _ (by first | assumption | omega) | exact sh_imgs _ (by first | assumption | omega)) (ro_X12_16 (by assumption)) ?_
                refine v_bipush (v := nI 7) dX12_breakLine_132 (by decide) ?_
                refine v_dup2 dX12_breakLine_134 rfl rfl ?_
                refine u_iald dX12_breakLine_135 (by first | assumption | rfl | exact led_1 (by assumption) | exact led_2 (by assumption) | exact bk_m (by assumption) (by first | assumption | omega) | exact bk_p (by assumption) (by first | assumption | omega) | exact bk_o (by assumption) (by first | assumption | omega) | exact bk_s (by assumption) (by first | assumption | omega) | exact bk_1 (by assumption) | exact bk_2 (by assumption) | exact bk_3 (by assumption) | exact bk_4 (by assumption) | exact bk_5 (by assumption) | exact bk_6 (by assumption) | exact bk_7 (by assumption) | exact bk_8 (by assumption) | exact sh_ring _ (by first | assumption | omega) | exact sh_imgs _ (by first | assumption | omega)) (by first | with_reducible rfl | (simp only [nlit, nI_add, pk_mul]; with_reducible rfl) | rfl) (by first | assumption | omega) (by first | assumption | decide) ?_
                rw [ui_ne (by decide), hf7.1]
                refine v_iconst (v := nI 1) dX12_breakLine_136 (by decide) ?_
                refine v_iadd dX12_breakLine_137 ?_
                rw [nI_add]
                refine u_iast dX12_breakLine_138 (by first | assumption | rfl | exact led_1 (by assumption) | exact led_2 (by assumption) | exact bk_m (by assumption) (by first | assumption | omega) | exact bk_p (by assumption) (by first | assumption | omega) | exact bk_o (by assumption) (by first | assumption | omega) | exact bk_s (by assumption) (by first | assumption | omega) | exact bk_1 (by assumption) | exact bk_2 (by assumption) | exact bk_3 (by assumption) | exact bk_4 (by assumption) | exact bk_5 (by assumption) | exact bk_6 (by assumption) | exact bk_7 (by assumption) | exact bk_8 (by assumption) | exact sh_ring _ (by first | assumption | omega) | exact sh_imgs _ (by first | assumption | omega)) (by first | with_reducible rfl | (simp only [nlit, nI_add, pk_mul]; with_reducible rfl) | rfl) (by first | assumption | omega) (by first | assumption | decide) ?_
                refine v_vret dX12_breakLine_139 rfl rfl rfl rfl ?_
                refine hY _ (by rw [lBreak, bnd_r q1, bnd_r q2, bnd_r q3]; exact if_neg (by rw [hb]; decide)) _ ?_ ((jk.trans j32.k).led (fun x hx => ui_ne hx)).up
                exact (j31.led (hS.flip hn20 hb) (fun x hx => ui_ne hx)).put (by omega)
              · exact absurd rfl hc109
          refine v_aload_0 dX12_breakLine_30 ?_
          refine u_getI dX12_breakLine_31 gf_X12_82 (by first | assumption | rfl | exact led_1 (by assumption) | exact led_2 (by assumption) | exact bk_m (by assumption) (by first | assumption | omega) | exact bk_p (by assumption) (by first | assumption | omega) | exact bk_o (by assumption) (by first | assumption | omega) | exact bk_s (by assumption) (by first | assumption | omega) | exact bk_1 (by assumption) | exact bk_2 (by assumption) | exact bk_3 (by assumption) | exact bk_4 (by assumption) | exact bk_5 (by assumption) | exact bk_6 (by assumption) | exact bk_7 (by assumption) | exact bk_8 (by assumption) | exact sh_ring _ (by first | assumption | omega) | exact sh_imgs _ (by first | assumption | omega)) ?_
          rw [t6]
          refine v_iconst (v := nI 3) dX12_breakLine_34 (by decide) ?_
          refine v_icmp_ne (tgt := 78) dX12_breakLine_35 (by decide) (fun hc35 => ?_) (fun hc35 => ?_)
          · rw [nI_eq (by omega) (by decide)] at hc35
            refine v_iconst (v := nI 0) dX12_breakLine_78 (by decide) ?_
            refine v_istore_2 rfl dX12_breakLine_79 ?_
            refine v_iload_2 dX12_breakLine_80 ?_
            refine v_if_eq (tgt := 93) dX12_breakLine_81 (by decide) (fun hc81 => ?_) (fun hc81 => ?_)
            · (first | rw [bI_0, Bool.not_eq_false] at hc81 | rw [bI_0] at hc81 | rw [show (0 : Int32) = nI 0 from rfl, nI_eq (by omega) (by omega)] at hc81 | skip)
              refine cut (fun d w q => ?_)
              unfold qNum at q
              first
                | (rw [if_neg hc35] at q; cases q)
                | (rw [if_pos hc35, if_neg (fun z => by rcases hc52 with z2 | z2 <;> omega)] at q; cases q)
                | (rw [if_pos hc35, if_pos hc52] at q; cases q; exact hc71)
            · exact absurd rfl hc81
          · rw [nI_eq (by omega) (by decide)] at hc35
            refine v_aload_0 dX12_breakLine_38 ?_
            refine u_getI dX12_breakLine_39 gf_X12_79 (by first | assumption | rfl | exact led_1 (by assumption) | exact led_2 (by assumption) | exact bk_m (by assumption) (by first | assumption | omega) | exact bk_p (by assumption) (by first | assumption | omega) | exact bk_o (by assumption) (by first | assumption | omega) | exact bk_s (by assumption) (by first | assumption | omega) | exact bk_1 (by assumption) | exact bk_2 (by assumption) | exact bk_3 (by assumption) | exact bk_4 (by assumption) | exact bk_5 (by assumption) | exact bk_6 (by assumption) | exact bk_7 (by assumption) | exact bk_8 (by assumption) | exact sh_ring _ (by first | assumption | omega) | exact sh_imgs _ (by first | assumption | omega)) ?_
            rw [hL.2.2.2.1.2.2.2.1 hc35]
            have hw9 := tW_lt hL.by hL.2.1 hc35
            refine v_iconst (v := nI 1) dX12_breakLine_42 (by decide) ?_
            refine v_aload_0 dX12_breakLine_43 ?_
            refine u_getR dX12_breakLine_44 gf_X12_23 (by first | assumption | rfl | exact led_1 (by assumption) | exact led_2 (by assumption) | exact bk_m (by assumption) (by first | assumption | omega) | exact bk_p (by assumption) (by first | assumption | omega) | exact bk_o (by assumption) (by first | assumption | omega) | exact bk_s (by assumption) (by first | assumption | omega) | exact bk_1 (by assumption) | exact bk_2 (by assumption) | exact bk_3 (by assumption) | exact bk_4 (by assumption) | exact bk_5 (by assumption) | exact bk_6 (by assumption) | exact bk_7 (by assumption) | exact bk_8 (by assumption) | exact sh_ring _ (by first | assumption | omega) | exact sh_imgs _ (by first | assumption | omega)) (ro_X12_16 (by assumption)) ?_
            refine v_iconst (v := nI 0) dX12_breakLine_47 (by decide) ?_
            refine u_iald dX12_breakLine_48 (by first | assumption | rfl | exact led_1 (by assumption) | exact led_2 (by assumption) | exact bk_m (by assumption) (by first | assumption | omega) | exact bk_p (by assumption) (by first | assumption | omega) | exact bk_o (by assumption) (by first | assumption | omega) | exact bk_s (by assumption) (by first | assumption | omega) | exact bk_1 (by assumption) | exact bk_2 (by assumption) | exact bk_3 (by assumption) | exact bk_4 (by assumption) | exact bk_5 (by assumption) | exact bk_6 (by assumption) | exact bk_7 (by assumption) | exact bk_8 (by assumption) | exact sh_ring _ (by first | assumption | omega) | exact sh_imgs _ (by first | assumption | omega)) (by first | with_reducible rfl | (simp only [nlit, nI_add, pk_mul]; with_reducible rfl) | rfl) (by first | assumption | omega) (by first | assumption | decide) ?_
            rw [f0.1]
            refine u_callS_3 dX12_breakLine_49 ml_X12_154 ms_X12_within (by decide) (Nat.le_of_ble_eq_true rfl) (c_X12_within ?_)
            refine v_if_eq (tgt := 78) dX12_breakLine_52 (by decide) (fun hc52 => ?_) (fun hc52 => ?_)
            · first | rw [bI_0, Bool.not_eq_false, Bool.and_eq_true, decide_eq_true_eq, decide_eq_true_eq, nI_leI (by omega) (by omega), nI_leI (by omega) (by omega)] at hc52 | rw [bI_0, Bool.and_eq_false_iff, decide_eq_false_iff_not, decide_eq_false_iff_not, nI_leI (by omega) (by omega), nI_leI (by omega) (by omega)] at hc52
              refine v_iconst (v := nI 0) dX12_breakLine_78 (by decide) ?_
              refine v_istore_2 rfl dX12_breakLine_79 ?_
              refine v_iload_2 dX12_breakLine_80 ?_
              refine v_if_eq (tgt := 93) dX12_breakLine_81 (by decide) (fun hc81 => ?_) (fun hc81 => ?_)
              · (first | rw [bI_0, Bool.not_eq_false] at hc81 | rw [bI_0] at hc81 | rw [show (0 : Int32) = nI 0 from rfl, nI_eq (by omega) (by omega)] at hc81 | skip)
                refine cut (fun d w q => ?_)
                unfold qNum at q
                first
                  | (rw [if_neg hc35] at q; cases q)
                  | (rw [if_pos hc35, if_neg (fun z => by rcases hc52 with z2 | z2 <;> omega)] at q; cases q)
                  | (rw [if_pos hc35, if_pos hc52] at q; cases q; exact hc71)
              · exact absurd rfl hc81
            · first | rw [bI_0, Bool.not_eq_false, Bool.and_eq_true, decide_eq_true_eq, decide_eq_true_eq, nI_leI (by omega) (by omega), nI_leI (by omega) (by omega)] at hc52 | rw [bI_0, Bool.and_eq_false_iff, decide_eq_false_iff_not, decide_eq_false_iff_not, nI_leI (by omega) (by omega), nI_leI (by omega) (by omega)] at hc52
              refine v_aload_0 dX12_breakLine_55 ?_
              refine u_getR dX12_breakLine_56 gf_X12_29 (by first | assumption | rfl | exact led_1 (by assumption) | exact led_2 (by assumption) | exact bk_m (by assumption) (by first | assumption | omega) | exact bk_p (by assumption) (by first | assumption | omega) | exact bk_o (by assumption) (by first | assumption | omega) | exact bk_s (by assumption) (by first | assumption | omega) | exact bk_1 (by assumption) | exact bk_2 (by assumption) | exact bk_3 (by assumption) | exact bk_4 (by assumption) | exact bk_5 (by assumption) | exact bk_6 (by assumption) | exact bk_7 (by assumption) | exact bk_8 (by assumption) | exact sh_ring _ (by first | assumption | omega) | exact sh_imgs _ (by first | assumption | omega)) (ro_X12_18 (by assumption)) ?_
              refine v_bipush (v := nI 81) dX12_breakLine_59 (by decide) ?_
              refine v_iload_1 dX12_breakLine_61 ?_
              refine v_iadd dX12_breakLine_62 ?_
              refine u_iald dX12_breakLine_63 (by first | assumption | rfl | exact led_1 (by assumption) | exact led_2 (by assumption) | exact bk_m (by assumption) (by first | assumption | omega) | exact bk_p (by assumption) (by first | assumption | omega) | exact bk_o (by assumption) (by first | assumption | omega) | exact bk_s (by assumption) (by first | assumption | omega) | exact bk_1 (by assumption) | exact bk_2 (by assumption) | exact bk_3 (by assumption) | exact bk_4 (by assumption) | exact bk_5 (by assumption) | exact bk_6 (by assumption) | exact bk_7 (by assumption) | exact bk_8 (by assumption) | exact sh_ring _ (by first | assumption | omega) | exact sh_imgs _ (by first | assumption | omega)) (by first | with_reducible rfl | (simp only [nlit, nI_add, pk_mul]; with_reducible rfl) | rfl) (by first | assumption | omega) (by first | assumption | decide) ?_
              rw [hS.b (by omega) (by omega)]
              refine v_aload_0 dX12_breakLine_64 ?_
              refine u_getI dX12_breakLine_65 gf_X12_79 (by first | assumption | rfl | exact led_1 (by assumption) | exact led_2 (by assumption) | exact bk_m (by assumption) (by first | assumption | omega) | exact bk_p (by assumption) (by first | assumption | omega) | exact bk_o (by assumption) (by first | assumption | omega) | exact bk_s (by assumption) (by first | assumption | omega) | exact bk_1 (by assumption) | exact bk_2 (by assumption) | exact bk_3 (by assumption) | exact bk_4 (by assumption) | exact bk_5 (by assumption) | exact bk_6 (by assumption) | exact bk_7 (by assumption) | exact bk_8 (by assumption) | exact sh_ring _ (by first | assumption | omega) | exact sh_imgs _ (by first | assumption | omega)) ?_
              rw [hL.2.2.2.1.2.2.2.1 hc35]
              refine u_callS_2 dX12_breakLine_68 ml_X12_158 ms_X12_has (by decide) (Nat.le_of_ble_eq_true rfl) (c_X12_has (by omega) (by omega) ?_)
              refine v_if_eq (tgt := 78) dX12_breakLine_71 (by decide) (fun hc71 => ?_) (fun hc71 => ?_)
              · (first | rw [bI_0, Bool.not_eq_false] at hc71 | rw [bI_0] at hc71 | rw [show (0 : Int32) = nI 0 from rfl, nI_eq (by omega) (by omega)] at hc71 | skip)
                refine v_iconst (v := nI 0) dX12_breakLine_78 (by decide) ?_
                refine v_istore_2 rfl dX12_breakLine_79 ?_
                refine v_iload_2 dX12_breakLine_80 ?_
                refine v_if_eq (tgt := 93) dX12_breakLine_81 (by decide) (fun hc81 => ?_) (fun hc81 => ?_)
                · (first | rw [bI_0, Bool.not_eq_false] at hc81 | rw [bI_0] at hc81 | rw [show (0 : Int32) = nI 0 from rfl, nI_eq (by omega) (by omega)] at hc81 | skip)
                  refine cut (fun d w q => ?_)
                  unfold qNum at q
                  first
                    | (rw [if_neg hc35] at q; cases q)
                    | (rw [if_pos hc35, if_neg (fun z => by rcases hc52 with z2 | z2 <;> omega)] at q; cases q)
                    | (rw [if_pos hc35, if_pos hc52] at q; cases q; exact hc71)
                · exact absurd rfl hc81
              · (first | rw [bI_0, Bool.not_eq_false] at hc71 | rw [bI_0] at hc71 | rw [show (0 : Int32) = nI 0 from rfl, nI_eq (by omega) (by omega)] at hc71 | skip)
                refine v_iconst (v := nI 1) dX12_breakLine_74 (by decide) ?_
                refine v_goto (tgt := 79) dX12_breakLine_75 (by decide) ?_
                have q3 : qNum tp sz 1 (s.2.1 0) u2 = .inr (tW tp sz u2.1, nx tp sz u2) := by unfold qNum; rw [if_pos hc35, if_pos hc52]
                refine v_istore_2 rfl dX12_breakLine_79 ?_
                refine v_iload_2 dX12_breakLine_80 ?_
                refine v_if_eq (tgt := 93) dX12_breakLine_81 (by decide) (fun hc81 => ?_) (fun hc81 => ?_)
                · exact absurd hc81 (by decide)
                · (first | rw [bI_0, Bool.not_eq_false] at hc81 | rw [bI_0] at hc81 | rw [show (0 : Int32) = nI 0 from rfl, nI_eq (by omega) (by omega)] at hc81 | skip)
                  refine v_aload_0 dX12_breakLine_84 ?_
                  refine v_iconst (v := nI 3) dX12_breakLine_85 (by decide) ?_
                  refine v_aload_0 dX12_breakLine_86 ?_
                  refine u_getI dX12_breakLine_87 gf_X12_73 (by first | assumption | rfl | exact led_1 (by assumption) | exact led_2 (by assumption) | exact bk_m (by assumption) (by first | assumption | omega) | exact bk_p (by assumption) (by first | assumption | omega) | exact bk_o (by assumption) (by first | assumption | omega) | exact bk_s (by assumption) (by first | assumption | omega) | exact bk_1 (by assumption) | exact bk_2 (by assumption) | exact bk_3 (by assumption) | exact bk_4 (by assumption) | exact bk_5 (by assumption) | exact bk_6 (by assumption) | exact bk_7 (by assumption) | exact bk_8 (by assumption) | exact sh_ring _ (by first | assumption | omega) | exact sh_imgs _ (by first | assumption | omega)) ?_
                  rw [t4]
                  refine u_callV_2 dX12_breakLine_90 ml_X12_119 mv_X12_wrong (by first | assumption | rfl | exact led_1 (by assumption) | exact led_2 (by assumption) | exact bk_m (by assumption) (by first | assumption | omega) | exact bk_p (by assumption) (by first | assumption | omega) | exact bk_o (by assumption) (by first | assumption | omega) | exact bk_s (by assumption) (by first | assumption | omega) | exact bk_1 (by assumption) | exact bk_2 (by assumption) | exact bk_3 (by assumption) | exact bk_4 (by assumption) | exact bk_5 (by assumption) | exact bk_6 (by assumption) | exact bk_7 (by assumption) | exact bk_8 (by assumption) | exact sh_ring _ (by first | assumption | omega) | exact sh_imgs _ (by first | assumption | omega)) (by decide) rfl (by decide) (Nat.le_of_ble_eq_true rfl) (c_X12_wrong hL.2.2.1 ?_)
                  refine v_aload_0 dX12_breakLine_93 ?_
                  refine v_iconst (v := nI 1) dX12_breakLine_94 (by decide) ?_
                  refine v_aload_0 dX12_breakLine_95 ?_
                  refine u_getR dX12_breakLine_96 gf_X12_23 (by first | assumption | rfl | exact led_1 (by assumption) | exact led_2 (by assumption) | exact bk_m (by assumption) (by first | assumption | omega) | exact bk_p (by assumption) (by first | assumption | omega) | exact bk_o (by assumption) (by first | assumption | omega) | exact bk_s (by assumption) (by first | assumption | omega) | exact bk_1 (by assumption) | exact bk_2 (by assumption) | exact bk_3 (by assumption) | exact bk_4 (by assumption) | exact bk_5 (by assumption) | exact bk_6 (by assumption) | exact bk_7 (by assumption) | exact bk_8 (by assumption) | exact sh_ring _ (by first | assumption | omega) | exact sh_imgs _ (by first | assumption | omega)) (ro_X12_16 (by assumption)) ?_
                  refine v_iconst (v := nI 0) dX12_breakLine_99 (by decide) ?_
                  refine u_iald dX12_breakLine_100 (by first | assumption | rfl | exact led_1 (by assumption) | exact led_2 (by assumption) | exact bk_m (by assumption) (by first | assumption | omega) | exact bk_p (by assumption) (by first | assumption | omega) | exact bk_o (by assumption) (by first | assumption | omega) | exact bk_s (by assumption) (by first | assumption | omega) | exact bk_1 (by assumption) | exact bk_2 (by assumption) | exact bk_3 (by assumption) | exact bk_4 (by assumption) | exact bk_5 (by assumption) | exact bk_6 (by assumption) | exact bk_7 (by assumption) | exact bk_8 (by assumption) | exact sh_ring _ (by first | assumption | omega) | exact sh_imgs _ (by first | assumption | omega)) (by first | with_reducible rfl | (simp only [nlit, nI_add, pk_mul]; with_reducible rfl) | rfl) (by first | assumption | omega) (by first | assumption | decide) ?_
                  refine u_callV_2 dX12_breakLine_101 ml_X12_170 mv_X12_number (by first | assumption | rfl | exact led_1 (by assumption) | exact led_2 (by assumption) | exact bk_m (by assumption) (by first | assumption | omega) | exact bk_p (by assumption) (by first | assumption | omega) | exact bk_o (by assumption) (by first | assumption | omega) | exact bk_s (by assumption) (by first | assumption | omega) | exact bk_1 (by assumption) | exact bk_2 (by assumption) | exact bk_3 (by assumption) | exact bk_4 (by assumption) | exact bk_5 (by assumption) | exact bk_6 (by assumption) | exact bk_7 (by assumption) | exact bk_8 (by assumption) | exact sh_ring _ (by first | assumption | omega) | exact sh_imgs _ (by first | assumption | omega)) (by decide) rfl (by decide) (Nat.le_of_ble_eq_true rfl) (z_X12_number wrong_fl.1.1 ?_)
                  refine v_istore_3 rfl dX12_breakLine_104 ?_
                  refine v_aload_0 dX12_breakLine_105 ?_
                  refine u_getI dX12_breakLine_106 gf_X12_92 (by first | assumption | rfl | exact led_1 (by assumption) | exact led_2 (by assumption) | exact bk_m (by assumption) (by first | assumption | omega) | exact bk_p (by assumption) (by first | assumption | omega) | exact bk_o (by assumption) (by first | assumption | omega) | exact bk_s (by assumption) (by first | assumption | omega) | exact bk_1 (by assumption) | exact bk_2 (by assumption) | exact bk_3 (by assumption) | exact bk_4 (by assumption) | exact bk_5 (by assumption) | exact bk_6 (by assumption) | exact bk_7 (by assumption) | exact bk_8 (by assumption) | exact sh_ring _ (by first | assumption | omega) | exact sh_imgs _ (by first | assumption | omega)) ?_
                  rw [wrong_fl.1.1]
                  refine v_if_eq (tgt := 113) dX12_breakLine_109 (by decide) (fun hc109 => ?_) (fun hc109 => ?_)
                  · exact absurd hc109 (by decide)
                  · (first | rw [bI_0, Bool.not_eq_false] at hc109 | rw [bI_0] at hc109 | rw [show (0 : Int32) = nI 0 from rfl, nI_eq (by omega) (by omega)] at hc109 | skip)
                    refine v_vret dX12_breakLine_112 rfl rfl rfl rfl ?_
                    exact hF 3 _ (by rw [lBreak, bnd_r q1, bnd_r q2, bnd_r q3]; exact if_pos hc71) _ wrong_fl.1 (jk.trans wrong_fl.2.k)
        · exact absurd rfl hc26
  · exact absurd rfl hc4
end
