theorem dX7_read_0 : decode cX7_read 0 = .ok (.aload_n 0, 1) := by decide +kernel
theorem dX7_read_1 : decode cX7_read 1 = .ok (.iconst 0, 1) := by decide +kernel
theorem dX7_read_2 : decode cX7_read 2 = .ok (.putfield 67, 3) := by decide +kernel
theorem dX7_read_5 : decode cX7_read 5 = .ok (.aload_n 0, 1) := by decide +kernel
theorem dX7_read_6 : decode cX7_read 6 = .ok (.iconst (-1), 1) := by decide +kernel
theorem dX7_read_7 : decode cX7_read 7 = .ok (.putfield 70, 3) := by decide +kernel
theorem dX7_read_10 : decode cX7_read 10 = .ok (.aload_n 0, 1) := by decide +kernel
theorem dX7_read_11 : decode cX7_read 11 = .ok (.aload_n 3, 1) := by decide +kernel
theorem dX7_read_12 : decode cX7_read 12 = .ok (.putfield 73, 3) := by decide +kernel
theorem dX7_read_15 : decode cX7_read 15 = .ok (.aload_n 0, 1) := by decide +kernel
theorem dX7_read_16 : decode cX7_read 16 = .ok (.getfield 73, 3) := by decide +kernel
theorem dX7_read_19 : decode cX7_read 19 = .ok (.invokevirtual 77, 3) := by decide +kernel
theorem dX7_read_22 : decode cX7_read 22 = .ok (.aload_n 0, 1) := by decide +kernel
theorem dX7_read_23 : decode cX7_read 23 = .ok (.bipush 13, 2) := by decide +kernel
theorem dX7_read_25 : decode cX7_read 25 = .ok (.putfield 59, 3) := by decide +kernel
theorem dX7_read_28 : decode cX7_read 28 = .ok (.aload_n 0, 1) := by decide +kernel
theorem dX7_read_29 : decode cX7_read 29 = .ok (.iconst 0, 1) := by decide +kernel
theorem dX7_read_30 : decode cX7_read 30 = .ok (.putfield 82, 3) := by decide +kernel
theorem dX7_read_33 : decode cX7_read 33 = .ok (.aload_n 0, 1) := by decide +kernel
theorem dX7_read_34 : decode cX7_read 34 = .ok (.getfield 14, 3) := by decide +kernel
theorem dX7_read_37 : decode cX7_read 37 = .ok (.aload_n 1, 1) := by decide +kernel
theorem dX7_read_38 : decode cX7_read 38 = .ok (.iload_n 2, 1) := by decide +kernel
theorem dX7_read_39 : decode cX7_read 39 = .ok (.invokevirtual 85, 3) := by decide +kernel
theorem dX7_read_42 : decode cX7_read 42 = .ok (.iconst 1, 1) := by decide +kernel
theorem dX7_read_43 : decode cX7_read 43 = .ok (.istore 4, 2) := by decide +kernel
theorem dX7_read_45 : decode cX7_read 45 = .ok (.iconst 0, 1) := by decide +kernel
theorem dX7_read_46 : decode cX7_read 46 = .ok (.istore 5, 2) := by decide +kernel
theorem dX7_read_48 : decode cX7_read 48 = .ok (.iload 4, 2) := by decide +kernel
theorem dX7_read_50 : decode cX7_read 50 = .ok (.ifCond .eq 49, 3) := by decide +kernel
theorem dX7_read_53 : decode cX7_read 53 = .ok (.iload 5, 2) := by decide +kernel
theorem dX7_read_55 : decode cX7_read 55 = .ok (.iload_n 2, 1) := by decide +kernel
theorem dX7_read_56 : decode cX7_read 56 = .ok (.if_icmp .gt 43, 3) := by decide +kernel
theorem dX7_read_59 : decode cX7_read 59 = .ok (.aload_n 0, 1) := by decide +kernel
theorem dX7_read_60 : decode cX7_read 60 = .ok (.getfield 14, 3) := by decide +kernel
theorem dX7_read_63 : decode cX7_read 63 = .ok (.invokevirtual 89, 3) := by decide +kernel
theorem dX7_read_66 : decode cX7_read 66 = .ok (.aload_n 0, 1) := by decide +kernel
theorem dX7_read_67 : decode cX7_read 67 = .ok (.invokevirtual 92, 3) := by decide +kernel
theorem dX7_read_70 : decode cX7_read 70 = .ok (.ifCond .ne 5, 3) := by decide +kernel
theorem dX7_read_73 : decode cX7_read 73 = .ok (.iconst 0, 1) := by decide +kernel
theorem dX7_read_74 : decode cX7_read 74 = .ok (.ireturn, 1) := by decide +kernel
theorem dX7_read_75 : decode cX7_read 75 = .ok (.aload_n 0, 1) := by decide +kernel
theorem dX7_read_76 : decode cX7_read 76 = .ok (.getfield 14, 3) := by decide +kernel
theorem dX7_read_79 : decode cX7_read 79 = .ok (.getfield 96, 3) := by decide +kernel
theorem dX7_read_82 : decode cX7_read 82 = .ok (.iconst 3, 1) := by decide +kernel
theorem dX7_read_83 : decode cX7_read 83 = .ok (.if_icmp .ne 7, 3) := by decide +kernel
theorem dX7_read_86 : decode cX7_read 86 = .ok (.iconst 1, 1) := by decide +kernel
theorem dX7_read_87 : decode cX7_read 87 = .ok (.goto 4, 3) := by decide +kernel
theorem dX7_read_90 : decode cX7_read 90 = .ok (.iconst 0, 1) := by decide +kernel
theorem dX7_read_91 : decode cX7_read 91 = .ok (.istore 4, 2) := by decide +kernel
theorem dX7_read_93 : decode cX7_read 93 = .ok (.iinc 5 1, 3) := by decide +kernel
theorem dX7_read_96 : decode cX7_read 96 = .ok (.goto (-48), 3) := by decide +kernel
theorem dX7_read_99 : decode cX7_read 99 = .ok (.aload_n 0, 1) := by decide +kernel
theorem dX7_read_100 : decode cX7_read 100 = .ok (.invokevirtual 99, 3) := by decide +kernel
theorem dX7_read_103 : decode cX7_read 103 = .ok (.ireturn, 1) := by decide +kernel
theorem dX7_readEnd_0 : decode cX7_readEnd 0 = .ok (.aload_n 0, 1) := by decide +kernel
theorem dX7_readEnd_1 : decode cX7_readEnd 1 = .ok (.getfield 14, 3) := by decide +kernel
theorem dX7_readEnd_4 : decode cX7_readEnd 4 = .ok (.getfield 96, 3) := by decide +kernel
theorem dX7_readEnd_7 : decode cX7_readEnd 7 = .ok (.ifCond .eq 9, 3) := by decide +kernel
theorem dX7_readEnd_10 : decode cX7_readEnd 10 = .ok (.aload_n 0, 1) := by decide +kernel
theorem dX7_readEnd_11 : decode cX7_readEnd 11 = .ok (.iconst 1, 1) := by decide +kernel
theorem dX7_readEnd_12 : decode cX7_readEnd 12 = .ok (.invokevirtual 102, 3) := by decide +kernel
theorem dX7_readEnd_15 : decode cX7_readEnd 15 = .ok (.ireturn, 1) := by decide +kernel
theorem dX7_readEnd_16 : decode cX7_readEnd 16 = .ok (.aload_n 0, 1) := by decide +kernel
theorem dX7_readEnd_17 : decode cX7_readEnd 17 = .ok (.getfield 73, 3) := by decide +kernel
theorem dX7_readEnd_20 : decode cX7_readEnd 20 = .ok (.getfield 106, 3) := by decide +kernel
theorem dX7_readEnd_23 : decode cX7_readEnd 23 = .ok (.ifCond .eq 23, 3) := by decide +kernel
theorem dX7_readEnd_26 : decode cX7_readEnd 26 = .ok (.aload_n 0, 1) := by decide +kernel
theorem dX7_readEnd_27 : decode cX7_readEnd 27 = .ok (.getfield 73, 3) := by decide +kernel
theorem dX7_readEnd_30 : decode cX7_readEnd 30 = .ok (.getfield 109, 3) := by decide +kernel
theorem dX7_readEnd_33 : decode cX7_readEnd 33 = .ok (.ifCond .eq 13, 3) := by decide +kernel
theorem dX7_readEnd_36 : decode cX7_readEnd 36 = .ok (.aload_n 0, 1) := by decide +kernel
theorem dX7_readEnd_37 : decode cX7_readEnd 37 = .ok (.getfield 73, 3) := by decide +kernel
theorem dX7_readEnd_40 : decode cX7_readEnd 40 = .ok (.getfield 112, 3) := by decide +kernel
theorem dX7_readEnd_43 : decode cX7_readEnd 43 = .ok (.ifCond .ne 10, 3) := by decide +kernel
theorem dX7_readEnd_46 : decode cX7_readEnd 46 = .ok (.aload_n 0, 1) := by decide +kernel
theorem dX7_readEnd_47 : decode cX7_readEnd 47 = .ok (.bipush 6, 2) := by decide +kernel
theorem dX7_readEnd_49 : decode cX7_readEnd 49 = .ok (.invokevirtual 102, 3) := by decide +kernel
theorem dX7_readEnd_52 : decode cX7_readEnd 52 = .ok (.ireturn, 1) := by decide +kernel
theorem dX7_readEnd_53 : decode cX7_readEnd 53 = .ok (.iconst 1, 1) := by decide +kernel
theorem dX7_readEnd_54 : decode cX7_readEnd 54 = .ok (.ireturn, 1) := by decide +kernel
theorem dX7_readLine_0 : decode cX7_readLine 0 = .ok (.aload_n 0, 1) := by decide +kernel
theorem dX7_readLine_1 : decode cX7_readLine 1 = .ok (.ldc 29, 2) := by decide +kernel
theorem dX7_readLine_3 : decode cX7_readLine 3 = .ok (.invokevirtual 115, 3) := by decide +kernel
theorem dX7_readLine_6 : decode cX7_readLine 6 = .ok (.ifCond .eq 8, 3) := by decide +kernel
theorem dX7_readLine_9 : decode cX7_readLine 9 = .ok (.aload_n 0, 1) := by decide +kernel
theorem dX7_readLine_10 : decode cX7_readLine 10 = .ok (.invokevirtual 119, 3) := by decide +kernel
theorem dX7_readLine_13 : decode cX7_readLine 13 = .ok (.ireturn, 1) := by decide +kernel
theorem dX7_readLine_14 : decode cX7_readLine 14 = .ok (.aload_n 0, 1) := by decide +kernel
theorem dX7_readLine_15 : decode cX7_readLine 15 = .ok (.ldc 35, 2) := by decide +kernel
theorem dX7_readLine_17 : decode cX7_readLine 17 = .ok (.invokevirtual 115, 3) := by decide +kernel
theorem dX7_readLine_20 : decode cX7_readLine 20 = .ok (.ifCond .eq 8, 3) := by decide +kernel
theorem dX7_readLine_23 : decode cX7_readLine 23 = .ok (.aload_n 0, 1) := by decide +kernel
theorem dX7_readLine_24 : decode cX7_readLine 24 = .ok (.invokevirtual 122, 3) := by decide +kernel
theorem dX7_readLine_27 : decode cX7_readLine 27 = .ok (.ireturn, 1) := by decide +kernel
theorem dX7_readLine_28 : decode cX7_readLine 28 = .ok (.aload_n 0, 1) := by decide +kernel
theorem dX7_readLine_29 : decode cX7_readLine 29 = .ok (.ldc 37, 2) := by decide +kernel
theorem dX7_readLine_31 : decode cX7_readLine 31 = .ok (.invokevirtual 115, 3) := by decide +kernel
theorem dX7_readLine_34 : decode cX7_readLine 34 = .ok (.ifCond .eq 8, 3) := by decide +kernel
theorem dX7_readLine_37 : decode cX7_readLine 37 = .ok (.aload_n 0, 1) := by decide +kernel
theorem dX7_readLine_38 : decode cX7_readLine 38 = .ok (.invokevirtual 125, 3) := by decide +kernel
theorem dX7_readLine_41 : decode cX7_readLine 41 = .ok (.ireturn, 1) := by decide +kernel
theorem dX7_readLine_42 : decode cX7_readLine 42 = .ok (.aload_n 0, 1) := by decide +kernel
theorem dX7_readLine_43 : decode cX7_readLine 43 = .ok (.ldc 39, 2) := by decide +kernel
theorem dX7_readLine_45 : decode cX7_readLine 45 = .ok (.invokevirtual 115, 3) := by decide +kernel
theorem dX7_readLine_48 : decode cX7_readLine 48 = .ok (.ifCond .eq 8, 3) := by decide +kernel
theorem dX7_readLine_51 : decode cX7_readLine 51 = .ok (.aload_n 0, 1) := by decide +kernel
theorem dX7_readLine_52 : decode cX7_readLine 52 = .ok (.invokevirtual 128, 3) := by decide +kernel
theorem dX7_readLine_55 : decode cX7_readLine 55 = .ok (.ireturn, 1) := by decide +kernel
theorem dX7_readLine_56 : decode cX7_readLine 56 = .ok (.aload_n 0, 1) := by decide +kernel
theorem dX7_readLine_57 : decode cX7_readLine 57 = .ok (.ldc 41, 2) := by decide +kernel
theorem dX7_readLine_59 : decode cX7_readLine 59 = .ok (.invokevirtual 115, 3) := by decide +kernel
theorem dX7_readLine_62 : decode cX7_readLine 62 = .ok (.ifCond .eq 8, 3) := by decide +kernel
theorem dX7_readLine_65 : decode cX7_readLine 65 = .ok (.aload_n 0, 1) := by decide +kernel
theorem dX7_readLine_66 : decode cX7_readLine 66 = .ok (.invokevirtual 131, 3) := by decide +kernel
theorem dX7_readLine_69 : decode cX7_readLine 69 = .ok (.ireturn, 1) := by decide +kernel
theorem dX7_readLine_70 : decode cX7_readLine 70 = .ok (.aload_n 0, 1) := by decide +kernel
theorem dX7_readLine_71 : decode cX7_readLine 71 = .ok (.ldc 43, 2) := by decide +kernel
theorem dX7_readLine_73 : decode cX7_readLine 73 = .ok (.invokevirtual 115, 3) := by decide +kernel
theorem dX7_readLine_76 : decode cX7_readLine 76 = .ok (.ifCond .eq 8, 3) := by decide +kernel
theorem dX7_readLine_79 : decode cX7_readLine 79 = .ok (.aload_n 0, 1) := by decide +kernel
theorem dX7_readLine_80 : decode cX7_readLine 80 = .ok (.invokevirtual 134, 3) := by decide +kernel
theorem dX7_readLine_83 : decode cX7_readLine 83 = .ok (.ireturn, 1) := by decide +kernel
theorem dX7_readLine_84 : decode cX7_readLine 84 = .ok (.aload_n 0, 1) := by decide +kernel
theorem dX7_readLine_85 : decode cX7_readLine 85 = .ok (.ldc 45, 2) := by decide +kernel
theorem dX7_readLine_87 : decode cX7_readLine 87 = .ok (.invokevirtual 115, 3) := by decide +kernel
theorem dX7_readLine_90 : decode cX7_readLine 90 = .ok (.ifCond .eq 8, 3) := by decide +kernel
theorem dX7_readLine_93 : decode cX7_readLine 93 = .ok (.aload_n 0, 1) := by decide +kernel
theorem dX7_readLine_94 : decode cX7_readLine 94 = .ok (.invokevirtual 137, 3) := by decide +kernel
theorem dX7_readLine_97 : decode cX7_readLine 97 = .ok (.ireturn, 1) := by decide +kernel
theorem dX7_readLine_98 : decode cX7_readLine 98 = .ok (.aload_n 0, 1) := by decide +kernel
theorem dX7_readLine_99 : decode cX7_readLine 99 = .ok (.ldc 47, 2) := by decide +kernel
theorem dX7_readLine_101 : decode cX7_readLine 101 = .ok (.invokevirtual 115, 3) := by decide +kernel
theorem dX7_readLine_104 : decode cX7_readLine 104 = .ok (.ifCond .eq 8, 3) := by decide +kernel
theorem dX7_readLine_107 : decode cX7_readLine 107 = .ok (.aload_n 0, 1) := by decide +kernel
theorem dX7_readLine_108 : decode cX7_readLine 108 = .ok (.invokevirtual 140, 3) := by decide +kernel
theorem dX7_readLine_111 : decode cX7_readLine 111 = .ok (.ireturn, 1) := by decide +kernel
theorem dX7_readLine_112 : decode cX7_readLine 112 = .ok (.aload_n 0, 1) := by decide +kernel
theorem dX7_readLine_113 : decode cX7_readLine 113 = .ok (.ldc 49, 2) := by decide +kernel
theorem dX7_readLine_115 : decode cX7_readLine 115 = .ok (.invokevirtual 115, 3) := by decide +kernel
theorem dX7_readLine_118 : decode cX7_readLine 118 = .ok (.ifCond .eq 8, 3) := by decide +kernel
theorem dX7_readLine_121 : decode cX7_readLine 121 = .ok (.aload_n 0, 1) := by decide +kernel
theorem dX7_readLine_122 : decode cX7_readLine 122 = .ok (.invokevirtual 143, 3) := by decide +kernel
theorem dX7_readLine_125 : decode cX7_readLine 125 = .ok (.ireturn, 1) := by decide +kernel
theorem dX7_readLine_126 : decode cX7_readLine 126 = .ok (.aload_n 0, 1) := by decide +kernel
theorem dX7_readLine_127 : decode cX7_readLine 127 = .ok (.iconst 1, 1) := by decide +kernel
theorem dX7_readLine_128 : decode cX7_readLine 128 = .ok (.invokevirtual 102, 3) := by decide +kernel
theorem dX7_readLine_131 : decode cX7_readLine 131 = .ok (.ireturn, 1) := by decide +kernel
section
variable {b : Nat} {ad : Nat → Nat} {I J : HI} {L M : HL} {R : HR} {Q : QT} {tp : Nat → Nat} {sz k e bf B : Nat} {s : PS} {F : bkF} {cnt : Nat} {sl : Nat → Nat}
theorem LQ.fr {pr : PR} (h : LQ I L R B tp sz pr Q) (hf : FrB B I J L M) : LQ J M R B tp sz pr Q := ⟨fun f p q K N a1 a2 a3 => h.1 f p q K N a1 a2 (hf.trans a3), fun u q K N bf a1 a2 => h.2 u q K N bf a1 (hf.trans a2)⟩
theorem LQ.eq {pr pr' : PR} (h : LQ I L R B tp sz pr Q) (e : pr = pr') : LQ I L R B tp sz pr' Q := e ▸ h
theorem c_X7_readLine (h : RdC I L R B tp sz s bf) (hQ : LQ I L R B tp sz (line tp sz s) Q) : KK 8 mX7_readLine b ad [.ref (b + 88)] I L R Q := by
  have hR := h.1.1
  have hT := h.1.2.2.2.1
  refine K.of (M := mX7_readLine) (lv := [some (.ref (b + 88))]) (by decide) (Nat.le_of_ble_eq_true rfl) rfl ?_
  refine v_aload_0 dX7_readLine_0 ?_
  refine v_ldcS (i := 0) dX7_readLine_1 (by decide) rfl rfl ?_
  refine u_callV_1 dX7_readLine_3 ml_X7_115 mv_X7_passWord (by first | assumption | rfl | exact led_1 (by assumption) | exact led_2 (by assumption) | exact bk_m (by assumption) (by first | assumption | omega) | exact bk_p (by assumption) (by first | assumption | omega) | exact bk_o (by assumption) (by first | assumption | omega) | exact bk_s (by assumption) (by first | assumption | omega) | exact bk_1 (by assumption) | exact bk_2 (by assumption) | exact bk_3 (by assumption) | exact bk_4 (by assumption) | exact bk_5 (by assumption) | exact bk_6 (by assumption) | exact bk_7 (by assumption) | exact bk_8 (by assumption) | exact sh_ring _ (by first | assumption | omega) | exact sh_imgs _ (by first | assumption | omega)) (by decide) rfl (by decide) (Nat.le_of_ble_eq_true rfl) (c_X7_passWord (i := 0) (by decide) hR hT (fun w0 => ?_) (fun w0 J M r1 f1 => ?_))
  · refine v_if_eq (tgt := 14) dX7_readLine_6 (by decide) (fun _ => ?_) (fun h => absurd rfl h)
    refine v_aload_0 dX7_readLine_14 ?_
    refine v_ldcS (i := 1) dX7_readLine_15 (by decide) rfl rfl ?_
    refine u_callV_1 dX7_readLine_17 ml_X7_115 mv_X7_passWord (by first | assumption | rfl | exact led_1 (by assumption) | exact led_2 (by assumption) | exact bk_m (by assumption) (by first | assumption | omega) | exact bk_p (by assumption) (by first | assumption | omega) | exact bk_o (by assumption) (by first | assumption | omega) | exact bk_s (by assumption) (by first | assumption | omega) | exact bk_1 (by assumption) | exact bk_2 (by assumption) | exact bk_3 (by assumption) | exact bk_4 (by assumption) | exact bk_5 (by assumption) | exact bk_6 (by assumption) | exact bk_7 (by assumption) | exact bk_8 (by assumption) | exact sh_ring _ (by first | assumption | omega) | exact sh_imgs _ (by first | assumption | omega)) (by decide) rfl (by decide) (Nat.le_of_ble_eq_true rfl) (c_X7_passWord (i := 1) (by decide) hR hT (fun w1 => ?_) (fun w1 J M r1 f1 => ?_))
    · refine v_if_eq (tgt := 28) dX7_readLine_20 (by decide) (fun _ => ?_) (fun h => absurd rfl h)
      refine v_aload_0 dX7_readLine_28 ?_
      refine v_ldcS (i := 2) dX7_readLine_29 (by decide) rfl rfl ?_
      refine u_callV_1 dX7_readLine_31 ml_X7_115 mv_X7_passWord (by first | assumption | rfl | exact led_1 (by assumption) | exact led_2 (by assumption) | exact bk_m (by assumption) (by first | assumption | omega) | exact bk_p (by assumption) (by first | assumption | omega) | exact bk_o (by assumption) (by first | assumption | omega) | exact bk_s (by assumption) (by first | assumption | omega) | exact bk_1 (by assumption) | exact bk_2 (by assumption) | exact bk_3 (by assumption) | exact bk_4 (by assumption) | exact bk_5 (by assumption) | exact bk_6 (by assumption) | exact bk_7 (by assumption) | exact bk_8 (by assumption) | exact sh_ring _ (by first | assumption | omega) | exact sh_imgs _ (by first | assumption | omega)) (by decide) rfl (by decide) (Nat.le_of_ble_eq_true rfl) (c_X7_passWord (i := 2) (by decide) hR hT (fun w2 => ?_) (fun w2 J M r1 f1 => ?_))
      · refine v_if_eq (tgt := 42) dX7_readLine_34 (by decide) (fun _ => ?_) (fun h => absurd rfl h)
        refine v_aload_0 dX7_readLine_42 ?_
        refine v_ldcS (i := 3) dX7_readLine_43 (by decide) rfl rfl ?_
        refine u_callV_1 dX7_readLine_45 ml_X7_115 mv_X7_passWord (by first | assumption | rfl | exact led_1 (by assumption) | exact led_2 (by assumption) | exact bk_m (by assumption) (by first | assumption | omega) | exact bk_p (by assumption) (by first | assumption | omega) | exact bk_o (by assumption) (by first | assumption | omega) | exact bk_s (by assumption) (by first | assumption | omega) | exact bk_1 (by assumption) | exact bk_2 (by assumption) | exact bk_3 (by assumption) | exact bk_4 (by assumption) | exact bk_5 (by assumption) | exact bk_6 (by assumption) | exact bk_7 (by assumption) | exact bk_8 (by assumption) | exact sh_ring _ (by first | assumption | omega) | exact sh_imgs _ (by first | assumption | omega)) (by decide) rfl (by decide) (Nat.le_of_ble_eq_true rfl) (c_X7_passWord (i := 3) (by decide) hR hT (fun w3 => ?_) (fun w3 J M r1 f1 => ?_))
        · refine v_if_eq (tgt := 56) dX7_readLine_48 (by decide) (fun _ => ?_) (fun h => absurd rfl h)
          refine v_aload_0 dX7_readLine_56 ?_
          refine v_ldcS (i := 4) dX7_readLine_57 (by decide) rfl rfl ?_
          refine u_callV_1 dX7_readLine_59 ml_X7_115 mv_X7_passWord (by first | assumption | rfl | exact led_1 (by assumption) | exact led_2 (by assumption) | exact bk_m (by assumption) (by first | assumption | omega) | exact bk_p (by assumption) (by first | assumption | omega) | exact bk_o (by assumption) (by first | assumption | omega) | exact bk_s (by assumption) (by first | assumption | omega) | exact bk_1 (by assumption) | exact bk_2 (by assumption) | exact bk_3 (by assumption) | exact bk_4 (by assumption) | exact bk_5 (by assumption) | exact bk_6 (by assumption) | exact bk_7 (by assumption) | exact bk_8 (by assumption) | exact sh_ring _ (by first | assumption | omega) | exact sh_imgs _ (by first | assumption | omega)) (by decide) rfl (by decide) (Nat.le_of_ble_eq_true rfl) (c_X7_passWord (i := 4) (by decide) hR hT (fun w4 => ?_) (fun w4 J M r1 f1 => ?_))
          · refine v_if_eq (tgt := 70) dX7_readLine_62 (by decide) (fun _ => ?_) (fun h => absurd rfl h)
            refine v_aload_0 dX7_readLine_70 ?_
            refine v_ldcS (i := 5) dX7_readLine_71 (by decide) rfl rfl ?_
            refine u_callV_1 dX7_readLine_73 ml_X7_115 mv_X7_passWord (by first | assumption | rfl | exact led_1 (by assumption) | exact led_2 (by assumption) | exact bk_m (by assumption) (by first | assumption | omega) | exact bk_p (by assumption) (by first | assumption | omega) | exact bk_o (by assumption) (by first | assumption | omega) | exact bk_s (by assumption) (by first | assumption | omega) | exact bk_1 (by assumption) | exact bk_2 (by assumption) | exact bk_3 (by assumption) | exact bk_4 (by assumption) | exact bk_5 (by assumption) | exact bk_6 (by assumption) | exact bk_7 (by assumption) | exact bk_8 (by assumption) | exact sh_ring _ (by first | assumption | omega) | exact sh_imgs _ (by first | assumption | omega)) (by decide) rfl (by decide) (Nat.le_of_ble_eq_true rfl) (c_X7_passWord (i := 5) (by decide) hR hT (fun w5 => ?_) (fun w5 J M r1 f1 => ?_))
            · refine v_if_eq (tgt := 84) dX7_readLine_76 (by decide) (fun _ => ?_) (fun h => absurd rfl h)
              refine v_aload_0 dX7_readLine_84 ?_
              refine v_ldcS (i := 6) dX7_readLine_85 (by decide) rfl rfl ?_
              refine u_callV_1 dX7_readLine_87 ml_X7_115 mv_X7_passWord (by first | assumption | rfl | exact led_1 (by assumption) | exact led_2 (by assumption) | exact bk_m (by assumption) (by first | assumption | omega) | exact bk_p (by assumption) (by first | assumption | omega) | exact bk_o (by assumption) (by first | assumption | omega) | exact bk_s (by assumption) (by first | assumption | omega) | exact bk_1 (by assumption) | exact bk_2 (by assumption) | exact bk_3 (by assumption) | exact bk_4 (by assumption) | exact bk_5 (by assumption) | exact bk_6 (by assumption) | exact bk_7 (by assumption) | exact bk_8 (by assumption) | exact sh_ring _ (by first | assumption | omega) | exact sh_imgs _ (by first | assumption | omega)) (by decide) rfl (by decide) (Nat.le_of_ble_eq_true rfl) (c_X7_passWord (i := 6) (by decide) hR hT (fun w6 => ?_) (fun w6 J M r1 f1 => ?_))
              · refine v_if_eq (tgt := 98) dX7_readLine_90 (by decide) (fun _ => ?_) (fun h => absurd rfl h)
                refine v_aload_0 dX7_readLine_98 ?_
                refine v_ldcS (i := 7) dX7_readLine_99 (by decide) rfl rfl ?_
                refine u_callV_1 dX7_readLine_101 ml_X7_115 mv_X7_passWord (by first | assumption | rfl | exact led_1 (by assumption) | exact led_2 (by assumption) | exact bk_m (by assumption) (by first | assumption | omega) | exact bk_p (by assumption) (by first | assumption | omega) | exact bk_o (by assumption) (by first | assumption | omega) | exact bk_s (by assumption) (by first | assumption | omega) | exact bk_1 (by assumption) | exact bk_2 (by assumption) | exact bk_3 (by assumption) | exact bk_4 (by assumption) | exact bk_5 (by assumption) | exact bk_6 (by assumption) | exact bk_7 (by assumption) | exact bk_8 (by assumption) | exact sh_ring _ (by first | assumption | omega) | exact sh_imgs _ (by first | assumption | omega)) (by decide) rfl (by decide) (Nat.le_of_ble_eq_true rfl) (c_X7_passWord (i := 7) (by decide) hR hT (fun w7 => ?_) (fun w7 J M r1 f1 => ?_))
                · refine v_if_eq (tgt := 112) dX7_readLine_104 (by decide) (fun _ => ?_) (fun h => absurd rfl h)
                  refine v_aload_0 dX7_readLine_112 ?_
                  refine v_ldcS (i := 8) dX7_readLine_113 (by decide) rfl rfl ?_
                  refine u_callV_1 dX7_readLine_115 ml_X7_115 mv_X7_passWord (by first | assumption | rfl | exact led_1 (by assumption) | exact led_2 (by assumption) | exact bk_m (by assumption) (by first | assumption | omega) | exact bk_p (by assumption) (by first | assumption | omega) | exact bk_o (by assumption) (by first | assumption | omega) | exact bk_s (by assumption) (by first | assumption | omega) | exact bk_1 (by assumption) | exact bk_2 (by assumption) | exact bk_3 (by assumption) | exact bk_4 (by assumption) | exact bk_5 (by assumption) | exact bk_6 (by assumption) | exact bk_7 (by assumption) | exact bk_8 (by assumption) | exact sh_ring _ (by first | assumption | omega) | exact sh_imgs _ (by first | assumption | omega)) (by decide) rfl (by decide) (Nat.le_of_ble_eq_true rfl) (c_X7_passWord (i := 8) (by decide) hR hT (fun w8 => ?_) (fun w8 J M r1 f1 => ?_))
                  · refine v_if_eq (tgt := 126) dX7_readLine_118 (by decide) (fun _ => ?_) (fun h => absurd rfl h)
                    refine v_aload_0 dX7_readLine_126 ?_
                    refine v_iconst (v := nI 1) dX7_readLine_127 (by decide) ?_
                    refine u_callV_1 dX7_readLine_128 ml_X7_102 mv_X7_failHere (by first | assumption | rfl | exact led_1 (by assumption) | exact led_2 (by assumption) | exact bk_m (by assumption) (by first | assumption | omega) | exact bk_p (by assumption) (by first | assumption | omega) | exact bk_o (by assumption) (by first | assumption | omega) | exact bk_s (by assumption) (by first | assumption | omega) | exact bk_1 (by assumption) | exact bk_2 (by assumption) | exact bk_3 (by assumption) | exact bk_4 (by assumption) | exact bk_5 (by assumption) | exact bk_6 (by assumption) | exact bk_7 (by assumption) | exact bk_8 (by assumption) | exact sh_ring _ (by first | assumption | omega) | exact sh_imgs _ (by first | assumption | omega)) (by decide) rfl (by decide) (Nat.le_of_ble_eq_true rfl) (c_X7_failHere hR hT (fun J p1 p2 p3 p4 => ?_))
                    refine v_zret dX7_readLine_131 (by first | rfl | exact bI_n _) rfl rfl rfl rfl ?_
                    exact hQ.1 1 _ (by unfold line; rw [if_neg (by rw [w0]; decide), if_neg (by rw [w1]; decide), if_neg (by rw [w2]; decide), if_neg (by rw [w3]; decide), if_neg (by rw [w4]; decide), if_neg (by rw [w5]; decide), if_neg (by rw [w6]; decide), if_neg (by rw [w7]; decide), if_neg (by rw [w8]; decide)]) _ _ p1 p2 (FrB.refl.fr9 p3)
                  · refine v_if_eq (tgt := 126) dX7_readLine_118 (by decide) (fun h => absurd h (by decide)) (fun _ => ?_)
                    have hQ2 := (hQ.eq (by unfold line; rw [if_neg (by rw [w0]; decide), if_neg (by rw [w1]; decide), if_neg (by rw [w2]; decide), if_neg (by rw [w3]; decide), if_neg (by rw [w4]; decide), if_neg (by rw [w5]; decide), if_neg (by rw [w6]; decide), if_neg (by rw [w7]; decide), if_pos w8]; first | done | rfl : line tp sz s = (if (nx tp sz s).2.1 0 = 0 then .inl (6, tA tp sz s.1) else if (nx tp sz s).2.1 7 < 8 then lBreak tp sz (nx tp sz s) else .inl (5, tA tp sz s.1)))).fr (FrB.refl.fr9 f1)
                    refine v_aload_0 dX7_readLine_121 ?_
                    refine u_callV_0 dX7_readLine_122 ml_X7_143 mv_X7_readBreak (by first | assumption | rfl | exact led_1 (by assumption) | exact led_2 (by assumption) | exact bk_m (by assumption) (by first | assumption | omega) | exact bk_p (by assumption) (by first | assumption | omega) | exact bk_o (by assumption) (by first | assumption | omega) | exact bk_s (by assumption) (by first | assumption | omega) | exact bk_1 (by assumption) | exact bk_2 (by assumption) | exact bk_3 (by assumption) | exact bk_4 (by assumption) | exact bk_5 (by assumption) | exact bk_6 (by assumption) | exact bk_7 (by assumption) | exact bk_8 (by assumption) | exact sh_ring _ (by first | assumption | omega) | exact sh_imgs _ (by first | assumption | omega)) (by decide) rfl (by decide) (Nat.le_of_ble_eq_true rfl) (c_X7_readBreak (h.nx f1 r1) ⟨fun f p q J2 M2 a1 a2 a3 => ?_, fun u q J2 M2 bf2 a1 a2 => ?_⟩)
                    · refine v_zret dX7_readLine_125 (by first | rfl | exact bI_n _) rfl rfl rfl rfl ?_
                      exact hQ2.1 f p q _ _ a1 a2 a3
                    · refine v_zret dX7_readLine_125 (by first | rfl | exact bI_n _) rfl rfl rfl rfl ?_
                      exact hQ2.2 u q _ _ _ a1 a2
                · refine v_if_eq (tgt := 112) dX7_readLine_104 (by decide) (fun h => absurd h (by decide)) (fun _ => ?_)
                  have hQ2 := (hQ.eq (by unfold line; rw [if_neg (by rw [w0]; decide), if_neg (by rw [w1]; decide), if_neg (by rw [w2]; decide), if_neg (by rw [w3]; decide), if_neg (by rw [w4]; decide), if_neg (by rw [w5]; decide), if_neg (by rw [w6]; decide), if_pos w7]; first | done | rfl : line tp sz s = (if (nx tp sz s).2.1 0 = 0 then .inl (6, tA tp sz s.1) else if (nx tp sz s).2.1 6 < 8 then lLetter tp sz (nx tp sz s) else .inl (5, tA tp sz s.1)))).fr (FrB.refl.fr9 f1)
                  refine v_aload_0 dX7_readLine_107 ?_
                  refine u_callV_0 dX7_readLine_108 ml_X7_140 mv_X7_readLetter (by first | assumption | rfl | exact led_1 (by assumption) | exact led_2 (by assumption) | exact bk_m (by assumption) (by first | assumption | omega) | exact bk_p (by assumption) (by first | assumption | omega) | exact bk_o (by assumption) (by first | assumption | omega) | exact bk_s (by assumption) (by first | assumption | omega) | exact bk_1 (by assumption) | exact bk_2 (by assumption) | exact bk_3 (by assumption) | exact bk_4 (by assumption) | exact bk_5 (by assumption) | exact bk_6 (by assumption) | exact bk_7 (by assumption) | exact bk_8 (by assumption) | exact sh_ring _ (by first | assumption | omega) | exact sh_imgs _ (by first | assumption | omega)) (by decide) rfl (by decide) (Nat.le_of_ble_eq_true rfl) (c_X7_readLetter (h.nx f1 r1) ⟨fun f p q J2 M2 a1 a2 a3 => ?_, fun u q J2 M2 bf2 a1 a2 => ?_⟩)
                  · refine v_zret dX7_readLine_111 (by first | rfl | exact bI_n _) rfl rfl rfl rfl ?_
                    exact hQ2.1 f p q _ _ a1 a2 a3
                  · refine v_zret dX7_readLine_111 (by first | rfl | exact bI_n _) rfl rfl rfl rfl ?_
                    exact hQ2.2 u q _ _ _ a1 a2
              · refine v_if_eq (tgt := 98) dX7_readLine_90 (by decide) (fun h => absurd h (by decide)) (fun _ => ?_)
                have hQ2 := (hQ.eq (by unfold line; rw [if_neg (by rw [w0]; decide), if_neg (by rw [w1]; decide), if_neg (by rw [w2]; decide), if_neg (by rw [w3]; decide), if_neg (by rw [w4]; decide), if_neg (by rw [w5]; decide), if_pos w6]; first | done | rfl : line tp sz s = (if (nx tp sz s).2.1 0 = 0 then .inl (6, tA tp sz s.1) else if (nx tp sz s).2.1 5 < 8 then lSeen tp sz (nx tp sz s) else .inl (5, tA tp sz s.1)))).fr (FrB.refl.fr9 f1)
                refine v_aload_0 dX7_readLine_93 ?_
                refine u_callV_0 dX7_readLine_94 ml_X7_137 mv_X7_readSeen (by first | assumption | rfl | exact led_1 (by assumption) | exact led_2 (by assumption) | exact bk_m (by assumption) (by first | assumption | omega) | exact bk_p (by assumption) (by first | assumption | omega) | exact bk_o (by assumption) (by first | assumption | omega) | exact bk_s (by assumption) (by first | assumption | omega) | exact bk_1 (by assumption) | exact bk_2 (by assumption) | exact bk_3 (by assumption) | exact bk_4 (by assumption) | exact bk_5 (by assumption) | exact bk_6 (by assumption) | exact bk_7 (by assumption) | exact bk_8 (by assumption) | exact sh_ring _ (by first | assumption | omega) | exact sh_imgs _ (by first | assumption | omega)) (by decide) rfl (by decide) (Nat.le_of_ble_eq_true rfl) (c_X7_readSeen (h.nx f1 r1) ⟨fun f p q J2 M2 a1 a2 a3 => ?_, fun u q J2 M2 bf2 a1 a2 => ?_⟩)
                · refine v_zret dX7_readLine_97 (by first | rfl | exact bI_n _) rfl rfl rfl rfl ?_
                  exact hQ2.1 f p q _ _ a1 a2 a3
                · refine v_zret dX7_readLine_97 (by first | rfl | exact bI_n _) rfl rfl rfl rfl ?_
                  exact hQ2.2 u q _ _ _ a1 a2
            · refine v_if_eq (tgt := 84) dX7_readLine_76 (by decide) (fun h => absurd h (by decide)) (fun _ => ?_)
              have hQ2 := (hQ.eq (by unfold line; rw [if_neg (by rw [w0]; decide), if_neg (by rw [w1]; decide), if_neg (by rw [w2]; decide), if_neg (by rw [w3]; decide), if_neg (by rw [w4]; decide), if_pos w5]; first | done | rfl : line tp sz s = (if (nx tp sz s).2.1 0 = 0 then .inl (6, tA tp sz s.1) else if (nx tp sz s).2.2.1 < 12 then lLent tp sz (nx tp sz s) else .inl (5, tA tp sz s.1)))).fr (FrB.refl.fr9 f1)
              refine v_aload_0 dX7_readLine_79 ?_
              refine u_callV_0 dX7_readLine_80 ml_X7_134 mv_X7_readLent (by first | assumption | rfl | exact led_1 (by assumption) | exact led_2 (by assumption) | exact bk_m (by assumption) (by first | assumption | omega) | exact bk_p (by assumption) (by first | assumption | omega) | exact bk_o (by assumption) (by first | assumption | omega) | exact bk_s (by assumption) (by first | assumption | omega) | exact bk_1 (by assumption) | exact bk_2 (by assumption) | exact bk_3 (by assumption) | exact bk_4 (by assumption) | exact bk_5 (by assumption) | exact bk_6 (by assumption) | exact bk_7 (by assumption) | exact bk_8 (by assumption) | exact sh_ring _ (by first | assumption | omega) | exact sh_imgs _ (by first | assumption | omega)) (by decide) rfl (by decide) (Nat.le_of_ble_eq_true rfl) (c_X7_readLent (h.nx f1 r1) ⟨fun f p q J2 M2 a1 a2 a3 => ?_, fun u q J2 M2 bf2 a1 a2 => ?_⟩)
              · refine v_zret dX7_readLine_83 (by first | rfl | exact bI_n _) rfl rfl rfl rfl ?_
                exact hQ2.1 f p q _ _ a1 a2 a3
              · refine v_zret dX7_readLine_83 (by first | rfl | exact bI_n _) rfl rfl rfl rfl ?_
                exact hQ2.2 u q _ _ _ a1 a2
          · refine v_if_eq (tgt := 70) dX7_readLine_62 (by decide) (fun h => absurd h (by decide)) (fun _ => ?_)
            have hQ2 := (hQ.eq (by unfold line; rw [if_neg (by rw [w0]; decide), if_neg (by rw [w1]; decide), if_neg (by rw [w2]; decide), if_neg (by rw [w3]; decide), if_pos w4]; first | done | rfl : line tp sz s = (if (nx tp sz s).2.1 0 = 0 then .inl (6, tA tp sz s.1) else if (nx tp sz s).2.1 4 < 12 then lPromise tp sz (nx tp sz s) else .inl (5, tA tp sz s.1)))).fr (FrB.refl.fr9 f1)
            refine v_aload_0 dX7_readLine_65 ?_
            refine u_callV_0 dX7_readLine_66 ml_X7_131 mv_X7_readPromise (by first | assumption | rfl | exact led_1 (by assumption) | exact led_2 (by assumption) | exact bk_m (by assumption) (by first | assumption | omega) | exact bk_p (by assumption) (by first | assumption | omega) | exact bk_o (by assumption) (by first | assumption | omega) | exact bk_s (by assumption) (by first | assumption | omega) | exact bk_1 (by assumption) | exact bk_2 (by assumption) | exact bk_3 (by assumption) | exact bk_4 (by assumption) | exact bk_5 (by assumption) | exact bk_6 (by assumption) | exact bk_7 (by assumption) | exact bk_8 (by assumption) | exact sh_ring _ (by first | assumption | omega) | exact sh_imgs _ (by first | assumption | omega)) (by decide) rfl (by decide) (Nat.le_of_ble_eq_true rfl) (c_X7_readPromise (h.nx f1 r1) ⟨fun f p q J2 M2 a1 a2 a3 => ?_, fun u q J2 M2 bf2 a1 a2 => ?_⟩)
            · refine v_zret dX7_readLine_69 (by first | rfl | exact bI_n _) rfl rfl rfl rfl ?_
              exact hQ2.1 f p q _ _ a1 a2 a3
            · refine v_zret dX7_readLine_69 (by first | rfl | exact bI_n _) rfl rfl rfl rfl ?_
              exact hQ2.2 u q _ _ _ a1 a2
        · refine v_if_eq (tgt := 56) dX7_readLine_48 (by decide) (fun h => absurd h (by decide)) (fun _ => ?_)
          have hQ2 := (hQ.eq (by unfold line; rw [if_neg (by rw [w0]; decide), if_neg (by rw [w1]; decide), if_neg (by rw [w2]; decide), if_pos w3]; first | done | rfl : line tp sz s = (if (nx tp sz s).2.1 3 < 6 then lPerson tp sz (nx tp sz s) else .inl (5, tA tp sz s.1)))).fr (FrB.refl.fr9 f1)
          refine v_aload_0 dX7_readLine_51 ?_
          refine u_callV_0 dX7_readLine_52 ml_X7_128 mv_X7_readPerson (by first | assumption | rfl | exact led_1 (by assumption) | exact led_2 (by assumption) | exact bk_m (by assumption) (by first | assumption | omega) | exact bk_p (by assumption) (by first | assumption | omega) | exact bk_o (by assumption) (by first | assumption | omega) | exact bk_s (by assumption) (by first | assumption | omega) | exact bk_1 (by assumption) | exact bk_2 (by assumption) | exact bk_3 (by assumption) | exact bk_4 (by assumption) | exact bk_5 (by assumption) | exact bk_6 (by assumption) | exact bk_7 (by assumption) | exact bk_8 (by assumption) | exact sh_ring _ (by first | assumption | omega) | exact sh_imgs _ (by first | assumption | omega)) (by decide) rfl (by decide) (Nat.le_of_ble_eq_true rfl) (c_X7_readPerson (h.nx f1 r1) ⟨fun f p q J2 M2 a1 a2 a3 => ?_, fun u q J2 M2 bf2 a1 a2 => ?_⟩)
          · refine v_zret dX7_readLine_55 (by first | rfl | exact bI_n _) rfl rfl rfl rfl ?_
            exact hQ2.1 f p q _ _ a1 a2 a3
          · refine v_zret dX7_readLine_55 (by first | rfl | exact bI_n _) rfl rfl rfl rfl ?_
            exact hQ2.2 u q _ _ _ a1 a2
      · refine v_if_eq (tgt := 42) dX7_readLine_34 (by decide) (fun h => absurd h (by decide)) (fun _ => ?_)
        have hQ2 := (hQ.eq (by unfold line; rw [if_neg (by rw [w0]; decide), if_neg (by rw [w1]; decide), if_pos w2]; first | done | rfl : line tp sz s = (if (nx tp sz s).2.1 2 < 6 then lMask tp sz (nx tp sz s) else .inl (5, tA tp sz s.1)))).fr (FrB.refl.fr9 f1)
        refine v_aload_0 dX7_readLine_37 ?_
        refine u_callV_0 dX7_readLine_38 ml_X7_125 mv_X7_readMask (by first | assumption | rfl | exact led_1 (by assumption) | exact led_2 (by assumption) | exact bk_m (by assumption) (by first | assumption | omega) | exact bk_p (by assumption) (by first | assumption | omega) | exact bk_o (by assumption) (by first | assumption | omega) | exact bk_s (by assumption) (by first | assumption | omega) | exact bk_1 (by assumption) | exact bk_2 (by assumption) | exact bk_3 (by assumption) | exact bk_4 (by assumption) | exact bk_5 (by assumption) | exact bk_6 (by assumption) | exact bk_7 (by assumption) | exact bk_8 (by assumption) | exact sh_ring _ (by first | assumption | omega) | exact sh_imgs _ (by first | assumption | omega)) (by decide) rfl (by decide) (Nat.le_of_ble_eq_true rfl) (c_X7_readMask (h.nx f1 r1) ⟨fun f p q J2 M2 a1 a2 a3 => ?_, fun u q J2 M2 bf2 a1 a2 => ?_⟩)
        · refine v_zret dX7_readLine_41 (by first | rfl | exact bI_n _) rfl rfl rfl rfl ?_
          exact hQ2.1 f p q _ _ a1 a2 a3
        · refine v_zret dX7_readLine_41 (by first | rfl | exact bI_n _) rfl rfl rfl rfl ?_
          exact hQ2.2 u q _ _ _ a1 a2
    · refine v_if_eq (tgt := 28) dX7_readLine_20 (by decide) (fun h => absurd h (by decide)) (fun _ => ?_)
      have hQ2 := (hQ.eq (by unfold line; rw [if_neg (by rw [w0]; decide), if_pos w1]; first | done | rfl : line tp sz s = lWork tp sz (6 - (nx tp sz s).2.1 1) (nx tp sz s))).fr (FrB.refl.fr9 f1)
      refine v_aload_0 dX7_readLine_23 ?_
      refine u_callV_0 dX7_readLine_24 ml_X7_122 mv_X7_readWorks (by first | assumption | rfl | exact led_1 (by assumption) | exact led_2 (by assumption) | exact bk_m (by assumption) (by first | assumption | omega) | exact bk_p (by assumption) (by first | assumption | omega) | exact bk_o (by assumption) (by first | assumption | omega) | exact bk_s (by assumption) (by first | assumption | omega) | exact bk_1 (by assumption) | exact bk_2 (by assumption) | exact bk_3 (by assumption) | exact bk_4 (by assumption) | exact bk_5 (by assumption) | exact bk_6 (by assumption) | exact bk_7 (by assumption) | exact bk_8 (by assumption) | exact sh_ring _ (by first | assumption | omega) | exact sh_imgs _ (by first | assumption | omega)) (by decide) rfl (by decide) (Nat.le_of_ble_eq_true rfl) (c_X7_readWorks (h.nx f1 r1) ⟨fun f p q J2 M2 a1 a2 a3 => ?_, fun u q J2 M2 bf2 a1 a2 => ?_⟩)
      · refine v_zret dX7_readLine_27 (by first | rfl | exact bI_n _) rfl rfl rfl rfl ?_
        exact hQ2.1 f p q _ _ a1 a2 a3
      · refine v_zret dX7_readLine_27 (by first | rfl | exact bI_n _) rfl rfl rfl rfl ?_
        exact hQ2.2 u q _ _ _ a1 a2
  · refine v_if_eq (tgt := 14) dX7_readLine_6 (by decide) (fun h => absurd h (by decide)) (fun _ => ?_)
    have hQ2 := (hQ.eq (by unfold line; rw [if_pos w0]; first | done | rfl : line tp sz s = (if (nx tp sz s).2.1 0 = 0 then lTown tp sz (nx tp sz s) else .inl (3, tA tp sz s.1)))).fr (FrB.refl.fr9 f1)
    refine v_aload_0 dX7_readLine_9 ?_
    refine u_callV_0 dX7_readLine_10 ml_X7_119 mv_X7_readTown (by first | assumption | rfl | exact led_1 (by assumption) | exact led_2 (by assumption) | exact bk_m (by assumption) (by first | assumption | omega) | exact bk_p (by assumption) (by first | assumption | omega) | exact bk_o (by assumption) (by first | assumption | omega) | exact bk_s (by assumption) (by first | assumption | omega) | exact bk_1 (by assumption) | exact bk_2 (by assumption) | exact bk_3 (by assumption) | exact bk_4 (by assumption) | exact bk_5 (by assumption) | exact bk_6 (by assumption) | exact bk_7 (by assumption) | exact bk_8 (by assumption) | exact sh_ring _ (by first | assumption | omega) | exact sh_imgs _ (by first | assumption | omega)) (by decide) rfl (by decide) (Nat.le_of_ble_eq_true rfl) (c_X7_readTown (h.nx f1 r1) ⟨fun f p q J2 M2 a1 a2 a3 => ?_, fun u q J2 M2 bf2 a1 a2 => ?_⟩)
    · refine v_zret dX7_readLine_13 (by first | rfl | exact bI_n _) rfl rfl rfl rfl ?_
      exact hQ2.1 f p q _ _ a1 a2 a3
    · refine v_zret dX7_readLine_13 (by first | rfl | exact bI_n _) rfl rfl rfl rfl ?_
      exact hQ2.2 u q _ _ _ a1 a2
theorem c_X7_readEnd (h : RdC I L R B tp sz s bf) (hQ : LQ I L R B tp sz (finP tp sz s) Q) : KK 1 mX7_readEnd b ad [.ref (b + 88)] I L R Q := by
  obtain ⟨hM, hPI, cnt, sl, hN, hC⟩ := h
  have hR := hM.1
  have hb2 := hM.2.1
  have hB := hM.2.2.1
  have hT := hM.2.2.2.1
  have hF := hM.2.2.2.2.1
  have hby := hT.by
  have hO := hPI.2.1
  have hK := hPI.2.2.2.2.2.2.1
  have h7 := hPI.2.2.1
  have o0 := hO.1
  have o1 := hO.2.1
  have o2 := hO.2.2.1
  have o3 := hO.2.2.2.1
  have o4 := hO.2.2.2.2.1
  have o5 := hO.2.2.2.2.2.1
  have o6 := hO.2.2.2.2.2.2.1
  have hbb := shB hB
  have hfr : FrB B I I L L := FrB.refl
  have hsb := srt_b (tK tp sz s.1)
  have hRd : RdC I L R B tp sz s bf := ⟨hM, hPI, cnt, sl, hN, hC⟩
  refine K.of (M := mX7_readEnd) (lv := [some (.ref (b + 88))]) (by decide) (Nat.le_of_ble_eq_true rfl) rfl ?_
  refine v_aload_0 dX7_readEnd_0 ?_
  refine u_getR dX7_readEnd_1 gf_X7_14 (by first | assumption | rfl | exact led_1 (by assumption) | exact led_2 (by assumption) | exact bk_m (by assumption) (by first | assumption | omega) | exact bk_p (by assumption) (by first | assumption | omega) | exact bk_o (by assumption) (by first | assumption | omega) | exact bk_s (by assumption) (by first | assumption | omega) | exact bk_1 (by assumption) | exact bk_2 (by assumption) | exact bk_3 (by assumption) | exact bk_4 (by assumption) | exact bk_5 (by assumption) | exact bk_6 (by assumption) | exact bk_7 (by assumption) | exact bk_8 (by assumption) | exact sh_ring _ (by first | assumption | omega) | exact sh_imgs _ (by first | assumption | omega)) (ro_X7_3 (by assumption)) ?_
  refine u_getI dX7_readEnd_4 gf_X7_96 (by first | assumption | rfl | exact led_1 (by assumption) | exact led_2 (by assumption) | exact bk_m (by assumption) (by first | assumption | omega) | exact bk_p (by assumption) (by first | assumption | omega) | exact bk_o (by assumption) (by first | assumption | omega) | exact bk_s (by assumption) (by first | assumption | omega) | exact bk_1 (by assumption) | exact bk_2 (by assumption) | exact bk_3 (by assumption) | exact bk_4 (by assumption) | exact bk_5 (by assumption) | exact bk_6 (by assumption) | exact bk_7 (by assumption) | exact bk_8 (by assumption) | exact sh_ring _ (by first | assumption | omega) | exact sh_imgs _ (by first | assumption | omega)) ?_
  rw [hT.2.2.1]
  refine v_if_eq (tgt := 16) dX7_readEnd_7 (by decide) (fun hc7 => ?_) (fun hc7 => ?_)
  · rw [show (0 : Int32) = nI 0 from rfl, nI_eq (by omega) (by decide), srt_0] at hc7
    refine v_aload_0 dX7_readEnd_16 ?_
    refine u_getR dX7_readEnd_17 gf_X7_73 (by first | assumption | rfl | exact led_1 (by assumption) | exact led_2 (by assumption) | exact bk_m (by assumption) (by first | assumption | omega) | exact bk_p (by assumption) (by first | assumption | omega) | exact bk_o (by assumption) (by first | assumption | omega) | exact bk_s (by assumption) (by first | assumption | omega) | exact bk_1 (by assumption) | exact bk_2 (by assumption) | exact bk_3 (by assumption) | exact bk_4 (by assumption) | exact bk_5 (by assumption) | exact bk_6 (by assumption) | exact bk_7 (by assumption) | exact bk_8 (by assumption) | exact sh_ring _ (by first | assumption | omega) | exact sh_imgs _ (by first | assumption | omega)) (by assumption) ?_
    refine u_getI dX7_readEnd_20 gf_X7_106 (by first | assumption | rfl | exact led_1 (by assumption) | exact led_2 (by assumption) | exact bk_m (by assumption) (by first | assumption | omega) | exact bk_p (by assumption) (by first | assumption | omega) | exact bk_o (by assumption) (by first | assumption | omega) | exact bk_s (by assumption) (by first | assumption | omega) | exact bk_1 (by assumption) | exact bk_2 (by assumption) | exact bk_3 (by assumption) | exact bk_4 (by assumption) | exact bk_5 (by assumption) | exact bk_6 (by assumption) | exact bk_7 (by assumption) | exact bk_8 (by assumption) | exact sh_ring _ (by first | assumption | omega) | exact sh_imgs _ (by first | assumption | omega)) ?_
    (try rw [bx0 hF])
    refine v_if_eq (tgt := 46) dX7_readEnd_23 (by decide) (fun hc23 => ?_) (fun hc23 => ?_)
    · (first | rw [bI_0, Bool.not_eq_false] at hc23 | rw [bI_0] at hc23 | rw [show (0 : Int32) = nI 0 from rfl, nI_eq (by omega) (by omega)] at hc23 | skip)
      refine v_aload_0 dX7_readEnd_46 ?_
      refine v_bipush (v := nI 6) dX7_readEnd_47 (by decide) ?_
      refine u_callV_1 dX7_readEnd_49 ml_X7_102 mv_X7_failHere (by first | assumption | rfl | exact led_1 (by assumption) | exact led_2 (by assumption) | exact bk_m (by assumption) (by first | assumption | omega) | exact bk_p (by assumption) (by first | assumption | omega) | exact bk_o (by assumption) (by first | assumption | omega) | exact bk_s (by assumption) (by first | assumption | omega) | exact bk_1 (by assumption) | exact bk_2 (by assumption) | exact bk_3 (by assumption) | exact bk_4 (by assumption) | exact bk_5 (by assumption) | exact bk_6 (by assumption) | exact bk_7 (by assumption) | exact bk_8 (by assumption) | exact sh_ring _ (by first | assumption | omega) | exact sh_imgs _ (by first | assumption | omega)) (by decide) rfl (by decide) (Nat.le_of_ble_eq_true rfl) (c_X7_failHere hR hT (fun J p1 p2 p3 p4 => ?_))
      refine v_zret dX7_readEnd_52 (by first | rfl | exact bI_n _) rfl rfl rfl rfl ?_
      exact hQ.1 6 _ (by unfold finP; rw [if_pos hc7, if_pos (by first | exact Or.inl hc23 | exact Or.inr (Or.inl hc33) | exact Or.inr (Or.inr hc43))]) _ _ p1 p2 (hfr.fr9 p3)
    · (first | rw [bI_0, Bool.not_eq_false] at hc23 | rw [bI_0] at hc23 | rw [show (0 : Int32) = nI 0 from rfl, nI_eq (by omega) (by omega)] at hc23 | skip)
      refine v_aload_0 dX7_readEnd_26 ?_
      refine u_getR dX7_readEnd_27 gf_X7_73 (by first | assumption | rfl | exact led_1 (by assumption) | exact led_2 (by assumption) | exact bk_m (by assumption) (by first | assumption | omega) | exact bk_p (by assumption) (by first | assumption | omega) | exact bk_o (by assumption) (by first | assumption | omega) | exact bk_s (by assumption) (by first | assumption | omega) | exact bk_1 (by assumption) | exact bk_2 (by assumption) | exact bk_3 (by assumption) | exact bk_4 (by assumption) | exact bk_5 (by assumption) | exact bk_6 (by assumption) | exact bk_7 (by assumption) | exact bk_8 (by assumption) | exact sh_ring _ (by first | assumption | omega) | exact sh_imgs _ (by first | assumption | omega)) (by assumption) ?_
      refine u_getI dX7_readEnd_30 gf_X7_109 (by first | assumption | rfl | exact led_1 (by assumption) | exact led_2 (by assumption) | exact bk_m (by assumption) (by first | assumption | omega) | exact bk_p (by assumption) (by first | assumption | omega) | exact bk_o (by assumption) (by first | assumption | omega) | exact bk_s (by assumption) (by first | assumption | omega) | exact bk_1 (by assumption) | exact bk_2 (by assumption) | exact bk_3 (by assumption) | exact bk_4 (by assumption) | exact bk_5 (by assumption) | exact bk_6 (by assumption) | exact bk_7 (by assumption) | exact bk_8 (by assumption) | exact sh_ring _ (by first | assumption | omega) | exact sh_imgs _ (by first | assumption | omega)) ?_
      (try rw [bx2 hF])
      refine v_if_eq (tgt := 46) dX7_readEnd_33 (by decide) (fun hc33 => ?_) (fun hc33 => ?_)
      · (first | rw [bI_0, Bool.not_eq_false] at hc33 | rw [bI_0] at hc33 | rw [show (0 : Int32) = nI 0 from rfl, nI_eq (by omega) (by omega)] at hc33 | skip)
        refine v_aload_0 dX7_readEnd_46 ?_
        refine v_bipush (v := nI 6) dX7_readEnd_47 (by decide) ?_
        refine u_callV_1 dX7_readEnd_49 ml_X7_102 mv_X7_failHere (by first | assumption | rfl | exact led_1 (by assumption) | exact led_2 (by assumption) | exact bk_m (by assumption) (by first | assumption | omega) | exact bk_p (by assumption) (by first | assumption | omega) | exact bk_o (by assumption) (by first | assumption | omega) | exact bk_s (by assumption) (by first | assumption | omega) | exact bk_1 (by assumption) | exact bk_2 (by assumption) | exact bk_3 (by assumption) | exact bk_4 (by assumption) | exact bk_5 (by assumption) | exact bk_6 (by assumption) | exact bk_7 (by assumption) | exact bk_8 (by assumption) | exact sh_ring _ (by first | assumption | omega) | exact sh_imgs _ (by first | assumption | omega)) (by decide) rfl (by decide) (Nat.le_of_ble_eq_true rfl) (c_X7_failHere hR hT (fun J p1 p2 p3 p4 => ?_))
        refine v_zret dX7_readEnd_52 (by first | rfl | exact bI_n _) rfl rfl rfl rfl ?_
        exact hQ.1 6 _ (by unfold finP; rw [if_pos hc7, if_pos (by first | exact Or.inl hc23 | exact Or.inr (Or.inl hc33) | exact Or.inr (Or.inr hc43))]) _ _ p1 p2 (hfr.fr9 p3)
      · (first | rw [bI_0, Bool.not_eq_false] at hc33 | rw [bI_0] at hc33 | rw [show (0 : Int32) = nI 0 from rfl, nI_eq (by omega) (by omega)] at hc33 | skip)
        refine v_aload_0 dX7_readEnd_36 ?_
        refine u_getR dX7_readEnd_37 gf_X7_73 (by first | assumption | rfl | exact led_1 (by assumption) | exact led_2 (by assumption) | exact bk_m (by assumption) (by first | assumption | omega) | exact bk_p (by assumption) (by first | assumption | omega) | exact bk_o (by assumption) (by first | assumption | omega) | exact bk_s (by assumption) (by first | assumption | omega) | exact bk_1 (by assumption) | exact bk_2 (by assumption) | exact bk_3 (by assumption) | exact bk_4 (by assumption) | exact bk_5 (by assumption) | exact bk_6 (by assumption) | exact bk_7 (by assumption) | exact bk_8 (by assumption) | exact sh_ring _ (by first | assumption | omega) | exact sh_imgs _ (by first | assumption | omega)) (by assumption) ?_
        refine u_getI dX7_readEnd_40 gf_X7_112 (by first | assumption | rfl | exact led_1 (by assumption) | exact led_2 (by assumption) | exact bk_m (by assumption) (by first | assumption | omega) | exact bk_p (by assumption) (by first | assumption | omega) | exact bk_o (by assumption) (by first | assumption | omega) | exact bk_s (by assumption) (by first | assumption | omega) | exact bk_1 (by assumption) | exact bk_2 (by assumption) | exact bk_3 (by assumption) | exact bk_4 (by assumption) | exact bk_5 (by assumption) | exact bk_6 (by assumption) | exact bk_7 (by assumption) | exact bk_8 (by assumption) | exact sh_ring _ (by first | assumption | omega) | exact sh_imgs _ (by first | assumption | omega)) ?_
        (try rw [bx3 hF])
        refine v_if_ne (tgt := 53) dX7_readEnd_43 (by decide) (fun hc43 => ?_) (fun hc43 => ?_)
        · (first | rw [bI_0, Bool.not_eq_false] at hc43 | rw [bI_0] at hc43 | rw [show (0 : Int32) = nI 0 from rfl, nI_eq (by omega) (by omega)] at hc43 | skip)
          refine v_iconst (v := nI 1) dX7_readEnd_53 (by decide) ?_
          refine v_zret dX7_readEnd_54 (by first | rfl | exact bI_n _) rfl rfl rfl rfl ?_
          exact hQ.2 s (by unfold finP; rw [if_pos hc7, if_neg (by omega)]) _ _ _ hRd hfr
        · (first | rw [bI_0, Bool.not_eq_false] at hc43 | rw [bI_0] at hc43 | rw [show (0 : Int32) = nI 0 from rfl, nI_eq (by omega) (by omega)] at hc43 | skip)
          refine v_aload_0 dX7_readEnd_46 ?_
          refine v_bipush (v := nI 6) dX7_readEnd_47 (by decide) ?_
          refine u_callV_1 dX7_readEnd_49 ml_X7_102 mv_X7_failHere (by first | assumption | rfl | exact led_1 (by assumption) | exact led_2 (by assumption) | exact bk_m (by assumption) (by first | assumption | omega) | exact bk_p (by assumption) (by first | assumption | omega) | exact bk_o (by assumption) (by first | assumption | omega) | exact bk_s (by assumption) (by first | assumption | omega) | exact bk_1 (by assumption) | exact bk_2 (by assumption) | exact bk_3 (by assumption) | exact bk_4 (by assumption) | exact bk_5 (by assumption) | exact bk_6 (by assumption) | exact bk_7 (by assumption) | exact bk_8 (by assumption) | exact sh_ring _ (by first | assumption | omega) | exact sh_imgs _ (by first | assumption | omega)) (by decide) rfl (by decide) (Nat.le_of_ble_eq_true rfl) (c_X7_failHere hR hT (fun J p1 p2 p3 p4 => ?_))
          refine v_zret dX7_readEnd_52 (by first | rfl | exact bI_n _) rfl rfl rfl rfl ?_
          exact hQ.1 6 _ (by unfold finP; rw [if_pos hc7, if_pos (by first | exact Or.inl hc23 | exact Or.inr (Or.inl hc33) | exact Or.inr (Or.inr hc43))]) _ _ p1 p2 (hfr.fr9 p3)
  · rw [show (0 : Int32) = nI 0 from rfl, nI_eq (by omega) (by decide), srt_0] at hc7
    refine v_aload_0 dX7_readEnd_10 ?_
    refine v_iconst (v := nI 1) dX7_readEnd_11 (by decide) ?_
    refine u_callV_1 dX7_readEnd_12 ml_X7_102 mv_X7_failHere (by first | assumption | rfl | exact led_1 (by assumption) | exact led_2 (by assumption) | exact bk_m (by assumption) (by first | assumption | omega) | exact bk_p (by assumption) (by first | assumption | omega) | exact bk_o (by assumption) (by first | assumption | omega) | exact bk_s (by assumption) (by first | assumption | omega) | exact bk_1 (by assumption) | exact bk_2 (by assumption) | exact bk_3 (by assumption) | exact bk_4 (by assumption) | exact bk_5 (by assumption) | exact bk_6 (by assumption) | exact bk_7 (by assumption) | exact bk_8 (by assumption) | exact sh_ring _ (by first | assumption | omega) | exact sh_imgs _ (by first | assumption | omega)) (by decide) rfl (by decide) (Nat.le_of_ble_eq_true rfl) (c_X7_failHere hR hT (fun J p1 p2 p3 p4 => ?_))
    refine v_zret dX7_readEnd_15 (by first | rfl | exact bI_n _) rfl rfl rfl rfl ?_
    exact hQ.1 1 _ (by unfold finP; rw [if_neg hc7]) _ _ p1 p2 (hfr.fr9 p3)
theorem c_X0_clear (hR : RO R) (hB : SH B = .inl 0) (hQ : ∀ J : HI, (∀ j, j < 7 → J B j = nI 0) → LDI J (B + 8) 0 (fun _ => (0, 0, 0, 0)) (fun _ => 0) → (∀ x, x ≠ B → x ≠ B + 8 → x ≠ B + 10 → J x = I x) → Q none SH J L R) : KK 2 mX0_clear b ad [.ref (b + B)] I L R Q := by
  refine K.of (M := mX0_clear) (lv := [some (.ref (b + B))]) (by decide) (Nat.le_of_ble_eq_true rfl) rfl ?_
  refine v_aload_0 dX0_clear_0 ?_
  refine v_iconst (v := nI 0) dX0_clear_1 (by decide) ?_
  refine u_putI dX0_clear_2 gf_X0_56 (by first | assumption | rfl | exact led_1 (by assumption) | exact led_2 (by assumption) | exact bk_m (by assumption) (by first | assumption | omega) | exact bk_p (by assumption) (by first | assumption | omega) | exact bk_o (by assumption) (by first | assumption | omega) | exact bk_s (by assumption) (by first | assumption | omega) | exact bk_1 (by assumption) | exact bk_2 (by assumption) | exact bk_3 (by assumption) | exact bk_4 (by assumption) | exact bk_5 (by assumption) | exact bk_6 (by assumption) | exact bk_7 (by assumption) | exact bk_8 (by assumption) | exact sh_ring _ (by first | assumption | omega) | exact sh_imgs _ (by first | assumption | omega)) rfl rfl rfl ?_
  refine v_aload_0 dX0_clear_5 ?_
  refine v_iconst (v := nI 0) dX0_clear_6 (by decide) ?_
  refine u_putI dX0_clear_7 gf_X0_60 (by first | assumption | rfl | exact led_1 (by assumption) | exact led_2 (by assumption) | exact bk_m (by assumption) (by first | assumption | omega) | exact bk_p (by assumption) (by first | assumption | omega) | exact bk_o (by assumption) (by first | assumption | omega) | exact bk_s (by assumption) (by first | assumption | omega) | exact bk_1 (by assumption) | exact bk_2 (by assumption) | exact bk_3 (by assumption) | exact bk_4 (by assumption) | exact bk_5 (by assumption) | exact bk_6 (by assumption) | exact bk_7 (by assumption) | exact bk_8 (by assumption) | exact sh_ring _ (by first | assumption | omega) | exact sh_imgs _ (by first | assumption | omega)) rfl rfl rfl ?_
  refine v_aload_0 dX0_clear_10 ?_
  refine v_iconst (v := nI 0) dX0_clear_11 (by decide) ?_
  refine u_putI dX0_clear_12 gf_X0_63 (by first | assumption | rfl | exact led_1 (by assumption) | exact led_2 (by assumption) | exact bk_m (by assumption) (by first | assumption | omega) | exact bk_p (by assumption) (by first | assumption | omega) | exact bk_o (by assumption) (by first | assumption | omega) | exact bk_s (by assumption) (by first | assumption | omega) | exact bk_1 (by assumption) | exact bk_2 (by assumption) | exact bk_3 (by assumption) | exact bk_4 (by assumption) | exact bk_5 (by assumption) | exact bk_6 (by assumption) | exact bk_7 (by assumption) | exact bk_8 (by assumption) | exact sh_ring _ (by first | assumption | omega) | exact sh_imgs _ (by first | assumption | omega)) rfl rfl rfl ?_
  refine v_aload_0 dX0_clear_15 ?_
  refine v_iconst (v := nI 0) dX0_clear_16 (by decide) ?_
  refine u_putI dX0_clear_17 gf_X0_66 (by first | assumption | rfl | exact led_1 (by assumption) | exact led_2 (by assumption) | exact bk_m (by assumption) (by first | assumption | omega) | exact bk_p (by assumption) (by first | assumption | omega) | exact bk_o (by assumption) (by first | assumption | omega) | exact bk_s (by assumption) (by first | assumption | omega) | exact bk_1 (by assumption) | exact bk_2 (by assumption) | exact bk_3 (by assumption) | exact bk_4 (by assumption) | exact bk_5 (by assumption) | exact bk_6 (by assumption) | exact bk_7 (by assumption) | exact bk_8 (by assumption) | exact sh_ring _ (by first | assumption | omega) | exact sh_imgs _ (by first | assumption | omega)) rfl rfl rfl ?_
  refine v_aload_0 dX0_clear_20 ?_
  refine v_iconst (v := nI 0) dX0_clear_21 (by decide) ?_
  refine u_putI dX0_clear_22 gf_X0_69 (by first | assumption | rfl | exact led_1 (by assumption) | exact led_2 (by assumption) | exact bk_m (by assumption) (by first | assumption | omega) | exact bk_p (by assumption) (by first | assumption | omega) | exact bk_o (by assumption) (by first | assumption | omega) | exact bk_s (by assumption) (by first | assumption | omega) | exact bk_1 (by assumption) | exact bk_2 (by assumption) | exact bk_3 (by assumption) | exact bk_4 (by assumption) | exact bk_5 (by assumption) | exact bk_6 (by assumption) | exact bk_7 (by assumption) | exact bk_8 (by assumption) | exact sh_ring _ (by first | assumption | omega) | exact sh_imgs _ (by first | assumption | omega)) rfl rfl rfl ?_
  refine v_aload_0 dX0_clear_25 ?_
  refine v_iconst (v := nI 0) dX0_clear_26 (by decide) ?_
  refine u_putI dX0_clear_27 gf_X0_72 (by first | assumption | rfl | exact led_1 (by assumption) | exact led_2 (by assumption) | exact bk_m (by assumption) (by first | assumption | omega) | exact bk_p (by assumption) (by first | assumption | omega) | exact bk_o (by assumption) (by first | assumption | omega) | exact bk_s (by assumption) (by first | assumption | omega) | exact bk_1 (by assumption) | exact bk_2 (by assumption) | exact bk_3 (by assumption) | exact bk_4 (by assumption) | exact bk_5 (by assumption) | exact bk_6 (by assumption) | exact bk_7 (by assumption) | exact bk_8 (by assumption) | exact sh_ring _ (by first | assumption | omega) | exact sh_imgs _ (by first | assumption | omega)) rfl rfl rfl ?_
  refine v_aload_0 dX0_clear_30 ?_
  refine v_iconst (v := nI 0) dX0_clear_31 (by decide) ?_
  refine u_putI dX0_clear_32 gf_X0_75 (by first | assumption | rfl | exact led_1 (by assumption) | exact led_2 (by assumption) | exact bk_m (by assumption) (by first | assumption | omega) | exact bk_p (by assumption) (by first | assumption | omega) | exact bk_o (by assumption) (by first | assumption | omega) | exact bk_s (by assumption) (by first | assumption | omega) | exact bk_1 (by assumption) | exact bk_2 (by assumption) | exact bk_3 (by assumption) | exact bk_4 (by assumption) | exact bk_5 (by assumption) | exact bk_6 (by assumption) | exact bk_7 (by assumption) | exact bk_8 (by assumption) | exact sh_ring _ (by first | assumption | omega) | exact sh_imgs _ (by first | assumption | omega)) rfl rfl rfl ?_
  refine v_aload_0 dX0_clear_35 ?_
  refine u_getR dX0_clear_36 gf_X0_48 (by first | assumption | rfl | exact led_1 (by assumption) | exact led_2 (by assumption) | exact bk_m (by assumption) (by first | assumption | omega) | exact bk_p (by assumption) (by first | assumption | omega) | exact bk_o (by assumption) (by first | assumption | omega) | exact bk_s (by assumption) (by first | assumption | omega) | exact bk_1 (by assumption) | exact bk_2 (by assumption) | exact bk_3 (by assumption) | exact bk_4 (by assumption) | exact bk_5 (by assumption) | exact bk_6 (by assumption) | exact bk_7 (by assumption) | exact bk_8 (by assumption) | exact sh_ring _ (by first | assumption | omega) | exact sh_imgs _ (by first | assumption | omega)) (ro_X0_14 (by assumption) (by assumption)) ?_
  refine u_callV_0 dX0_clear_39 ml_X0_78 mv_X2_clear (by first | assumption | rfl | exact led_1 (by assumption) | exact led_2 (by assumption) | exact bk_m (by assumption) (by first | assumption | omega) | exact bk_p (by assumption) (by first | assumption | omega) | exact bk_o (by assumption) (by first | assumption | omega) | exact bk_s (by assumption) (by first | assumption | omega) | exact bk_1 (by assumption) | exact bk_2 (by assumption) | exact bk_3 (by assumption) | exact bk_4 (by assumption) | exact bk_5 (by assumption) | exact bk_6 (by assumption) | exact bk_7 (by assumption) | exact bk_8 (by assumption) | exact sh_ring _ (by first | assumption | omega) | exact sh_imgs _ (by first | assumption | omega)) (by decide) rfl (by decide) (Nat.le_of_ble_eq_true rfl) (c_X2_clear (g := fun _ => (0, 0, 0, 0)) hR (bk_8 hB) (fun J2 q1 q2 => ?_))
  refine v_vret dX0_clear_42 rfl rfl rfl rfl ?_
  refine hQ J2 (fun j hj => ?_) q1 (fun x a c d => by rw [q2 x c d, ui_ne a, ui_ne a, ui_ne a, ui_ne a, ui_ne a, ui_ne a, ui_ne a])
  rw [q2 B (by omega) (by omega)]
  match j, hj with
  | 0, _ => rw [ui_o (by decide), ui_o (by decide), ui_o (by decide), ui_o (by decide), ui_o (by decide), ui_o (by decide), ui_s]
  | 1, _ => rw [ui_o (by decide), ui_o (by decide), ui_o (by decide), ui_o (by decide), ui_o (by decide), ui_s]
  | 2, _ => rw [ui_o (by decide), ui_o (by decide), ui_o (by decide), ui_o (by decide), ui_s]
  | 3, _ => rw [ui_o (by decide), ui_o (by decide), ui_o (by decide), ui_s]
  | 4, _ => rw [ui_o (by decide), ui_o (by decide), ui_s]
  | 5, _ => rw [ui_o (by decide), ui_s]
  | 6, _ => rw [ui_s]
theorem c_X7_read (hR : RO R) (hB : SH B = .inl 0) (hsz : sz ≤ 900) (hby : ∀ i, i < sz → I 1 i = byt (tp i) ∧ tp i < 256) (hrs : ∀ i, i < 13 → L 91 i = rsv i ∧ I 92 i = nI 3) (hQ0 : ∀ f p, pars tp sz = .inl (f, p) → ∀ (J : HI) (M : HL), J 88 0 = nI f → J 88 1 = nI p → FrB B I J L M → Q (some (.int 0)) SH J M (ur (ur R 88 2 (some B)) 89 0 (some 1))) (hQ1 : ∀ u, pars tp sz = .inr u → ∀ (J : HI) (M : HL), J 88 0 = nI 0 → BkI J B u.2.1 → LDI J (B + 8) u.2.2.1 u.2.2.2.1 u.2.2.2.2 → FrB B I J L M → Q (some (.int 1)) SH J M (ur (ur R 88 2 (some B)) 89 0 (some 1))) : KK 9 mX7_read b ad [.ref (b + 88), .ref (b + 1), .int (nI sz), .ref (b + B)] I L R Q := by
  have hbb := shB hB
  have hRa : RO (ur R 88 2 (some B)) := hR.up (Or.inr (Or.inl ⟨rfl, rfl⟩))
  have hRb : RO (ur (ur R 88 2 (some B)) 89 0 (some 1)) := hRa.up (Or.inr (Or.inr (Or.inl ⟨rfl, rfl⟩)))
  have e88 : ur (ur R 88 2 (some B)) 89 0 (some 1) 88 2 = some B := by rw [ur_ne (by decide)]; exact ur_s
  have ea88 : ur R 88 2 (some B) 88 2 = some B := ur_s
  have e89 : ur (ur R 88 2 (some B)) 89 0 (some 1) 89 0 = some 1 := ur_s
  have hb2 : ∀ i, i < sz → tp i < 256 := fun i hi => (hby i hi).2
  have endd : ∀ (go i : Int32) (v : PS) (J : HI) (M : HL) (bf : Nat), RdC J M (ur (ur R 88 2 (some B)) 89 0 (some 1)) B tp sz v bf → FrB B I J L M → lns tp sz sz ps0 = .inr v → VV yX7_read cX7_read 6 (some .boolean) 9 Q b ad 99 [some (.ref (b + 88)), some (.ref (b + 1)), some (.int (nI sz)), some (.ref (b + B)), some (.int go), some (.int i)] [] J M (ur (ur R 88 2 (some B)) 89 0 (some 1)) := by
    intro go i v J M bf h hfr hl
    refine v_aload_0 dX7_read_99 ?_
    refine u_callV_0 dX7_read_100 ml_X7_99 mv_X7_readEnd (by first | assumption | rfl | exact led_1 (by assumption) | exact led_2 (by assumption) | exact bk_m (by assumption) (by first | assumption | omega) | exact bk_p (by assumption) (by first | assumption | omega) | exact bk_o (by assumption) (by first | assumption | omega) | exact bk_s (by assumption) (by first | assumption | omega) | exact bk_1 (by assumption) | exact bk_2 (by assumption) | exact bk_3 (by assumption) | exact bk_4 (by assumption) | exact bk_5 (by assumption) | exact bk_6 (by assumption) | exact bk_7 (by assumption) | exact bk_8 (by assumption) | exact sh_ring _ (by first | assumption | omega) | exact sh_imgs _ (by first | assumption | omega)) (by decide) rfl (by decide) (Nat.le_of_ble_eq_true rfl) (c_X7_readEnd h ⟨fun f p q J2 M2 a1 a2 a3 => ?_, fun u q J2 M2 bf2 a1 a2 => ?_⟩)
    · refine v_zret dX7_read_103 (by first | rfl | exact bI_n _) rfl rfl rfl rfl ?_
      exact hQ0 f p (by unfold pars; rw [bnd_r hl]; exact q) _ _ a1 a2 (hfr.trans a3)
    · refine v_zret dX7_read_103 (by first | rfl | exact bI_n _) rfl rfl rfl rfl ?_
      exact hQ1 u (by unfold pars; rw [bnd_r hl]; exact q) _ _ a1.1.2.2.2.2.2.2.2 a1.1.2.2.2.2.1 a1.1.2.2.2.2.2.1 (hfr.trans a2)
  have loop : ∀ (n i : Nat) (t : PS) (J : HI) (M : HL) (s0 : Nat), n + i = sz → TkP J (ur (ur R 88 2 (some B)) 89 0 (some 1)) tp sz t.1 → J 89 4 = nI s0 → PInv sz t → (∃ (cnt : Nat) (sl : Nat → Nat), NmT J M t.2.1 cnt sl ∧ TnC t.2.1 cnt sl) → BkI J B t.2.1 → LDI J (B + 8) t.2.2.1 t.2.2.2.1 t.2.2.2.2 → J 88 8 = nI (t.2.1 7) → J 88 0 = nI 0 → FrB B I J L M → lns tp sz n t = lns tp sz sz ps0 → VV yX7_read cX7_read 6 (some .boolean) 9 Q b ad 59 [some (.ref (b + 88)), some (.ref (b + 1)), some (.int (nI sz)), some (.ref (b + B)), some (.int (nI 1)), some (.int (nI i))] [] J M (ur (ur R 88 2 (some B)) 89 0 (some 1)) := by
    intro n
    induction n with
    | zero =>
      intro i t J M s0 hni hP hs hPI hNm hF hL h8 h0 hfr hl
      refine v_aload_0 dX7_read_59 ?_
      refine u_getR dX7_read_60 gf_X7_14 (by first | assumption | rfl | exact led_1 (by assumption) | exact led_2 (by assumption) | exact bk_m (by assumption) (by first | assumption | omega) | exact bk_p (by assumption) (by first | assumption | omega) | exact bk_o (by assumption) (by first | assumption | omega) | exact bk_s (by assumption) (by first | assumption | omega) | exact bk_1 (by assumption) | exact bk_2 (by assumption) | exact bk_3 (by assumption) | exact bk_4 (by assumption) | exact bk_5 (by assumption) | exact bk_6 (by assumption) | exact bk_7 (by assumption) | exact bk_8 (by assumption) | exact sh_ring _ (by first | assumption | omega) | exact sh_imgs _ (by first | assumption | omega)) (ro_X7_3 (by assumption)) ?_
      refine u_callV_0 dX7_read_63 ml_X7_89 mv_X9_advance (by first | assumption | rfl | exact led_1 (by assumption) | exact led_2 (by assumption) | exact bk_m (by assumption) (by first | assumption | omega) | exact bk_p (by assumption) (by first | assumption | omega) | exact bk_o (by assumption) (by first | assumption | omega) | exact bk_s (by assumption) (by first | assumption | omega) | exact bk_1 (by assumption) | exact bk_2 (by assumption) | exact bk_3 (by assumption) | exact bk_4 (by assumption) | exact bk_5 (by assumption) | exact bk_6 (by assumption) | exact bk_7 (by assumption) | exact bk_8 (by assumption) | exact sh_ring _ (by first | assumption | omega) | exact sh_imgs _ (by first | assumption | omega)) (by decide) rfl (by decide) (Nat.le_of_ble_eq_true rfl) (c_X9_advance hRb hP hs (fun K N p1 p2 p3 => ?_))
      obtain ⟨cnt, sl, hN, hC⟩ := hNm
      have hx : ∀ x, B ≤ x → x ≤ B + 42 → K x = J x := fun x a c => p2 x (by omega)
      have hRd : RdC K N (ur (ur R 88 2 (some B)) 89 0 (some 1)) B tp sz t s0 := ⟨⟨hRb, e88, hB, p1, hF.all hPI.2.1 hx, hL.same (hx _ (by omega) (by omega)) (hx _ (by omega) (by omega)) (hx _ (by omega) (by omega)), by rw [p2 88 (by decide)]; exact h8, by rw [p2 88 (by decide)]; exact h0⟩, hPI, cnt, sl, hN.fr9 (Fr9.tk p2 p3), hC⟩
      have hfr2 := hfr.fr9 (Fr9.tk p2 p3)
      refine v_aload_0 dX7_read_66 ?_
      refine u_callV_0 dX7_read_67 ml_X7_92 mv_X7_readLine (by first | assumption | rfl | exact led_1 (by assumption) | exact led_2 (by assumption) | exact bk_m (by assumption) (by first | assumption | omega) | exact bk_p (by assumption) (by first | assumption | omega) | exact bk_o (by assumption) (by first | assumption | omega) | exact bk_s (by assumption) (by first | assumption | omega) | exact bk_1 (by assumption) | exact bk_2 (by assumption) | exact bk_3 (by assumption) | exact bk_4 (by assumption) | exact bk_5 (by assumption) | exact bk_6 (by assumption) | exact bk_7 (by assumption) | exact bk_8 (by assumption) | exact sh_ring _ (by first | assumption | omega) | exact sh_imgs _ (by first | assumption | omega)) (by decide) rfl (by decide) (Nat.le_of_ble_eq_true rfl) (c_X7_readLine hRd ⟨fun f p q J2 M2 a1 a2 a3 => ?_, fun u q J2 M2 bf2 a1 a2 => ?_⟩)
      · refine v_if_ne (tgt := 75) dX7_read_70 (by decide) (fun h => absurd rfl h) (fun _ => ?_)
        refine v_iconst (v := nI 0) dX7_read_73 (by decide) ?_
        refine v_zret dX7_read_74 (by first | rfl | exact bI_n _) rfl rfl rfl rfl ?_
        exact hQ0 f p (by unfold pars; rw [← hl]; exact bnd_l (q)) _ _ a1 a2 (hfr2.trans a3)
      · refine v_if_ne (tgt := 75) dX7_read_70 (by decide) (fun _ => ?_) (fun h => absurd h (by decide))
        have hsb := srt_b (tK tp sz u.1)
        have hT := a1.1.2.2.2.1
        refine v_aload_0 dX7_read_75 ?_
        refine u_getR dX7_read_76 gf_X7_14 (by first | assumption | rfl | exact led_1 (by assumption) | exact led_2 (by assumption) | exact bk_m (by assumption) (by first | assumption | omega) | exact bk_p (by assumption) (by first | assumption | omega) | exact bk_o (by assumption) (by first | assumption | omega) | exact bk_s (by assumption) (by first | assumption | omega) | exact bk_1 (by assumption) | exact bk_2 (by assumption) | exact bk_3 (by assumption) | exact bk_4 (by assumption) | exact bk_5 (by assumption) | exact bk_6 (by assumption) | exact bk_7 (by assumption) | exact bk_8 (by assumption) | exact sh_ring _ (by first | assumption | omega) | exact sh_imgs _ (by first | assumption | omega)) (ro_X7_3 (by assumption)) ?_
        refine u_getI dX7_read_79 gf_X7_96 (by first | assumption | rfl | exact led_1 (by assumption) | exact led_2 (by assumption) | exact bk_m (by assumption) (by first | assumption | omega) | exact bk_p (by assumption) (by first | assumption | omega) | exact bk_o (by assumption) (by first | assumption | omega) | exact bk_s (by assumption) (by first | assumption | omega) | exact bk_1 (by assumption) | exact bk_2 (by assumption) | exact bk_3 (by assumption) | exact bk_4 (by assumption) | exact bk_5 (by assumption) | exact bk_6 (by assumption) | exact bk_7 (by assumption) | exact bk_8 (by assumption) | exact sh_ring _ (by first | assumption | omega) | exact sh_imgs _ (by first | assumption | omega)) ?_
        rw [hT.2.2.1]
        refine v_iconst (v := nI 3) dX7_read_82 (by decide) ?_
        refine v_icmp_ne (tgt := 90) dX7_read_83 (by decide) (fun hc83 => ?_) (fun hc83 => ?_)
        · rw [nI_eq (by omega) (by decide), srt_3] at hc83
          refine v_iconst (v := nI 0) dX7_read_90 (by decide) ?_
          refine v_istore_4 rfl dX7_read_91 ?_
          refine v_iinc_5 (v := 1) rfl dX7_read_93 (by decide) ?_
          rw [show nI i + 1 = nI (i + 1) from nI_1 i]
          refine v_goto (tgt := 48) dX7_read_96 (by decide) ?_
          refine v_iload_4 dX7_read_48 ?_
          refine v_if_eq (tgt := 99) dX7_read_50 (by decide) (fun hc50 => ?_) (fun hc50 => ?_)
          · (first | rw [bI_0, Bool.not_eq_false] at hc50 | rw [bI_0] at hc50 | rw [show (0 : Int32) = nI 0 from rfl, nI_eq (by omega) (by omega)] at hc50 | skip)
            exact endd _ _ u _ _ _ a1 (hfr2.trans a2) (by rw [← hl]; exact q)
          · exact absurd rfl hc50
        · rw [nI_eq (by omega) (by decide), srt_3] at hc83
          refine v_iconst (v := nI 1) dX7_read_86 (by decide) ?_
          refine v_goto (tgt := 91) dX7_read_87 (by decide) ?_
          refine v_istore_4 rfl dX7_read_91 ?_
          refine v_iinc_5 (v := 1) rfl dX7_read_93 (by decide) ?_
          rw [show nI i + 1 = nI (i + 1) from nI_1 i]
          refine v_goto (tgt := 48) dX7_read_96 (by decide) ?_
          refine v_iload_4 dX7_read_48 ?_
          refine v_if_eq (tgt := 99) dX7_read_50 (by decide) (fun hc50 => ?_) (fun hc50 => ?_)
          · exact absurd hc50 (by decide)
          · (first | rw [bI_0, Bool.not_eq_false] at hc50 | rw [bI_0] at hc50 | rw [show (0 : Int32) = nI 0 from rfl, nI_eq (by omega) (by omega)] at hc50 | skip)
            refine v_iload_5 dX7_read_53 ?_
            refine v_iload_2 dX7_read_55 ?_
            refine v_icmp_gt (tgt := 99) dX7_read_56 (by decide) (fun hc56 => ?_) (fun hc56 => ?_)
            · (try rw [nI_ltI (by omega) (by omega)] at hc56)
              exact endd _ _ u _ _ _ a1 (hfr2.trans a2) (by rw [← hl]; exact q)
            · exact absurd (nI_lt (by omega) (by omega)) hc56
    | succ n ih =>
      intro i t J M s0 hni hP hs hPI hNm hF hL h8 h0 hfr hl
      refine v_aload_0 dX7_read_59 ?_
      refine u_getR dX7_read_60 gf_X7_14 (by first | assumption | rfl | exact led_1 (by assumption) | exact led_2 (by assumption) | exact bk_m (by assumption) (by first | assumption | omega) | exact bk_p (by assumption) (by first | assumption | omega) | exact bk_o (by assumption) (by first | assumption | omega) | exact bk_s (by assumption) (by first | assumption | omega) | exact bk_1 (by assumption) | exact bk_2 (by assumption) | exact bk_3 (by assumption) | exact bk_4 (by assumption) | exact bk_5 (by assumption) | exact bk_6 (by assumption) | exact bk_7 (by assumption) | exact bk_8 (by assumption) | exact sh_ring _ (by first | assumption | omega) | exact sh_imgs _ (by first | assumption | omega)) (ro_X7_3 (by assumption)) ?_
      refine u_callV_0 dX7_read_63 ml_X7_89 mv_X9_advance (by first | assumption | rfl | exact led_1 (by assumption) | exact led_2 (by assumption) | exact bk_m (by assumption) (by first | assumption | omega) | exact bk_p (by assumption) (by first | assumption | omega) | exact bk_o (by assumption) (by first | assumption | omega) | exact bk_s (by assumption) (by first | assumption | omega) | exact bk_1 (by assumption) | exact bk_2 (by assumption) | exact bk_3 (by assumption) | exact bk_4 (by assumption) | exact bk_5 (by assumption) | exact bk_6 (by assumption) | exact bk_7 (by assumption) | exact bk_8 (by assumption) | exact sh_ring _ (by first | assumption | omega) | exact sh_imgs _ (by first | assumption | omega)) (by decide) rfl (by decide) (Nat.le_of_ble_eq_true rfl) (c_X9_advance hRb hP hs (fun K N p1 p2 p3 => ?_))
      obtain ⟨cnt, sl, hN, hC⟩ := hNm
      have hx : ∀ x, B ≤ x → x ≤ B + 42 → K x = J x := fun x a c => p2 x (by omega)
      have hRd : RdC K N (ur (ur R 88 2 (some B)) 89 0 (some 1)) B tp sz t s0 := ⟨⟨hRb, e88, hB, p1, hF.all hPI.2.1 hx, hL.same (hx _ (by omega) (by omega)) (hx _ (by omega) (by omega)) (hx _ (by omega) (by omega)), by rw [p2 88 (by decide)]; exact h8, by rw [p2 88 (by decide)]; exact h0⟩, hPI, cnt, sl, hN.fr9 (Fr9.tk p2 p3), hC⟩
      have hfr2 := hfr.fr9 (Fr9.tk p2 p3)
      refine v_aload_0 dX7_read_66 ?_
      refine u_callV_0 dX7_read_67 ml_X7_92 mv_X7_readLine (by first | assumption | rfl | exact led_1 (by assumption) | exact led_2 (by assumption) | exact bk_m (by assumption) (by first | assumption | omega) | exact bk_p (by assumption) (by first | assumption | omega) | exact bk_o (by assumption) (by first | assumption | omega) | exact bk_s (by assumption) (by first | assumption | omega) | exact bk_1 (by assumption) | exact bk_2 (by assumption) | exact bk_3 (by assumption) | exact bk_4 (by assumption) | exact bk_5 (by assumption) | exact bk_6 (by assumption) | exact bk_7 (by assumption) | exact bk_8 (by assumption) | exact sh_ring _ (by first | assumption | omega) | exact sh_imgs _ (by first | assumption | omega)) (by decide) rfl (by decide) (Nat.le_of_ble_eq_true rfl) (c_X7_readLine hRd ⟨fun f p q J2 M2 a1 a2 a3 => ?_, fun u q J2 M2 bf2 a1 a2 => ?_⟩)
      · refine v_if_ne (tgt := 75) dX7_read_70 (by decide) (fun h => absurd rfl h) (fun _ => ?_)
        refine v_iconst (v := nI 0) dX7_read_73 (by decide) ?_
        refine v_zret dX7_read_74 (by first | rfl | exact bI_n _) rfl rfl rfl rfl ?_
        exact hQ0 f p (by unfold pars; rw [← hl]; exact bnd_l (bnd_l q)) _ _ a1 a2 (hfr2.trans a3)
      · refine v_if_ne (tgt := 75) dX7_read_70 (by decide) (fun _ => ?_) (fun h => absurd h (by decide))
        have hsb := srt_b (tK tp sz u.1)
        have hT := a1.1.2.2.2.1
        refine v_aload_0 dX7_read_75 ?_
        refine u_getR dX7_read_76 gf_X7_14 (by first | assumption | rfl | exact led_1 (by assumption) | exact led_2 (by assumption) | exact bk_m (by assumption) (by first | assumption | omega) | exact bk_p (by assumption) (by first | assumption | omega) | exact bk_o (by assumption) (by first | assumption | omega) | exact bk_s (by assumption) (by first | assumption | omega) | exact bk_1 (by assumption) | exact bk_2 (by assumption) | exact bk_3 (by assumption) | exact bk_4 (by assumption) | exact bk_5 (by assumption) | exact bk_6 (by assumption) | exact bk_7 (by assumption) | exact bk_8 (by assumption) | exact sh_ring _ (by first | assumption | omega) | exact sh_imgs _ (by first | assumption | omega)) (ro_X7_3 (by assumption)) ?_
        refine u_getI dX7_read_79 gf_X7_96 (by first | assumption | rfl | exact led_1 (by assumption) | exact led_2 (by assumption) | exact bk_m (by assumption) (by first | assumption | omega) | exact bk_p (by assumption) (by first | assumption | omega) | exact bk_o (by assumption) (by first | assumption | omega) | exact bk_s (by assumption) (by first | assumption | omega) | exact bk_1 (by assumption) | exact bk_2 (by assumption) | exact bk_3 (by assumption) | exact bk_4 (by assumption) | exact bk_5 (by assumption) | exact bk_6 (by assumption) | exact bk_7 (by assumption) | exact bk_8 (by assumption) | exact sh_ring _ (by first | assumption | omega) | exact sh_imgs _ (by first | assumption | omega)) ?_
        rw [hT.2.2.1]
        refine v_iconst (v := nI 3) dX7_read_82 (by decide) ?_
        refine v_icmp_ne (tgt := 90) dX7_read_83 (by decide) (fun hc83 => ?_) (fun hc83 => ?_)
        · rw [nI_eq (by omega) (by decide), srt_3] at hc83
          refine v_iconst (v := nI 0) dX7_read_90 (by decide) ?_
          refine v_istore_4 rfl dX7_read_91 ?_
          refine v_iinc_5 (v := 1) rfl dX7_read_93 (by decide) ?_
          rw [show nI i + 1 = nI (i + 1) from nI_1 i]
          refine v_goto (tgt := 48) dX7_read_96 (by decide) ?_
          refine v_iload_4 dX7_read_48 ?_
          refine v_if_eq (tgt := 99) dX7_read_50 (by decide) (fun hc50 => ?_) (fun hc50 => ?_)
          · skip
            first | exact absurd hc56 (by omega) | exact endd _ _ u _ _ _ a1 (hfr2.trans a2) (by rw [← hl, lns, bnd_r q, if_neg hc83])
          · exact absurd rfl hc50
        · rw [nI_eq (by omega) (by decide), srt_3] at hc83
          refine v_iconst (v := nI 1) dX7_read_86 (by decide) ?_
          refine v_goto (tgt := 91) dX7_read_87 (by decide) ?_
          refine v_istore_4 rfl dX7_read_91 ?_
          refine v_iinc_5 (v := 1) rfl dX7_read_93 (by decide) ?_
          rw [show nI i + 1 = nI (i + 1) from nI_1 i]
          refine v_goto (tgt := 48) dX7_read_96 (by decide) ?_
          refine v_iload_4 dX7_read_48 ?_
          refine v_if_eq (tgt := 99) dX7_read_50 (by decide) (fun hc50 => ?_) (fun hc50 => ?_)
          · exact absurd hc50 (by decide)
          · skip
            refine v_iload_5 dX7_read_53 ?_
            refine v_iload_2 dX7_read_55 ?_
            refine v_icmp_gt (tgt := 99) dX7_read_56 (by decide) (fun hc56 => ?_) (fun hc56 => ?_)
            · (try rw [nI_ltI (by omega) (by omega)] at hc56)
              first | exact absurd hc56 (by omega) | exact endd _ _ u _ _ _ a1 (hfr2.trans a2) (by rw [← hl, lns, bnd_r q, if_neg hc83])
            · (try rw [nI_ltI (by omega) (by omega)] at hc56)
              obtain ⟨⟨m1, m2, m3, m4, m5, m6, m7⟩, mP, mN⟩ := a1
              refine ih (i + 1) (nx tp sz u) J2 M2 _ (by omega) m4.1 m4.2.2.2.1 (mP.ad (ad_nx hb2 mP.1)) mN m5 m6 m7.1 m7.2 (hfr2.trans a2) ?_
              rw [← hl, lns, bnd_r q, if_pos hc83]
  refine K.of (M := mX7_read) (lv := [some (.ref (b + 88)), some (.ref (b + 1)), some (.int (nI sz)), some (.ref (b + B)), none, none]) (by decide) (Nat.le_of_ble_eq_true rfl) rfl ?_
  refine v_aload_0 dX7_read_0 ?_
  refine v_iconst (v := nI 0) dX7_read_1 (by decide) ?_
  refine u_putI dX7_read_2 gf_X7_67 (by first | assumption | rfl | exact led_1 (by assumption) | exact led_2 (by assumption) | exact bk_m (by assumption) (by first | assumption | omega) | exact bk_p (by assumption) (by first | assumption | omega) | exact bk_o (by assumption) (by first | assumption | omega) | exact bk_s (by assumption) (by first | assumption | omega) | exact bk_1 (by assumption) | exact bk_2 (by assumption) | exact bk_3 (by assumption) | exact bk_4 (by assumption) | exact bk_5 (by assumption) | exact bk_6 (by assumption) | exact bk_7 (by assumption) | exact bk_8 (by assumption) | exact sh_ring _ (by first | assumption | omega) | exact sh_imgs _ (by first | assumption | omega)) rfl rfl rfl ?_
  refine v_aload_0 dX7_read_5 ?_
  refine v_iconst (v := -1) dX7_read_6 (by decide) ?_
  refine u_putI dX7_read_7 gf_X7_70 (by first | assumption | rfl | exact led_1 (by assumption) | exact led_2 (by assumption) | exact bk_m (by assumption) (by first | assumption | omega) | exact bk_p (by assumption) (by first | assumption | omega) | exact bk_o (by assumption) (by first | assumption | omega) | exact bk_s (by assumption) (by first | assumption | omega) | exact bk_1 (by assumption) | exact bk_2 (by assumption) | exact bk_3 (by assumption) | exact bk_4 (by assumption) | exact bk_5 (by assumption) | exact bk_6 (by assumption) | exact bk_7 (by assumption) | exact bk_8 (by assumption) | exact sh_ring _ (by first | assumption | omega) | exact sh_imgs _ (by first | assumption | omega)) rfl rfl rfl ?_
  refine v_aload_0 dX7_read_10 ?_
  refine v_aload_3 dX7_read_11 ?_
  refine u_putR dX7_read_12 gf_X7_73 (by first | assumption | rfl | exact led_1 (by assumption) | exact led_2 (by assumption) | exact bk_m (by assumption) (by first | assumption | omega) | exact bk_p (by assumption) (by first | assumption | omega) | exact bk_o (by assumption) (by first | assumption | omega) | exact bk_s (by assumption) (by first | assumption | omega) | exact bk_1 (by assumption) | exact bk_2 (by assumption) | exact bk_3 (by assumption) | exact bk_4 (by assumption) | exact bk_5 (by assumption) | exact bk_6 (by assumption) | exact bk_7 (by assumption) | exact bk_8 (by assumption) | exact sh_ring _ (by first | assumption | omega) | exact sh_imgs _ (by first | assumption | omega)) (fun _ => rfl) (fun _ => rfl) rfl ?_
  refine v_aload_0 dX7_read_15 ?_
  refine u_getR dX7_read_16 gf_X7_73 (by first | assumption | rfl | exact led_1 (by assumption) | exact led_2 (by assumption) | exact bk_m (by assumption) (by first | assumption | omega) | exact bk_p (by assumption) (by first | assumption | omega) | exact bk_o (by assumption) (by first | assumption | omega) | exact bk_s (by assumption) (by first | assumption | omega) | exact bk_1 (by assumption) | exact bk_2 (by assumption) | exact bk_3 (by assumption) | exact bk_4 (by assumption) | exact bk_5 (by assumption) | exact bk_6 (by assumption) | exact bk_7 (by assumption) | exact bk_8 (by assumption) | exact sh_ring _ (by first | assumption | omega) | exact sh_imgs _ (by first | assumption | omega)) (by assumption) ?_
  refine u_callV_0 dX7_read_19 ml_X7_77 mv_X0_clear (by first | assumption | rfl | exact led_1 (by assumption) | exact led_2 (by assumption) | exact bk_m (by assumption) (by first | assumption | omega) | exact bk_p (by assumption) (by first | assumption | omega) | exact bk_o (by assumption) (by first | assumption | omega) | exact bk_s (by assumption) (by first | assumption | omega) | exact bk_1 (by assumption) | exact bk_2 (by assumption) | exact bk_3 (by assumption) | exact bk_4 (by assumption) | exact bk_5 (by assumption) | exact bk_6 (by assumption) | exact bk_7 (by assumption) | exact bk_8 (by assumption) | exact sh_ring _ (by first | assumption | omega) | exact sh_imgs _ (by first | assumption | omega)) (by decide) rfl (by decide) (Nat.le_of_ble_eq_true rfl) (c_X0_clear hRa hB (fun J1 a1 a2 a3 => ?_))
  refine v_aload_0 dX7_read_22 ?_
  refine v_bipush (v := nI 13) dX7_read_23 (by decide) ?_
  refine u_putI dX7_read_25 gf_X7_59 (by first | assumption | rfl | exact led_1 (by assumption) | exact led_2 (by assumption) | exact bk_m (by assumption) (by first | assumption | omega) | exact bk_p (by assumption) (by first | assumption | omega) | exact bk_o (by assumption) (by first | assumption | omega) | exact bk_s (by assumption) (by first | assumption | omega) | exact bk_1 (by assumption) | exact bk_2 (by assumption) | exact bk_3 (by assumption) | exact bk_4 (by assumption) | exact bk_5 (by assumption) | exact bk_6 (by assumption) | exact bk_7 (by assumption) | exact bk_8 (by assumption) | exact sh_ring _ (by first | assumption | omega) | exact sh_imgs _ (by first | assumption | omega)) rfl rfl rfl ?_
  refine v_aload_0 dX7_read_28 ?_
  refine v_iconst (v := nI 0) dX7_read_29 (by decide) ?_
  refine u_putI dX7_read_30 gf_X7_82 (by first | assumption | rfl | exact led_1 (by assumption) | exact led_2 (by assumption) | exact bk_m (by assumption) (by first | assumption | omega) | exact bk_p (by assumption) (by first | assumption | omega) | exact bk_o (by assumption) (by first | assumption | omega) | exact bk_s (by assumption) (by first | assumption | omega) | exact bk_1 (by assumption) | exact bk_2 (by assumption) | exact bk_3 (by assumption) | exact bk_4 (by assumption) | exact bk_5 (by assumption) | exact bk_6 (by assumption) | exact bk_7 (by assumption) | exact bk_8 (by assumption) | exact sh_ring _ (by first | assumption | omega) | exact sh_imgs _ (by first | assumption | omega)) rfl rfl rfl ?_
  refine v_aload_0 dX7_read_33 ?_
  refine u_getR dX7_read_34 gf_X7_14 (by first | assumption | rfl | exact led_1 (by assumption) | exact led_2 (by assumption) | exact bk_m (by assumption) (by first | assumption | omega) | exact bk_p (by assumption) (by first | assumption | omega) | exact bk_o (by assumption) (by first | assumption | omega) | exact bk_s (by assumption) (by first | assumption | omega) | exact bk_1 (by assumption) | exact bk_2 (by assumption) | exact bk_3 (by assumption) | exact bk_4 (by assumption) | exact bk_5 (by assumption) | exact bk_6 (by assumption) | exact bk_7 (by assumption) | exact bk_8 (by assumption) | exact sh_ring _ (by first | assumption | omega) | exact sh_imgs _ (by first | assumption | omega)) (ro_X7_3 (by assumption)) ?_
  refine v_aload_1 dX7_read_37 ?_
  refine v_iload_2 dX7_read_38 ?_
  refine u_callV_2 dX7_read_39 ml_X7_85 mv_X9_open (by first | assumption | rfl | exact led_1 (by assumption) | exact led_2 (by assumption) | exact bk_m (by assumption) (by first | assumption | omega) | exact bk_p (by assumption) (by first | assumption | omega) | exact bk_o (by assumption) (by first | assumption | omega) | exact bk_s (by assumption) (by first | assumption | omega) | exact bk_1 (by assumption) | exact bk_2 (by assumption) | exact bk_3 (by assumption) | exact bk_4 (by assumption) | exact bk_5 (by assumption) | exact bk_6 (by assumption) | exact bk_7 (by assumption) | exact bk_8 (by assumption) | exact sh_ring _ (by first | assumption | omega) | exact sh_imgs _ (by first | assumption | omega)) (by decide) rfl (by decide) (Nat.le_of_ble_eq_true rfl) (c_X9_open hRa hsz (fun J2 b1 b2 b3 b4 => ?_))
  refine v_iconst (v := nI 1) dX7_read_42 (by decide) ?_
  refine v_istore_4 rfl dX7_read_43 ?_
  refine v_iconst (v := nI 0) dX7_read_45 (by decide) ?_
  refine v_istore_5 rfl dX7_read_46 ?_
  have c1 : ∀ j, J2 88 j = ui (ui J1 88 7 (nI 13)) 88 8 (nI 0) 88 j := fun j => by rw [b4 88 (by decide)]
  have cx : ∀ x, x ≠ 89 → x ≠ 88 → J2 x = J1 x := fun x a c => by rw [b4 x a, ui_ne c, ui_ne c]
  have hfr : FrB B I J2 L L := ⟨fun x q1 q2 q3 q4 q5 => by rw [cx x q2 q1, a3 x (by omega) (by omega) (by omega), ui_ne q1, ui_ne q1], fun _ _ _ => rfl, fun i _ => ⟨rfl, by rw [cx 92 (by decide) (by decide), a3 92 (by omega) (by omega) (by omega), ui_ne (by decide), ui_ne (by decide)]⟩⟩
  have hP : TkP J2 (ur (ur R 88 2 (some B)) 89 0 (some 1)) tp sz ps0.1 := ⟨e89, b1, hsz, fun i hi => by rw [cx 1 (by decide) (by decide), a3 1 (by omega) (by omega) (by omega), ui_ne (by decide), ui_ne (by decide)]; exact hby i hi, b2, Nat.zero_le _⟩
  refine v_iload_4 dX7_read_48 ?_
  refine v_if_eq (tgt := 99) dX7_read_50 (by decide) (fun h => absurd h (by decide)) (fun _ => ?_)
  refine v_iload_5 dX7_read_53 ?_
  refine v_iload_2 dX7_read_55 ?_
  refine v_icmp_gt (tgt := 99) dX7_read_56 (by decide) (fun h => absurd h (nI_nlt (Nat.zero_le _) (by omega))) (fun _ => ?_)
  refine loop sz 0 ps0 J2 L 0 (by omega) hP b3 inv_0 ⟨0, fun _ => 0, ⟨by rw [c1 7, ui_o (by decide), ui_s], by decide, fun i hi => ⟨(hrs i hi).1, by rw [cx 92 (by decide) (by decide), a3 92 (by omega) (by omega) (by omega), ui_ne (by decide), ui_ne (by decide)]; exact (hrs i hi).2⟩, fun i hi => absurd hi (Nat.not_lt_zero _)⟩, ⟨fun i hi => absurd hi (Nat.not_lt_zero _), fun n hn q => ?_, rfl⟩⟩ ?_ (a2.same (cx _ (by omega) (by omega)) (cx _ (by omega) (by omega)) (cx _ (by omega) (by omega))) (by rw [c1 8, ui_s]; rfl) ?_ hfr rfl
  · have q2 : n < 0 ∨ (5 ≤ n ∧ n < 5 + 0) ∨ (11 ≤ n ∧ n < 11 + 0) := q
    omega
  · refine ⟨fun j hj => by rw [cx B (by omega) (by omega)]; exact a1 j hj, fun m q => absurd q (Nat.not_lt_zero _), fun m q => absurd q (Nat.not_lt_zero _), fun m q => absurd q (Nat.not_lt_zero _), fun m q => absurd q (Nat.not_lt_zero _), fun m q => absurd q (Nat.not_lt_zero _)⟩
  · rw [c1 0, ui_o (by decide), ui_o (by decide), a3 88 (by omega) (by omega) (by omega), ui_o (by decide), ui_s]
end
