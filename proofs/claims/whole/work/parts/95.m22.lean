theorem dX12_areLovers_0 : decode cX12_areLovers 0 = .ok (.iconst 0, 1) := by decide +kernel
theorem dX12_areLovers_1 : decode cX12_areLovers 1 = .ok (.istore 5, 2) := by decide +kernel
theorem dX12_areLovers_3 : decode cX12_areLovers 3 = .ok (.iconst 0, 1) := by decide +kernel
theorem dX12_areLovers_4 : decode cX12_areLovers 4 = .ok (.istore 6, 2) := by decide +kernel
theorem dX12_areLovers_6 : decode cX12_areLovers 6 = .ok (.iload 6, 2) := by decide +kernel
theorem dX12_areLovers_8 : decode cX12_areLovers 8 = .ok (.aload_n 0, 1) := by decide +kernel
theorem dX12_areLovers_9 : decode cX12_areLovers 9 = .ok (.getfield 20, 3) := by decide +kernel
theorem dX12_areLovers_12 : decode cX12_areLovers 12 = .ok (.bipush 6, 2) := by decide +kernel
theorem dX12_areLovers_14 : decode cX12_areLovers 14 = .ok (.iaload, 1) := by decide +kernel
theorem dX12_areLovers_15 : decode cX12_areLovers 15 = .ok (.if_icmp .ge 148, 3) := by decide +kernel
theorem dX12_areLovers_18 : decode cX12_areLovers 18 = .ok (.aload_n 0, 1) := by decide +kernel
theorem dX12_areLovers_19 : decode cX12_areLovers 19 = .ok (.getfield 20, 3) := by decide +kernel
theorem dX12_areLovers_22 : decode cX12_areLovers 22 = .ok (.sipush 168, 3) := by decide +kernel
theorem dX12_areLovers_25 : decode cX12_areLovers 25 = .ok (.iconst 3, 1) := by decide +kernel
theorem dX12_areLovers_26 : decode cX12_areLovers 26 = .ok (.iload 6, 2) := by decide +kernel
theorem dX12_areLovers_28 : decode cX12_areLovers 28 = .ok (.imul, 1) := by decide +kernel
theorem dX12_areLovers_29 : decode cX12_areLovers 29 = .ok (.iadd, 1) := by decide +kernel
theorem dX12_areLovers_30 : decode cX12_areLovers 30 = .ok (.iaload, 1) := by decide +kernel
theorem dX12_areLovers_31 : decode cX12_areLovers 31 = .ok (.istore 7, 2) := by decide +kernel
theorem dX12_areLovers_33 : decode cX12_areLovers 33 = .ok (.aload_n 0, 1) := by decide +kernel
theorem dX12_areLovers_34 : decode cX12_areLovers 34 = .ok (.getfield 20, 3) := by decide +kernel
theorem dX12_areLovers_37 : decode cX12_areLovers 37 = .ok (.sipush 168, 3) := by decide +kernel
theorem dX12_areLovers_40 : decode cX12_areLovers 40 = .ok (.iconst 3, 1) := by decide +kernel
theorem dX12_areLovers_41 : decode cX12_areLovers 41 = .ok (.iload 6, 2) := by decide +kernel
theorem dX12_areLovers_43 : decode cX12_areLovers 43 = .ok (.imul, 1) := by decide +kernel
theorem dX12_areLovers_44 : decode cX12_areLovers 44 = .ok (.iadd, 1) := by decide +kernel
theorem dX12_areLovers_45 : decode cX12_areLovers 45 = .ok (.iconst 1, 1) := by decide +kernel
theorem dX12_areLovers_46 : decode cX12_areLovers 46 = .ok (.iadd, 1) := by decide +kernel
theorem dX12_areLovers_47 : decode cX12_areLovers 47 = .ok (.iaload, 1) := by decide +kernel
theorem dX12_areLovers_48 : decode cX12_areLovers 48 = .ok (.istore 8, 2) := by decide +kernel
theorem dX12_areLovers_50 : decode cX12_areLovers 50 = .ok (.iload 7, 2) := by decide +kernel
theorem dX12_areLovers_52 : decode cX12_areLovers 52 = .ok (.iload_n 1, 1) := by decide +kernel
theorem dX12_areLovers_53 : decode cX12_areLovers 53 = .ok (.if_icmp .ne 9, 3) := by decide +kernel
theorem dX12_areLovers_56 : decode cX12_areLovers 56 = .ok (.iload 8, 2) := by decide +kernel
theorem dX12_areLovers_58 : decode cX12_areLovers 58 = .ok (.iload_n 2, 1) := by decide +kernel
theorem dX12_areLovers_59 : decode cX12_areLovers 59 = .ok (.if_icmp .eq 18, 3) := by decide +kernel
theorem dX12_areLovers_62 : decode cX12_areLovers 62 = .ok (.iload 7, 2) := by decide +kernel
theorem dX12_areLovers_64 : decode cX12_areLovers 64 = .ok (.iload_n 2, 1) := by decide +kernel
theorem dX12_areLovers_65 : decode cX12_areLovers 65 = .ok (.if_icmp .ne 92, 3) := by decide +kernel
theorem dX12_areLovers_68 : decode cX12_areLovers 68 = .ok (.iload 8, 2) := by decide +kernel
theorem dX12_areLovers_70 : decode cX12_areLovers 70 = .ok (.iload_n 1, 1) := by decide +kernel
theorem dX12_areLovers_71 : decode cX12_areLovers 71 = .ok (.if_icmp .eq 6, 3) := by decide +kernel
theorem dX12_areLovers_74 : decode cX12_areLovers 74 = .ok (.goto 83, 3) := by decide +kernel
theorem dX12_areLovers_77 : decode cX12_areLovers 77 = .ok (.iconst 1, 1) := by decide +kernel
theorem dX12_areLovers_78 : decode cX12_areLovers 78 = .ok (.istore 5, 2) := by decide +kernel
theorem dX12_areLovers_80 : decode cX12_areLovers 80 = .ok (.aload_n 0, 1) := by decide +kernel
theorem dX12_areLovers_81 : decode cX12_areLovers 81 = .ok (.getfield 20, 3) := by decide +kernel
theorem dX12_areLovers_84 : decode cX12_areLovers 84 = .ok (.sipush 168, 3) := by decide +kernel
theorem dX12_areLovers_87 : decode cX12_areLovers 87 = .ok (.iconst 3, 1) := by decide +kernel
theorem dX12_areLovers_88 : decode cX12_areLovers 88 = .ok (.iload 6, 2) := by decide +kernel
theorem dX12_areLovers_90 : decode cX12_areLovers 90 = .ok (.imul, 1) := by decide +kernel
theorem dX12_areLovers_91 : decode cX12_areLovers 91 = .ok (.iadd, 1) := by decide +kernel
theorem dX12_areLovers_92 : decode cX12_areLovers 92 = .ok (.iconst 2, 1) := by decide +kernel
theorem dX12_areLovers_93 : decode cX12_areLovers 93 = .ok (.iadd, 1) := by decide +kernel
theorem dX12_areLovers_94 : decode cX12_areLovers 94 = .ok (.iaload, 1) := by decide +kernel
theorem dX12_areLovers_95 : decode cX12_areLovers 95 = .ok (.istore 9, 2) := by decide +kernel
theorem dX12_areLovers_97 : decode cX12_areLovers 97 = .ok (.aload_n 0, 1) := by decide +kernel
theorem dX12_areLovers_98 : decode cX12_areLovers 98 = .ok (.iload 9, 2) := by decide +kernel
theorem dX12_areLovers_100 : decode cX12_areLovers 100 = .ok (.invokevirtual 403, 3) := by decide +kernel
theorem dX12_areLovers_103 : decode cX12_areLovers 103 = .ok (.istore 10, 2) := by decide +kernel
theorem dX12_areLovers_105 : decode cX12_areLovers 105 = .ok (.aload_n 0, 1) := by decide +kernel
theorem dX12_areLovers_106 : decode cX12_areLovers 106 = .ok (.iload_n 1, 1) := by decide +kernel
theorem dX12_areLovers_107 : decode cX12_areLovers 107 = .ok (.putfield 365, 3) := by decide +kernel
theorem dX12_areLovers_110 : decode cX12_areLovers 110 = .ok (.aload_n 0, 1) := by decide +kernel
theorem dX12_areLovers_111 : decode cX12_areLovers 111 = .ok (.iload_n 3, 1) := by decide +kernel
theorem dX12_areLovers_112 : decode cX12_areLovers 112 = .ok (.putfield 368, 3) := by decide +kernel
theorem dX12_areLovers_115 : decode cX12_areLovers 115 = .ok (.aload_n 0, 1) := by decide +kernel
theorem dX12_areLovers_116 : decode cX12_areLovers 116 = .ok (.iload_n 2, 1) := by decide +kernel
theorem dX12_areLovers_117 : decode cX12_areLovers 117 = .ok (.putfield 371, 3) := by decide +kernel
theorem dX12_areLovers_120 : decode cX12_areLovers 120 = .ok (.aload_n 0, 1) := by decide +kernel
theorem dX12_areLovers_121 : decode cX12_areLovers 121 = .ok (.iload 4, 2) := by decide +kernel
theorem dX12_areLovers_123 : decode cX12_areLovers 123 = .ok (.putfield 374, 3) := by decide +kernel
theorem dX12_areLovers_126 : decode cX12_areLovers 126 = .ok (.aload_n 0, 1) := by decide +kernel
theorem dX12_areLovers_127 : decode cX12_areLovers 127 = .ok (.iload 9, 2) := by decide +kernel
theorem dX12_areLovers_129 : decode cX12_areLovers 129 = .ok (.iload 10, 2) := by decide +kernel
theorem dX12_areLovers_131 : decode cX12_areLovers 131 = .ok (.invokevirtual 396, 3) := by decide +kernel
theorem dX12_areLovers_134 : decode cX12_areLovers 134 = .ok (.lconst 0, 1) := by decide +kernel
theorem dX12_areLovers_135 : decode cX12_areLovers 135 = .ok (.lcmp, 1) := by decide +kernel
theorem dX12_areLovers_136 : decode cX12_areLovers 136 = .ok (.ifCond .le 7, 3) := by decide +kernel
theorem dX12_areLovers_139 : decode cX12_areLovers 139 = .ok (.iconst 1, 1) := by decide +kernel
theorem dX12_areLovers_140 : decode cX12_areLovers 140 = .ok (.goto 4, 3) := by decide +kernel
theorem dX12_areLovers_143 : decode cX12_areLovers 143 = .ok (.iconst 0, 1) := by decide +kernel
theorem dX12_areLovers_144 : decode cX12_areLovers 144 = .ok (.istore 11, 2) := by decide +kernel
theorem dX12_areLovers_146 : decode cX12_areLovers 146 = .ok (.aload_n 0, 1) := by decide +kernel
theorem dX12_areLovers_147 : decode cX12_areLovers 147 = .ok (.invokevirtual 384, 3) := by decide +kernel
theorem dX12_areLovers_150 : decode cX12_areLovers 150 = .ok (.iload 11, 2) := by decide +kernel
theorem dX12_areLovers_152 : decode cX12_areLovers 152 = .ok (.ifCond .ne 5, 3) := by decide +kernel
theorem dX12_areLovers_155 : decode cX12_areLovers 155 = .ok (.iconst 0, 1) := by decide +kernel
theorem dX12_areLovers_156 : decode cX12_areLovers 156 = .ok (.ireturn, 1) := by decide +kernel
theorem dX12_areLovers_157 : decode cX12_areLovers 157 = .ok (.iinc 6 1, 3) := by decide +kernel
theorem dX12_areLovers_160 : decode cX12_areLovers 160 = .ok (.goto (-154), 3) := by decide +kernel
theorem dX12_areLovers_163 : decode cX12_areLovers 163 = .ok (.iload 5, 2) := by decide +kernel
theorem dX12_areLovers_165 : decode cX12_areLovers 165 = .ok (.ireturn, 1) := by decide +kernel
theorem dX12_loversAt_0 : decode cX12_loversAt 0 = .ok (.iconst 0, 1) := by decide +kernel
theorem dX12_loversAt_1 : decode cX12_loversAt 1 = .ok (.istore 4, 2) := by decide +kernel
theorem dX12_loversAt_3 : decode cX12_loversAt 3 = .ok (.iconst 0, 1) := by decide +kernel
theorem dX12_loversAt_4 : decode cX12_loversAt 4 = .ok (.istore 5, 2) := by decide +kernel
theorem dX12_loversAt_6 : decode cX12_loversAt 6 = .ok (.iload 5, 2) := by decide +kernel
theorem dX12_loversAt_8 : decode cX12_loversAt 8 = .ok (.aload_n 0, 1) := by decide +kernel
theorem dX12_loversAt_9 : decode cX12_loversAt 9 = .ok (.getfield 20, 3) := by decide +kernel
theorem dX12_loversAt_12 : decode cX12_loversAt 12 = .ok (.iconst 3, 1) := by decide +kernel
theorem dX12_loversAt_13 : decode cX12_loversAt 13 = .ok (.iaload, 1) := by decide +kernel
theorem dX12_loversAt_14 : decode cX12_loversAt 14 = .ok (.if_icmp .ge 70, 3) := by decide +kernel
theorem dX12_loversAt_17 : decode cX12_loversAt 17 = .ok (.iconst 0, 1) := by decide +kernel
theorem dX12_loversAt_18 : decode cX12_loversAt 18 = .ok (.istore 6, 2) := by decide +kernel
theorem dX12_loversAt_20 : decode cX12_loversAt 20 = .ok (.iload 6, 2) := by decide +kernel
theorem dX12_loversAt_22 : decode cX12_loversAt 22 = .ok (.aload_n 0, 1) := by decide +kernel
theorem dX12_loversAt_23 : decode cX12_loversAt 23 = .ok (.getfield 20, 3) := by decide +kernel
theorem dX12_loversAt_26 : decode cX12_loversAt 26 = .ok (.iconst 3, 1) := by decide +kernel
theorem dX12_loversAt_27 : decode cX12_loversAt 27 = .ok (.iaload, 1) := by decide +kernel
theorem dX12_loversAt_28 : decode cX12_loversAt 28 = .ok (.if_icmp .ge 50, 3) := by decide +kernel
theorem dX12_loversAt_31 : decode cX12_loversAt 31 = .ok (.iload 5, 2) := by decide +kernel
theorem dX12_loversAt_33 : decode cX12_loversAt 33 = .ok (.iload 6, 2) := by decide +kernel
theorem dX12_loversAt_35 : decode cX12_loversAt 35 = .ok (.if_icmp .eq 37, 3) := by decide +kernel
theorem dX12_loversAt_38 : decode cX12_loversAt 38 = .ok (.aload_n 0, 1) := by decide +kernel
theorem dX12_loversAt_39 : decode cX12_loversAt 39 = .ok (.iload_n 1, 1) := by decide +kernel
theorem dX12_loversAt_40 : decode cX12_loversAt 40 = .ok (.iload_n 2, 1) := by decide +kernel
theorem dX12_loversAt_41 : decode cX12_loversAt 41 = .ok (.iload 5, 2) := by decide +kernel
theorem dX12_loversAt_43 : decode cX12_loversAt 43 = .ok (.iload 6, 2) := by decide +kernel
theorem dX12_loversAt_45 : decode cX12_loversAt 45 = .ok (.invokevirtual 410, 3) := by decide +kernel
theorem dX12_loversAt_48 : decode cX12_loversAt 48 = .ok (.ifCond .ne 6, 3) := by decide +kernel
theorem dX12_loversAt_51 : decode cX12_loversAt 51 = .ok (.goto 21, 3) := by decide +kernel
theorem dX12_loversAt_54 : decode cX12_loversAt 54 = .ok (.iload 4, 2) := by decide +kernel
theorem dX12_loversAt_56 : decode cX12_loversAt 56 = .ok (.iload_n 3, 1) := by decide +kernel
theorem dX12_loversAt_57 : decode cX12_loversAt 57 = .ok (.if_icmp .ne 12, 3) := by decide +kernel
theorem dX12_loversAt_60 : decode cX12_loversAt 60 = .ok (.bipush 6, 2) := by decide +kernel
theorem dX12_loversAt_62 : decode cX12_loversAt 62 = .ok (.iload 5, 2) := by decide +kernel
theorem dX12_loversAt_64 : decode cX12_loversAt 64 = .ok (.imul, 1) := by decide +kernel
theorem dX12_loversAt_65 : decode cX12_loversAt 65 = .ok (.iload 6, 2) := by decide +kernel
theorem dX12_loversAt_67 : decode cX12_loversAt 67 = .ok (.iadd, 1) := by decide +kernel
theorem dX12_loversAt_68 : decode cX12_loversAt 68 = .ok (.ireturn, 1) := by decide +kernel
theorem dX12_loversAt_69 : decode cX12_loversAt 69 = .ok (.iinc 4 1, 3) := by decide +kernel
theorem dX12_loversAt_72 : decode cX12_loversAt 72 = .ok (.iinc 6 1, 3) := by decide +kernel
theorem dX12_loversAt_75 : decode cX12_loversAt 75 = .ok (.goto (-55), 3) := by decide +kernel
theorem dX12_loversAt_78 : decode cX12_loversAt 78 = .ok (.iinc 5 1, 3) := by decide +kernel
theorem dX12_loversAt_81 : decode cX12_loversAt 81 = .ok (.goto (-75), 3) := by decide +kernel
theorem dX12_loversAt_84 : decode cX12_loversAt 84 = .ok (.iload 4, 2) := by decide +kernel
theorem dX12_loversAt_86 : decode cX12_loversAt 86 = .ok (.sipush 1000, 3) := by decide +kernel
theorem dX12_loversAt_89 : decode cX12_loversAt 89 = .ok (.isub, 1) := by decide +kernel
theorem dX12_loversAt_90 : decode cX12_loversAt 90 = .ok (.ireturn, 1) := by decide +kernel
theorem dX12_lovers_0 : decode cX12_lovers 0 = .ok (.aload_n 0, 1) := by decide +kernel
theorem dX12_lovers_1 : decode cX12_lovers 1 = .ok (.invokevirtual 173, 3) := by decide +kernel
theorem dX12_lovers_4 : decode cX12_lovers 4 = .ok (.aload_n 0, 1) := by decide +kernel
theorem dX12_lovers_5 : decode cX12_lovers 5 = .ok (.iload_n 1, 1) := by decide +kernel
theorem dX12_lovers_6 : decode cX12_lovers 6 = .ok (.iload_n 2, 1) := by decide +kernel
theorem dX12_lovers_7 : decode cX12_lovers 7 = .ok (.invokevirtual 413, 3) := by decide +kernel
theorem dX12_lovers_10 : decode cX12_lovers 10 = .ok (.ifCond .eq 17, 3) := by decide +kernel
theorem dX12_lovers_13 : decode cX12_lovers 13 = .ok (.aload_n 0, 1) := by decide +kernel
theorem dX12_lovers_14 : decode cX12_lovers 14 = .ok (.iload_n 1, 1) := by decide +kernel
theorem dX12_lovers_15 : decode cX12_lovers 15 = .ok (.iload_n 2, 1) := by decide +kernel
theorem dX12_lovers_16 : decode cX12_lovers 16 = .ok (.iconst (-1), 1) := by decide +kernel
theorem dX12_lovers_17 : decode cX12_lovers 17 = .ok (.invokevirtual 416, 3) := by decide +kernel
theorem dX12_lovers_20 : decode cX12_lovers 20 = .ok (.sipush 1000, 3) := by decide +kernel
theorem dX12_lovers_23 : decode cX12_lovers 23 = .ok (.iadd, 1) := by decide +kernel
theorem dX12_lovers_24 : decode cX12_lovers 24 = .ok (.goto 8, 3) := by decide +kernel
theorem dX12_lovers_27 : decode cX12_lovers 27 = .ok (.aload_n 0, 1) := by decide +kernel
theorem dX12_lovers_28 : decode cX12_lovers 28 = .ok (.iconst 1, 1) := by decide +kernel
theorem dX12_lovers_29 : decode cX12_lovers 29 = .ok (.invokevirtual 176, 3) := by decide +kernel
theorem dX12_lovers_32 : decode cX12_lovers 32 = .ok (.ireturn, 1) := by decide +kernel
theorem dX12_lover_0 : decode cX12_lover 0 = .ok (.aload_n 0, 1) := by decide +kernel
theorem dX12_lover_1 : decode cX12_lover 1 = .ok (.invokevirtual 173, 3) := by decide +kernel
theorem dX12_lover_4 : decode cX12_lover 4 = .ok (.aload_n 0, 1) := by decide +kernel
theorem dX12_lover_5 : decode cX12_lover 5 = .ok (.iload_n 1, 1) := by decide +kernel
theorem dX12_lover_6 : decode cX12_lover 6 = .ok (.iload_n 2, 1) := by decide +kernel
theorem dX12_lover_7 : decode cX12_lover 7 = .ok (.invokevirtual 413, 3) := by decide +kernel
theorem dX12_lover_10 : decode cX12_lover 10 = .ok (.ifCond .eq 7, 3) := by decide +kernel
theorem dX12_lover_13 : decode cX12_lover 13 = .ok (.iload_n 3, 1) := by decide +kernel
theorem dX12_lover_14 : decode cX12_lover 14 = .ok (.ifCond .ge 9, 3) := by decide +kernel
theorem dX12_lover_17 : decode cX12_lover 17 = .ok (.aload_n 0, 1) := by decide +kernel
theorem dX12_lover_18 : decode cX12_lover 18 = .ok (.iconst 1, 1) := by decide +kernel
theorem dX12_lover_19 : decode cX12_lover 19 = .ok (.invokevirtual 176, 3) := by decide +kernel
theorem dX12_lover_22 : decode cX12_lover 22 = .ok (.ireturn, 1) := by decide +kernel
theorem dX12_lover_23 : decode cX12_lover 23 = .ok (.aload_n 0, 1) := by decide +kernel
theorem dX12_lover_24 : decode cX12_lover 24 = .ok (.iload_n 1, 1) := by decide +kernel
theorem dX12_lover_25 : decode cX12_lover 25 = .ok (.iload_n 2, 1) := by decide +kernel
theorem dX12_lover_26 : decode cX12_lover 26 = .ok (.iload_n 3, 1) := by decide +kernel
theorem dX12_lover_27 : decode cX12_lover 27 = .ok (.invokevirtual 416, 3) := by decide +kernel
theorem dX12_lover_30 : decode cX12_lover 30 = .ok (.istore 5, 2) := by decide +kernel
theorem dX12_lover_32 : decode cX12_lover 32 = .ok (.iload 5, 2) := by decide +kernel
theorem dX12_lover_34 : decode cX12_lover 34 = .ok (.ifCond .ge 11, 3) := by decide +kernel
theorem dX12_lover_37 : decode cX12_lover 37 = .ok (.aload_n 0, 1) := by decide +kernel
theorem dX12_lover_38 : decode cX12_lover 38 = .ok (.iconst 1, 1) := by decide +kernel
theorem dX12_lover_39 : decode cX12_lover 39 = .ok (.invokevirtual 176, 3) := by decide +kernel
theorem dX12_lover_42 : decode cX12_lover 42 = .ok (.goto 21, 3) := by decide +kernel
theorem dX12_lover_45 : decode cX12_lover 45 = .ok (.iload 4, 2) := by decide +kernel
theorem dX12_lover_47 : decode cX12_lover 47 = .ok (.ifCond .eq 11, 3) := by decide +kernel
theorem dX12_lover_50 : decode cX12_lover 50 = .ok (.iload 5, 2) := by decide +kernel
theorem dX12_lover_52 : decode cX12_lover 52 = .ok (.bipush 6, 2) := by decide +kernel
theorem dX12_lover_54 : decode cX12_lover 54 = .ok (.irem, 1) := by decide +kernel
theorem dX12_lover_55 : decode cX12_lover 55 = .ok (.goto 8, 3) := by decide +kernel
theorem dX12_lover_58 : decode cX12_lover 58 = .ok (.iload 5, 2) := by decide +kernel
theorem dX12_lover_60 : decode cX12_lover 60 = .ok (.bipush 6, 2) := by decide +kernel
theorem dX12_lover_62 : decode cX12_lover 62 = .ok (.idiv, 1) := by decide +kernel
theorem dX12_lover_63 : decode cX12_lover 63 = .ok (.ireturn, 1) := by decide +kernel
def posL (F : bkF) (s : LSt) (m o p q D : Nat) : Nat := wys (F 3) (Gt F s D (tru F s D) (some (m, some p)) (some (o, some q))) (Ct F s D (tru F s D) (some (m, some p)) (some (o, some q))) (F 2) 0 0
def badL (F : bkF) (s : LSt) (m o p q l : Nat) : Bool := ltp F m o l && decide (posL F s m o p q (F (170 + 3 * l)) = 0)
def lvA (F : bkF) (s : LSt) (m o p q : Nat) : Bool := oup (ltp F m o) 0 (F 6) && !oup (badL F s m o p q) 0 (F 6)
section
variable {b : Nat} {ad : Nat → Nat} {I J : HI} {L M : HL} {R : HR} {Q : QT} {tp : Nat → Nat} {nt tr fa pl : Nat} {F : bkF} {S : Nat → LSt} {u r : Nat} {im : Nat → LSt} {ic : Nat}
theorem c_X12_areLovers {m o p q : Nat} (hR : RO R) (h0 : RefB I tp nt tr fa pl F S u r im ic) (hm : m < F 2) (ho : o < F 2) (hp : p < F 3) (hq : q < F 3) (hQ : ∀ (J : HI) (M : HL), RefB J tp nt tr fa pl F S u r im ic → (∀ x, x < 157 → J x = I x) → (∀ x, x ≠ 170 → M x = L x) → Q (some (.int (bI (lvA F (S 0) m o p q)))) SH J M R) : KK 7 mX12_areLovers b ad [.ref (b + 157), .int (nI m), .int (nI o), .int (nI p), .int (nI q)] I L R Q := by
  have hO := h0.2.2.1.1.2.2.1
  have o0 := hO.1
  have o2 := hO.2.2.1
  have o3 := hO.2.2.2.1
  have o6 := hO.2.2.2.2.2.2.1
  have loop : ∀ (j l : Nat) (a : Bool) (J : HI) (M : HL) (x7 x8 x9 x10 x11 : Option Value), l + j = F 6 → RefB J tp nt tr fa pl F S u r im ic → (∀ x, x < 157 → J x = I x) → (∀ x, x ≠ 170 → M x = L x) → ((a || oup (ltp F m o) l j) && !oup (badL F (S 0) m o p q) l j) = lvA F (S 0) m o p q → VV yX12_areLovers cX12_areLovers 12 (some .boolean) 7 Q b ad 6 [some (.ref (b + 157)), some (.int (nI m)), some (.int (nI o)), some (.int (nI p)), some (.int (nI q)), some (.int (bI a)), some (.int (nI l)), x7, x8, x9, x10, x11] [] J M R := by
    intro j
    induction j with
    | zero =>
      intro l a J M x7 x8 x9 x10 x11 hl h jx mx he
      have hF := h.2.2.1.1.1.2
      have he : ((a || false) && true) = lvA F (S 0) m o p q := he
      rw [Bool.or_false, Bool.and_true] at he
      have hQ2 := hQ J M h jx mx
      rw [← he] at hQ2
      refine v_iload_6 dX12_areLovers_6 ?_
      refine v_aload_0 dX12_areLovers_8 ?_
      refine u_getR dX12_areLovers_9 gf_X12_20 (by first | assumption | rfl | exact led_1 (by assumption) | exact led_2 (by assumption) | exact bk_m (by assumption) (by first | assumption | omega) | exact bk_p (by assumption) (by first | assumption | omega) | exact bk_o (by assumption) (by first | assumption | omega) | exact bk_s (by assumption) (by first | assumption | omega) | exact bk_1 (by assumption) | exact bk_2 (by assumption) | exact bk_3 (by assumption) | exact bk_4 (by assumption) | exact bk_5 (by assumption) | exact bk_6 (by assumption) | exact bk_7 (by assumption) | exact bk_8 (by assumption) | exact sh_ring _ (by first | assumption | omega) | exact sh_imgs _ (by first | assumption | omega)) (ro_X12_15 (by assumption)) ?_
      refine v_bipush (v := nI 6) dX12_areLovers_12 (by decide) ?_
      refine u_iald dX12_areLovers_14 (by first | assumption | rfl | exact led_1 (by assumption) | exact led_2 (by assumption) | exact bk_m (by assumption) (by first | assumption | omega) | exact bk_p (by assumption) (by first | assumption | omega) | exact bk_o (by assumption) (by first | assumption | omega) | exact bk_s (by assumption) (by first | assumption | omega) | exact bk_1 (by assumption) | exact bk_2 (by assumption) | exact bk_3 (by assumption) | exact bk_4 (by assumption) | exact bk_5 (by assumption) | exact bk_6 (by assumption) | exact bk_7 (by assumption) | exact bk_8 (by assumption) | exact sh_ring _ (by first | assumption | omega) | exact sh_imgs _ (by first | assumption | omega)) (by first | with_reducible rfl | (simp only [nlit, nI_add, pk_mul]; with_reducible rfl) | rfl) (by first | assumption | omega) (by first | assumption | decide) ?_
      rw [hF 6 (by decide)]
      refine v_icmp_ge (tgt := 163) dX12_areLovers_15 (by decide) (fun hc15 => ?_) (fun hc15 => ?_)
      · (try rw [nI_leI (by omega) (by omega)] at hc15)
        refine v_iload_5 dX12_areLovers_163 ?_
        refine v_zret dX12_areLovers_165 (by first | rfl | exact bI_n _) rfl rfl rfl rfl ?_
        exact hQ2
      · exact absurd (nI_le (by omega) (by omega)) hc15
    | succ j ih =>
      intro l a J M x7 x8 x9 x10 x11 hlj h jx mx he
      have hF := h.2.2.1.1.1.2
      have hr := h.2.2.1
      have hl : l < F 6 := by omega
      obtain ⟨y1, y2, y3, y4, y5⟩ := fk_l hO hl
      have he : ((a || (ltp F m o l || oup (ltp F m o) (l + 1) j)) && !(badL F (S 0) m o p q l || oup (badL F (S 0) m o p q) (l + 1) j)) = lvA F (S 0) m o p q := he
      have cut : ∀ x7 x8 : Int32, ltp F m o l = true → VV yX12_areLovers cX12_areLovers 12 (some .boolean) 7 Q b ad 77 [some (.ref (b + 157)), some (.int (nI m)), some (.int (nI o)), some (.int (nI p)), some (.int (nI q)), some (.int (bI a)), some (.int (nI l)), some (.int x7), some (.int x8), x9, x10, x11] [] J M R := by
        intro x7 x8 hlt
        refine v_iconst (v := nI 1) dX12_areLovers_77 (by decide) ?_
        refine v_istore_5 rfl dX12_areLovers_78 ?_
        refine v_aload_0 dX12_areLovers_80 ?_
        refine u_getR dX12_areLovers_81 gf_X12_20 (by first | assumption | rfl | exact led_1 (by assumption) | exact led_2 (by assumption) | exact bk_m (by assumption) (by first | assumption | omega) | exact bk_p (by assumption) (by first | assumption | omega) | exact bk_o (by assumption) (by first | assumption | omega) | exact bk_s (by assumption) (by first | assumption | omega) | exact bk_1 (by assumption) | exact bk_2 (by assumption) | exact bk_3 (by assumption) | exact bk_4 (by assumption) | exact bk_5 (by assumption) | exact bk_6 (by assumption) | exact bk_7 (by assumption) | exact bk_8 (by assumption) | exact sh_ring _ (by first | assumption | omega) | exact sh_imgs _ (by first | assumption | omega)) (ro_X12_15 (by assumption)) ?_
        refine v_sipush (v := nI 168) dX12_areLovers_84 (by decide) ?_
        refine v_iconst (v := nI 3) dX12_areLovers_87 (by decide) ?_
        refine v_iload_6 dX12_areLovers_88 ?_
        refine v_imul dX12_areLovers_90 ?_
        refine v_iadd dX12_areLovers_91 ?_
        refine v_iconst (v := nI 2) dX12_areLovers_92 (by decide) ?_
        refine v_iadd dX12_areLovers_93 ?_
        refine u_iald dX12_areLovers_94 (by first | assumption | rfl | exact led_1 (by assumption) | exact led_2 (by assumption) | exact bk_m (by assumption) (by first | assumption | omega) | exact bk_p (by assumption) (by first | assumption | omega) | exact bk_o (by assumption) (by first | assumption | omega) | exact bk_s (by assumption) (by first | assumption | omega) | exact bk_1 (by assumption) | exact bk_2 (by assumption) | exact bk_3 (by assumption) | exact bk_4 (by assumption) | exact bk_5 (by assumption) | exact bk_6 (by assumption) | exact bk_7 (by assumption) | exact bk_8 (by assumption) | exact sh_ring _ (by first | assumption | omega) | exact sh_imgs _ (by first | assumption | omega)) (by first | with_reducible rfl | (simp only [nlit, nI_add, pk_mul]; with_reducible rfl) | rfl) (by first | assumption | omega) (by first | assumption | decide) ?_
        rw [hF _ (by omega), show 168 + 3 * l + 2 = 170 + 3 * l by omega]
        refine v_istore_9 rfl dX12_areLovers_95 ?_
        refine v_aload_0 dX12_areLovers_97 ?_
        refine v_iload_9 dX12_areLovers_98 ?_
        refine u_callV_1 dX12_areLovers_100 ml_X12_403 mv_X12_trueOf (by first | assumption | rfl | exact led_1 (by assumption) | exact led_2 (by assumption) | exact bk_m (by assumption) (by first | assumption | omega) | exact bk_p (by assumption) (by first | assumption | omega) | exact bk_o (by assumption) (by first | assumption | omega) | exact bk_s (by assumption) (by first | assumption | omega) | exact bk_1 (by assumption) | exact bk_2 (by assumption) | exact bk_3 (by assumption) | exact bk_4 (by assumption) | exact bk_5 (by assumption) | exact bk_6 (by assumption) | exact bk_7 (by assumption) | exact bk_8 (by assumption) | exact sh_ring _ (by first | assumption | omega) | exact sh_imgs _ (by first | assumption | omega)) (by decide) rfl (by decide) (Nat.le_of_ble_eq_true rfl) (c_X12_trueOf (s := S 0) hR hr (by omega) (fun M1 k1 => ?_))
        refine v_istore_10 rfl dX12_areLovers_103 ?_
        refine v_aload_0 dX12_areLovers_105 ?_
        refine v_iload_1 dX12_areLovers_106 ?_
        refine u_putI dX12_areLovers_107 gf_X12_365 (by first | assumption | rfl | exact led_1 (by assumption) | exact led_2 (by assumption) | exact bk_m (by assumption) (by first | assumption | omega) | exact bk_p (by assumption) (by first | assumption | omega) | exact bk_o (by assumption) (by first | assumption | omega) | exact bk_s (by assumption) (by first | assumption | omega) | exact bk_1 (by assumption) | exact bk_2 (by assumption) | exact bk_3 (by assumption) | exact bk_4 (by assumption) | exact bk_5 (by assumption) | exact bk_6 (by assumption) | exact bk_7 (by assumption) | exact bk_8 (by assumption) | exact sh_ring _ (by first | assumption | omega) | exact sh_imgs _ (by first | assumption | omega)) rfl rfl rfl ?_
        refine v_aload_0 dX12_areLovers_110 ?_
        refine v_iload_3 dX12_areLovers_111 ?_
        refine u_putI dX12_areLovers_112 gf_X12_368 (by first | assumption | rfl | exact led_1 (by assumption) | exact led_2 (by assumption) | exact bk_m (by assumption) (by first | assumption | omega) | exact bk_p (by assumption) (by first | assumption | omega) | exact bk_o (by assumption) (by first | assumption | omega) | exact bk_s (by assumption) (by first | assumption | omega) | exact bk_1 (by assumption) | exact bk_2 (by assumption) | exact bk_3 (by assumption) | exact bk_4 (by assumption) | exact bk_5 (by assumption) | exact bk_6 (by assumption) | exact bk_7 (by assumption) | exact bk_8 (by assumption) | exact sh_ring _ (by first | assumption | omega) | exact sh_imgs _ (by first | assumption | omega)) rfl rfl rfl ?_
        refine v_aload_0 dX12_areLovers_115 ?_
        refine v_iload_2 dX12_areLovers_116 ?_
        refine u_putI dX12_areLovers_117 gf_X12_371 (by first | assumption | rfl | exact led_1 (by assumption) | exact led_2 (by assumption) | exact bk_m (by assumption) (by first | assumption | omega) | exact bk_p (by assumption) (by first | assumption | omega) | exact bk_o (by assumption) (by first | assumption | omega) | exact bk_s (by assumption) (by first | assumption | omega) | exact bk_1 (by assumption) | exact bk_2 (by assumption) | exact bk_3 (by assumption) | exact bk_4 (by assumption) | exact bk_5 (by assumption) | exact bk_6 (by assumption) | exact bk_7 (by assumption) | exact bk_8 (by assumption) | exact sh_ring _ (by first | assumption | omega) | exact sh_imgs _ (by first | assumption | omega)) rfl rfl rfl ?_
        refine v_aload_0 dX12_areLovers_120 ?_
        refine v_iload_4 dX12_areLovers_121 ?_
        refine u_putI dX12_areLovers_123 gf_X12_374 (by first | assumption | rfl | exact led_1 (by assumption) | exact led_2 (by assumption) | exact bk_m (by assumption) (by first | assumption | omega) | exact bk_p (by assumption) (by first | assumption | omega) | exact bk_o (by assumption) (by first | assumption | omega) | exact bk_s (by assumption) (by first | assumption | omega) | exact bk_1 (by assumption) | exact bk_2 (by assumption) | exact bk_3 (by assumption) | exact bk_4 (by assumption) | exact bk_5 (by assumption) | exact bk_6 (by assumption) | exact bk_7 (by assumption) | exact bk_8 (by assumption) | exact sh_ring _ (by first | assumption | omega) | exact sh_imgs _ (by first | assumption | omega)) rfl rfl rfl ?_
        have h2 := rf_k (k := 31) (v := nI q) (rf_k (k := 30) (v := nI o) (rf_k (k := 29) (v := nI p) (rf_k (k := 28) (v := nI m) (rf_nt (v := -1) (w := -1) h) (by decide)) (by decide)) (by decide)) (by decide)
        have ht1 : TlI (ui (ui (ui (ui (ui (ui J 157 28 (-1)) 157 30 (-1)) 157 28 (nI m)) 157 29 (nI p)) 157 30 (nI o)) 157 31 (nI q)) 28 (some (m, some p)) := ⟨by rw [ui_o (by decide), ui_o (by decide), ui_o (by decide), ui_s], by rw [ui_o (by decide), ui_o (by decide), ui_s]; rfl, by omega, fun z e => by cases e; omega⟩
        have ht2 : TlI (ui (ui (ui (ui (ui (ui J 157 28 (-1)) 157 30 (-1)) 157 28 (nI m)) 157 29 (nI p)) 157 30 (nI o)) 157 31 (nI q)) 30 (some (o, some q)) := ⟨by rw [ui_o (by decide), ui_s], by rw [ui_s]; rfl, by omega, fun z e => by cases e; omega⟩
        refine v_aload_0 dX12_areLovers_126 ?_
        refine v_iload_9 dX12_areLovers_127 ?_
        refine v_iload_10 dX12_areLovers_129 ?_
        refine u_callV_2 dX12_areLovers_131 ml_X12_396 mv_X12_countWearers (by first | assumption | rfl | exact led_1 (by assumption) | exact led_2 (by assumption) | exact bk_m (by assumption) (by first | assumption | omega) | exact bk_p (by assumption) (by first | assumption | omega) | exact bk_o (by assumption) (by first | assumption | omega) | exact bk_s (by assumption) (by first | assumption | omega) | exact bk_1 (by assumption) | exact bk_2 (by assumption) | exact bk_3 (by assumption) | exact bk_4 (by assumption) | exact bk_5 (by assumption) | exact bk_6 (by assumption) | exact bk_7 (by assumption) | exact bk_8 (by assumption) | exact sh_ring _ (by first | assumption | omega) | exact sh_imgs _ (by first | assumption | omega)) (by decide) rfl (by decide) (Nat.le_of_ble_eq_true rfl) (c_X12_countWearers (s := S 0) (t1 := some (m, some p)) (t2 := some (o, some q)) hR h2.2.2.1 (by omega) (tru_ok hO).1 (tru_ok hO).2 ht1 ht2 (fun M2 k2 => ?_))
        refine v_lconst (v := 0) dX12_areLovers_134 (by decide) ?_
        refine v_lcmp dX12_areLovers_135 ?_
        refine v_if_le (tgt := 143) dX12_areLovers_136 (by decide) (fun hc136 => ?_) (fun hc136 => ?_)
        · (first | rw [show (0 : Int32) = nI 0 from rfl, nI_ltI (by omega) (by omega)] at hc136 | rw [show (0 : Int32) = nI 0 from rfl, nI_leI (by omega) (by omega)] at hc136 | skip)
          refine v_iconst (v := nI 0) dX12_areLovers_143 (by decide) ?_
          refine v_istore_11 rfl dX12_areLovers_144 ?_
          refine v_aload_0 dX12_areLovers_146 ?_
          refine u_callV_0 dX12_areLovers_147 ml_X12_384 mv_X12_tellNone (by first | assumption | rfl | exact led_1 (by assumption) | exact led_2 (by assumption) | exact bk_m (by assumption) (by first | assumption | omega) | exact bk_p (by assumption) (by first | assumption | omega) | exact bk_o (by assumption) (by first | assumption | omega) | exact bk_s (by assumption) (by first | assumption | omega) | exact bk_1 (by assumption) | exact bk_2 (by assumption) | exact bk_3 (by assumption) | exact bk_4 (by assumption) | exact bk_5 (by assumption) | exact bk_6 (by assumption) | exact bk_7 (by assumption) | exact bk_8 (by assumption) | exact sh_ring _ (by first | assumption | omega) | exact sh_imgs _ (by first | assumption | omega)) (by decide) rfl (by decide) (Nat.le_of_ble_eq_true rfl) (c_X12_tellNone ?_)
          refine v_iload_11 dX12_areLovers_150 ?_
          refine v_if_ne (tgt := 157) dX12_areLovers_152 (by decide) (fun hc152 => ?_) (fun hc152 => ?_)
          · (first | rw [bI_0, Bool.not_eq_false] at hc152 | rw [bI_0] at hc152 | rw [show (0 : Int32) = nI 0 from rfl, nI_eq (by omega) (by omega)] at hc152 | skip)
            refine v_iinc_6 (v := 1) rfl dX12_areLovers_157 (by decide) ?_
            rw [show nI l + 1 = nI (l + 1) from nI_1 l]
            refine v_goto (tgt := 6) dX12_areLovers_160 (by decide) ?_
            first
              | exact absurd rfl hc152
              | exact absurd hc152 (by decide)
              | (have hb0 : badL F (S 0) m o p q l = false := (by unfold badL; rw [hlt, show decide (posL F (S 0) m o p q (F (170 + 3 * l)) = 0) = false from decide_eq_false (fun z => hc136 ((lg_le (wys_lt o3 o2)).mpr z))]; rfl); rw [hlt, hb0] at he; exact ih (l + 1) true _ _ _ _ _ _ _ (by omega) (rf_nt h2) (fun x hx => by simp only [ui_ne (show x ≠ 157 by omega)]; exact jx x hx) (fun x z => by rw [k2 x z, k1 x z]; exact mx x z) (by rw [← he]; simp))
          · (first | rw [bI_0, Bool.not_eq_false] at hc152 | rw [bI_0] at hc152 | rw [show (0 : Int32) = nI 0 from rfl, nI_eq (by omega) (by omega)] at hc152 | skip)
            refine v_iconst (v := nI 0) dX12_areLovers_155 (by decide) ?_
            refine v_zret dX12_areLovers_156 (by first | rfl | exact bI_n _) rfl rfl rfl rfl ?_
            first
              | exact absurd rfl hc152
              | exact absurd hc152 (by decide)
              | (have hb1 : badL F (S 0) m o p q l = true := (by unfold badL; rw [hlt, show decide (posL F (S 0) m o p q (F (170 + 3 * l)) = 0) = true from decide_eq_true ((lg_le (wys_lt o3 o2)).mp hc136)]; rfl); have hv : lvA F (S 0) m o p q = false := (by rw [← he, hb1]; simp); have hQ2 := hQ _ M2 (rf_nt (v := -1) (w := -1) h2) (fun x hx => by simp only [ui_ne (show x ≠ 157 by omega)]; exact jx x hx) (fun x z => by rw [k2 x z, k1 x z]; exact mx x z); rw [hv] at hQ2; exact hQ2)
        · (first | rw [show (0 : Int32) = nI 0 from rfl, nI_ltI (by omega) (by omega)] at hc136 | rw [show (0 : Int32) = nI 0 from rfl, nI_leI (by omega) (by omega)] at hc136 | skip)
          refine v_iconst (v := nI 1) dX12_areLovers_139 (by decide) ?_
          refine v_goto (tgt := 144) dX12_areLovers_140 (by decide) ?_
          refine v_istore_11 rfl dX12_areLovers_144 ?_
          refine v_aload_0 dX12_areLovers_146 ?_
          refine u_callV_0 dX12_areLovers_147 ml_X12_384 mv_X12_tellNone (by first | assumption | rfl | exact led_1 (by assumption) | exact led_2 (by assumption) | exact bk_m (by assumption) (by first | assumption | omega) | exact bk_p (by assumption) (by first | assumption | omega) | exact bk_o (by assumption) (by first | assumption | omega) | exact bk_s (by assumption) (by first | assumption | omega) | exact bk_1 (by assumption) | exact bk_2 (by assumption) | exact bk_3 (by assumption) | exact bk_4 (by assumption) | exact bk_5 (by assumption) | exact bk_6 (by assumption) | exact bk_7 (by assumption) | exact bk_8 (by assumption) | exact sh_ring _ (by first | assumption | omega) | exact sh_imgs _ (by first | assumption | omega)) (by decide) rfl (by decide) (Nat.le_of_ble_eq_true rfl) (c_X12_tellNone ?_)
          refine v_iload_11 dX12_areLovers_150 ?_
          refine v_if_ne (tgt := 157) dX12_areLovers_152 (by decide) (fun hc152 => ?_) (fun hc152 => ?_)
          · (first | rw [bI_0, Bool.not_eq_false] at hc152 | rw [bI_0] at hc152 | rw [show (0 : Int32) = nI 0 from rfl, nI_eq (by omega) (by omega)] at hc152 | skip)
            refine v_iinc_6 (v := 1) rfl dX12_areLovers_157 (by decide) ?_
            rw [show nI l + 1 = nI (l + 1) from nI_1 l]
            refine v_goto (tgt := 6) dX12_areLovers_160 (by decide) ?_
            first
              | exact absurd rfl hc152
              | exact absurd hc152 (by decide)
              | (have hb0 : badL F (S 0) m o p q l = false := (by unfold badL; rw [hlt, show decide (posL F (S 0) m o p q (F (170 + 3 * l)) = 0) = false from decide_eq_false (fun z => hc136 ((lg_le (wys_lt o3 o2)).mpr z))]; rfl); rw [hlt, hb0] at he; exact ih (l + 1) true _ _ _ _ _ _ _ (by omega) (rf_nt h2) (fun x hx => by simp only [ui_ne (show x ≠ 157 by omega)]; exact jx x hx) (fun x z => by rw [k2 x z, k1 x z]; exact mx x z) (by rw [← he]; simp))
          · (first | rw [bI_0, Bool.not_eq_false] at hc152 | rw [bI_0] at hc152 | rw [show (0 : Int32) = nI 0 from rfl, nI_eq (by omega) (by omega)] at hc152 | skip)
            refine v_iconst (v := nI 0) dX12_areLovers_155 (by decide) ?_
            refine v_zret dX12_areLovers_156 (by first | rfl | exact bI_n _) rfl rfl rfl rfl ?_
            first
              | exact absurd rfl hc152
              | exact absurd hc152 (by decide)
              | (have hb1 : badL F (S 0) m o p q l = true := (by unfold badL; rw [hlt, show decide (posL F (S 0) m o p q (F (170 + 3 * l)) = 0) = true from decide_eq_true ((lg_le (wys_lt o3 o2)).mp hc136)]; rfl); have hv : lvA F (S 0) m o p q = false := (by rw [← he, hb1]; simp); have hQ2 := hQ _ M2 (rf_nt (v := -1) (w := -1) h2) (fun x hx => by simp only [ui_ne (show x ≠ 157 by omega)]; exact jx x hx) (fun x z => by rw [k2 x z, k1 x z]; exact mx x z); rw [hv] at hQ2; exact hQ2)
      refine v_iload_6 dX12_areLovers_6 ?_
      refine v_aload_0 dX12_areLovers_8 ?_
      refine u_getR dX12_areLovers_9 gf_X12_20 (by first | assumption | rfl | exact led_1 (by assumption) | exact led_2 (by assumption) | exact bk_m (by assumption) (by first | assumption | omega) | exact bk_p (by assumption) (by first | assumption | omega) | exact bk_o (by assumption) (by first | assumption | omega) | exact bk_s (by assumption) (by first | assumption | omega) | exact bk_1 (by assumption) | exact bk_2 (by assumption) | exact bk_3 (by assumption) | exact bk_4 (by assumption) | exact bk_5 (by assumption) | exact bk_6 (by assumption) | exact bk_7 (by assumption) | exact bk_8 (by assumption) | exact sh_ring _ (by first | assumption | omega) | exact sh_imgs _ (by first | assumption | omega)) (ro_X12_15 (by assumption)) ?_
      refine v_bipush (v := nI 6) dX12_areLovers_12 (by decide) ?_
      refine u_iald dX12_areLovers_14 (by first | assumption | rfl | exact led_1 (by assumption) | exact led_2 (by assumption) | exact bk_m (by assumption) (by first | assumption | omega) | exact bk_p (by assumption) (by first | assumption | omega) | exact bk_o (by assumption) (by first | assumption | omega) | exact bk_s (by assumption) (by first | assumption | omega) | exact bk_1 (by assumption) | exact bk_2 (by assumption) | exact bk_3 (by assumption) | exact bk_4 (by assumption) | exact bk_5 (by assumption) | exact bk_6 (by assumption) | exact bk_7 (by assumption) | exact bk_8 (by assumption) | exact sh_ring _ (by first | assumption | omega) | exact sh_imgs _ (by first | assumption | omega)) (by first | with_reducible rfl | (simp only [nlit, nI_add, pk_mul]; with_reducible rfl) | rfl) (by first | assumption | omega) (by first | assumption | decide) ?_
      rw [hF 6 (by decide)]
      refine v_icmp_ge (tgt := 163) dX12_areLovers_15 (by decide) (fun hc15 => ?_) (fun hc15 => ?_)
      · exact absurd hc15 (nI_ge (by omega) (by omega))
      · (try rw [nI_leI (by omega) (by omega)] at hc15)
        refine v_aload_0 dX12_areLovers_18 ?_
        refine u_getR dX12_areLovers_19 gf_X12_20 (by first | assumption | rfl | exact led_1 (by assumption) | exact led_2 (by assumption) | exact bk_m (by assumption) (by first | assumption | omega) | exact bk_p (by assumption) (by first | assumption | omega) | exact bk_o (by assumption) (by first | assumption | omega) | exact bk_s (by assumption) (by first | assumption | omega) | exact bk_1 (by assumption) | exact bk_2 (by assumption) | exact bk_3 (by assumption) | exact bk_4 (by assumption) | exact bk_5 (by assumption) | exact bk_6 (by assumption) | exact bk_7 (by assumption) | exact bk_8 (by assumption) | exact sh_ring _ (by first | assumption | omega) | exact sh_imgs _ (by first | assumption | omega)) (ro_X12_15 (by assumption)) ?_
        refine v_sipush (v := nI 168) dX12_areLovers_22 (by decide) ?_
        refine v_iconst (v := nI 3) dX12_areLovers_25 (by decide) ?_
        refine v_iload_6 dX12_areLovers_26 ?_
        refine v_imul dX12_areLovers_28 ?_
        refine v_iadd dX12_areLovers_29 ?_
        refine u_iald dX12_areLovers_30 (by first | assumption | rfl | exact led_1 (by assumption) | exact led_2 (by assumption) | exact bk_m (by assumption) (by first | assumption | omega) | exact bk_p (by assumption) (by first | assumption | omega) | exact bk_o (by assumption) (by first | assumption | omega) | exact bk_s (by assumption) (by first | assumption | omega) | exact bk_1 (by assumption) | exact bk_2 (by assumption) | exact bk_3 (by assumption) | exact bk_4 (by assumption) | exact bk_5 (by assumption) | exact bk_6 (by assumption) | exact bk_7 (by assumption) | exact bk_8 (by assumption) | exact sh_ring _ (by first | assumption | omega) | exact sh_imgs _ (by first | assumption | omega)) (by first | with_reducible rfl | (simp only [nlit, nI_add, pk_mul]; with_reducible rfl) | rfl) (by first | assumption | omega) (by first | assumption | decide) ?_
        rw [hF _ (by omega)]
        refine v_istore_7 rfl dX12_areLovers_31 ?_
        refine v_aload_0 dX12_areLovers_33 ?_
        refine u_getR dX12_areLovers_34 gf_X12_20 (by first | assumption | rfl | exact led_1 (by assumption) | exact led_2 (by assumption) | exact bk_m (by assumption) (by first | assumption | omega) | exact bk_p (by assumption) (by first | assumption | omega) | exact bk_o (by assumption) (by first | assumption | omega) | exact bk_s (by assumption) (by first | assumption | omega) | exact bk_1 (by assumption) | exact bk_2 (by assumption) | exact bk_3 (by assumption) | exact bk_4 (by assumption) | exact bk_5 (by assumption) | exact bk_6 (by assumption) | exact bk_7 (by assumption) | exact bk_8 (by assumption) | exact sh_ring _ (by first | assumption | omega) | exact sh_imgs _ (by first | assumption | omega)) (ro_X12_15 (by assumption)) ?_
        refine v_sipush (v := nI 168) dX12_areLovers_37 (by decide) ?_
        refine v_iconst (v := nI 3) dX12_areLovers_40 (by decide) ?_
        refine v_iload_6 dX12_areLovers_41 ?_
        refine v_imul dX12_areLovers_43 ?_
        refine v_iadd dX12_areLovers_44 ?_
        refine v_iconst (v := nI 1) dX12_areLovers_45 (by decide) ?_
        refine v_iadd dX12_areLovers_46 ?_
        refine u_iald dX12_areLovers_47 (by first | assumption | rfl | exact led_1 (by assumption) | exact led_2 (by assumption) | exact bk_m (by assumption) (by first | assumption | omega) | exact bk_p (by assumption) (by first | assumption | omega) | exact bk_o (by assumption) (by first | assumption | omega) | exact bk_s (by assumption) (by first | assumption | omega) | exact bk_1 (by assumption) | exact bk_2 (by assumption) | exact bk_3 (by assumption) | exact bk_4 (by assumption) | exact bk_5 (by assumption) | exact bk_6 (by assumption) | exact bk_7 (by assumption) | exact bk_8 (by assumption) | exact sh_ring _ (by first | assumption | omega) | exact sh_imgs _ (by first | assumption | omega)) (by first | with_reducible rfl | (simp only [nlit, nI_add, pk_mul]; with_reducible rfl) | rfl) (by first | assumption | omega) (by first | assumption | decide) ?_
        rw [hF _ (by omega), show 168 + 3 * l + 1 = 169 + 3 * l by omega]
        refine v_istore_8 rfl dX12_areLovers_48 ?_
        refine v_iload_7 dX12_areLovers_50 ?_
        refine v_iload_1 dX12_areLovers_52 ?_
        refine v_icmp_ne (tgt := 62) dX12_areLovers_53 (by decide) (fun hc53 => ?_) (fun hc53 => ?_)
        · (try rw [nI_eq (by omega) (by omega)] at hc53)
          refine v_iload_7 dX12_areLovers_62 ?_
          refine v_iload_2 dX12_areLovers_64 ?_
          refine v_icmp_ne (tgt := 157) dX12_areLovers_65 (by decide) (fun hc65 => ?_) (fun hc65 => ?_)
          · (try rw [nI_eq (by omega) (by omega)] at hc65)
            refine v_iinc_6 (v := 1) rfl dX12_areLovers_157 (by decide) ?_
            rw [show nI l + 1 = nI (l + 1) from nI_1 l]
            refine v_goto (tgt := 6) dX12_areLovers_160 (by decide) ?_
            first
              | (have hlt : ltp F m o l = false := (by unfold ltp; rw [decide_eq_false hc53, decide_eq_false hc65]; simp); have hb0 : badL F (S 0) m o p q l = false := (by unfold badL; rw [hlt, Bool.false_and]); rw [hlt, hb0, Bool.false_or, Bool.false_or] at he; exact ih (l + 1) a _ _ _ _ _ _ _ (by omega) h jx mx he)
              | (have hlt : ltp F m o l = false := (by unfold ltp; rw [decide_eq_false hc53, decide_eq_false hc71]; simp); have hb0 : badL F (S 0) m o p q l = false := (by unfold badL; rw [hlt, Bool.false_and]); rw [hlt, hb0, Bool.false_or, Bool.false_or] at he; exact ih (l + 1) a _ _ _ _ _ _ _ (by omega) h jx mx he)
              | (have hlt : ltp F m o l = false := (by unfold ltp; rw [decide_eq_false hc59, decide_eq_false hc65]; simp); have hb0 : badL F (S 0) m o p q l = false := (by unfold badL; rw [hlt, Bool.false_and]); rw [hlt, hb0, Bool.false_or, Bool.false_or] at he; exact ih (l + 1) a _ _ _ _ _ _ _ (by omega) h jx mx he)
              | (have hlt : ltp F m o l = false := (by unfold ltp; rw [decide_eq_false hc59, decide_eq_false hc71]; simp); have hb0 : badL F (S 0) m o p q l = false := (by unfold badL; rw [hlt, Bool.false_and]); rw [hlt, hb0, Bool.false_or, Bool.false_or] at he; exact ih (l + 1) a _ _ _ _ _ _ _ (by omega) h jx mx he)
          · (try rw [nI_eq (by omega) (by omega)] at hc65)
            refine v_iload_8 dX12_areLovers_68 ?_
            refine v_iload_1 dX12_areLovers_70 ?_
            refine v_icmp_eq (tgt := 77) dX12_areLovers_71 (by decide) (fun hc71 => ?_) (fun hc71 => ?_)
            · (try rw [nI_eq (by omega) (by omega)] at hc71)
              first
                | exact cut _ _ (by unfold ltp; rw [decide_eq_true hl, decide_eq_true hc53, decide_eq_true hc59]; rfl)
                | exact cut _ _ (by unfold ltp; rw [decide_eq_true hl, decide_eq_true hc65, decide_eq_true hc71]; simp)
            · (try rw [nI_eq (by omega) (by omega)] at hc71)
              refine v_goto (tgt := 157) dX12_areLovers_74 (by decide) ?_
              refine v_iinc_6 (v := 1) rfl dX12_areLovers_157 (by decide) ?_
              rw [show nI l + 1 = nI (l + 1) from nI_1 l]
              refine v_goto (tgt := 6) dX12_areLovers_160 (by decide) ?_
              first
                | (have hlt : ltp F m o l = false := (by unfold ltp; rw [decide_eq_false hc53, decide_eq_false hc65]; simp); have hb0 : badL F (S 0) m o p q l = false := (by unfold badL; rw [hlt, Bool.false_and]); rw [hlt, hb0, Bool.false_or, Bool.false_or] at he; exact ih (l + 1) a _ _ _ _ _ _ _ (by omega) h jx mx he)
                | (have hlt : ltp F m o l = false := (by unfold ltp; rw [decide_eq_false hc53, decide_eq_false hc71]; simp); have hb0 : badL F (S 0) m o p q l = false := (by unfold badL; rw [hlt, Bool.false_and]); rw [hlt, hb0, Bool.false_or, Bool.false_or] at he; exact ih (l + 1) a _ _ _ _ _ _ _ (by omega) h jx mx he)
                | (have hlt : ltp F m o l = false := (by unfold ltp; rw [decide_eq_false hc59, decide_eq_false hc65]; simp); have hb0 : badL F (S 0) m o p q l = false := (by unfold badL; rw [hlt, Bool.false_and]); rw [hlt, hb0, Bool.false_or, Bool.false_or] at he; exact ih (l + 1) a _ _ _ _ _ _ _ (by omega) h jx mx he)
                | (have hlt : ltp F m o l = false := (by unfold ltp; rw [decide_eq_false hc59, decide_eq_false hc71]; simp); have hb0 : badL F (S 0) m o p q l = false := (by unfold badL; rw [hlt, Bool.false_and]); rw [hlt, hb0, Bool.false_or, Bool.false_or] at he; exact ih (l + 1) a _ _ _ _ _ _ _ (by omega) h jx mx he)
        · (try rw [nI_eq (by omega) (by omega)] at hc53)
          refine v_iload_8 dX12_areLovers_56 ?_
          refine v_iload_2 dX12_areLovers_58 ?_
          refine v_icmp_eq (tgt := 77) dX12_areLovers_59 (by decide) (fun hc59 => ?_) (fun hc59 => ?_)
          · (try rw [nI_eq (by omega) (by omega)] at hc59)
            first
              | exact cut _ _ (by unfold ltp; rw [decide_eq_true hl, decide_eq_true hc53, decide_eq_true hc59]; rfl)
              | exact cut _ _ (by unfold ltp; rw [decide_eq_true hl, decide_eq_true hc65, decide_eq_true hc71]; simp)
          · (try rw [nI_eq (by omega) (by omega)] at hc59)
            refine v_iload_7 dX12_areLovers_62 ?_
            refine v_iload_2 dX12_areLovers_64 ?_
            refine v_icmp_ne (tgt := 157) dX12_areLovers_65 (by decide) (fun hc65 => ?_) (fun hc65 => ?_)
            · (try rw [nI_eq (by omega) (by omega)] at hc65)
              refine v_iinc_6 (v := 1) rfl dX12_areLovers_157 (by decide) ?_
              rw [show nI l + 1 = nI (l + 1) from nI_1 l]
              refine v_goto (tgt := 6) dX12_areLovers_160 (by decide) ?_
              first
                | (have hlt : ltp F m o l = false := (by unfold ltp; rw [decide_eq_false hc53, decide_eq_false hc65]; simp); have hb0 : badL F (S 0) m o p q l = false := (by unfold badL; rw [hlt, Bool.false_and]); rw [hlt, hb0, Bool.false_or, Bool.false_or] at he; exact ih (l + 1) a _ _ _ _ _ _ _ (by omega) h jx mx he)
                | (have hlt : ltp F m o l = false := (by unfold ltp; rw [decide_eq_false hc53, decide_eq_false hc71]; simp); have hb0 : badL F (S 0) m o p q l = false := (by unfold badL; rw [hlt, Bool.false_and]); rw [hlt, hb0, Bool.false_or, Bool.false_or] at he; exact ih (l + 1) a _ _ _ _ _ _ _ (by omega) h jx mx he)
                | (have hlt : ltp F m o l = false := (by unfold ltp; rw [decide_eq_false hc59, decide_eq_false hc65]; simp); have hb0 : badL F (S 0) m o p q l = false := (by unfold badL; rw [hlt, Bool.false_and]); rw [hlt, hb0, Bool.false_or, Bool.false_or] at he; exact ih (l + 1) a _ _ _ _ _ _ _ (by omega) h jx mx he)
                | (have hlt : ltp F m o l = false := (by unfold ltp; rw [decide_eq_false hc59, decide_eq_false hc71]; simp); have hb0 : badL F (S 0) m o p q l = false := (by unfold badL; rw [hlt, Bool.false_and]); rw [hlt, hb0, Bool.false_or, Bool.false_or] at he; exact ih (l + 1) a _ _ _ _ _ _ _ (by omega) h jx mx he)
            · (try rw [nI_eq (by omega) (by omega)] at hc65)
              refine v_iload_8 dX12_areLovers_68 ?_
              refine v_iload_1 dX12_areLovers_70 ?_
              refine v_icmp_eq (tgt := 77) dX12_areLovers_71 (by decide) (fun hc71 => ?_) (fun hc71 => ?_)
              · (try rw [nI_eq (by omega) (by omega)] at hc71)
                first
                  | exact cut _ _ (by unfold ltp; rw [decide_eq_true hl, decide_eq_true hc53, decide_eq_true hc59]; rfl)
                  | exact cut _ _ (by unfold ltp; rw [decide_eq_true hl, decide_eq_true hc65, decide_eq_true hc71]; simp)
              · (try rw [nI_eq (by omega) (by omega)] at hc71)
                refine v_goto (tgt := 157) dX12_areLovers_74 (by decide) ?_
                refine v_iinc_6 (v := 1) rfl dX12_areLovers_157 (by decide) ?_
                rw [show nI l + 1 = nI (l + 1) from nI_1 l]
                refine v_goto (tgt := 6) dX12_areLovers_160 (by decide) ?_
                first
                  | (have hlt : ltp F m o l = false := (by unfold ltp; rw [decide_eq_false hc53, decide_eq_false hc65]; simp); have hb0 : badL F (S 0) m o p q l = false := (by unfold badL; rw [hlt, Bool.false_and]); rw [hlt, hb0, Bool.false_or, Bool.false_or] at he; exact ih (l + 1) a _ _ _ _ _ _ _ (by omega) h jx mx he)
                  | (have hlt : ltp F m o l = false := (by unfold ltp; rw [decide_eq_false hc53, decide_eq_false hc71]; simp); have hb0 : badL F (S 0) m o p q l = false := (by unfold badL; rw [hlt, Bool.false_and]); rw [hlt, hb0, Bool.false_or, Bool.false_or] at he; exact ih (l + 1) a _ _ _ _ _ _ _ (by omega) h jx mx he)
                  | (have hlt : ltp F m o l = false := (by unfold ltp; rw [decide_eq_false hc59, decide_eq_false hc65]; simp); have hb0 : badL F (S 0) m o p q l = false := (by unfold badL; rw [hlt, Bool.false_and]); rw [hlt, hb0, Bool.false_or, Bool.false_or] at he; exact ih (l + 1) a _ _ _ _ _ _ _ (by omega) h jx mx he)
                  | (have hlt : ltp F m o l = false := (by unfold ltp; rw [decide_eq_false hc59, decide_eq_false hc71]; simp); have hb0 : badL F (S 0) m o p q l = false := (by unfold badL; rw [hlt, Bool.false_and]); rw [hlt, hb0, Bool.false_or, Bool.false_or] at he; exact ih (l + 1) a _ _ _ _ _ _ _ (by omega) h jx mx he)
  refine K.of (M := mX12_areLovers) (lv := [some (.ref (b + 157)), some (.int (nI m)), some (.int (nI o)), some (.int (nI p)), some (.int (nI q)), none, none, none, none, none, none, none]) (by decide) (Nat.le_of_ble_eq_true rfl) rfl ?_
  refine v_iconst (v := nI 0) dX12_areLovers_0 (by decide) ?_
  refine v_istore_5 rfl dX12_areLovers_1 ?_
  refine v_iconst (v := nI 0) dX12_areLovers_3 (by decide) ?_
  refine v_istore_6 rfl dX12_areLovers_4 ?_
  exact loop (F 6) 0 false I L _ _ _ _ _ (by omega) h0 (fun _ _ => rfl) (fun _ _ => rfl) rfl
end
