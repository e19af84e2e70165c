theorem dX12_mayWear_0 : decode cX12_mayWear 0 = .ok (.aload_n 0, 1) := by decide +kernel
theorem dX12_mayWear_1 : decode cX12_mayWear 1 = .ok (.iload_n 1, 1) := by decide +kernel
theorem dX12_mayWear_2 : decode cX12_mayWear 2 = .ok (.iload_n 2, 1) := by decide +kernel
theorem dX12_mayWear_3 : decode cX12_mayWear 3 = .ok (.invokevirtual 316, 3) := by decide +kernel
theorem dX12_mayWear_6 : decode cX12_mayWear 6 = .ok (.istore 5, 2) := by decide +kernel
theorem dX12_mayWear_8 : decode cX12_mayWear 8 = .ok (.iload 5, 2) := by decide +kernel
theorem dX12_mayWear_10 : decode cX12_mayWear 10 = .ok (.bipush (-2), 2) := by decide +kernel
theorem dX12_mayWear_12 : decode cX12_mayWear 12 = .ok (.if_icmp .eq 11, 3) := by decide +kernel
theorem dX12_mayWear_15 : decode cX12_mayWear 15 = .ok (.iload 5, 2) := by decide +kernel
theorem dX12_mayWear_17 : decode cX12_mayWear 17 = .ok (.iload_n 3, 1) := by decide +kernel
theorem dX12_mayWear_18 : decode cX12_mayWear 18 = .ok (.if_icmp .eq 5, 3) := by decide +kernel
theorem dX12_mayWear_21 : decode cX12_mayWear 21 = .ok (.iconst 0, 1) := by decide +kernel
theorem dX12_mayWear_22 : decode cX12_mayWear 22 = .ok (.ireturn, 1) := by decide +kernel
theorem dX12_mayWear_23 : decode cX12_mayWear 23 = .ok (.iconst 0, 1) := by decide +kernel
theorem dX12_mayWear_24 : decode cX12_mayWear 24 = .ok (.istore 6, 2) := by decide +kernel
theorem dX12_mayWear_26 : decode cX12_mayWear 26 = .ok (.iconst 1, 1) := by decide +kernel
theorem dX12_mayWear_27 : decode cX12_mayWear 27 = .ok (.istore 7, 2) := by decide +kernel
theorem dX12_mayWear_29 : decode cX12_mayWear 29 = .ok (.iconst 0, 1) := by decide +kernel
theorem dX12_mayWear_30 : decode cX12_mayWear 30 = .ok (.istore 8, 2) := by decide +kernel
theorem dX12_mayWear_32 : decode cX12_mayWear 32 = .ok (.iload 8, 2) := by decide +kernel
theorem dX12_mayWear_34 : decode cX12_mayWear 34 = .ok (.aload_n 0, 1) := by decide +kernel
theorem dX12_mayWear_35 : decode cX12_mayWear 35 = .ok (.getfield 20, 3) := by decide +kernel
theorem dX12_mayWear_38 : decode cX12_mayWear 38 = .ok (.iconst 5, 1) := by decide +kernel
theorem dX12_mayWear_39 : decode cX12_mayWear 39 = .ok (.iaload, 1) := by decide +kernel
theorem dX12_mayWear_40 : decode cX12_mayWear 40 = .ok (.if_icmp .ge 75, 3) := by decide +kernel
theorem dX12_mayWear_43 : decode cX12_mayWear 43 = .ok (.iload 4, 2) := by decide +kernel
theorem dX12_mayWear_45 : decode cX12_mayWear 45 = .ok (.iload 8, 2) := by decide +kernel
theorem dX12_mayWear_47 : decode cX12_mayWear 47 = .ok (.invokestatic 158, 3) := by decide +kernel
theorem dX12_mayWear_50 : decode cX12_mayWear 50 = .ok (.ifCond .eq 59, 3) := by decide +kernel
theorem dX12_mayWear_53 : decode cX12_mayWear 53 = .ok (.aload_n 0, 1) := by decide +kernel
theorem dX12_mayWear_54 : decode cX12_mayWear 54 = .ok (.iload 8, 2) := by decide +kernel
theorem dX12_mayWear_56 : decode cX12_mayWear 56 = .ok (.iconst 0, 1) := by decide +kernel
theorem dX12_mayWear_57 : decode cX12_mayWear 57 = .ok (.invokevirtual 360, 3) := by decide +kernel
theorem dX12_mayWear_60 : decode cX12_mayWear 60 = .ok (.iload_n 1, 1) := by decide +kernel
theorem dX12_mayWear_61 : decode cX12_mayWear 61 = .ok (.if_icmp .ne 48, 3) := by decide +kernel
theorem dX12_mayWear_64 : decode cX12_mayWear 64 = .ok (.aload_n 0, 1) := by decide +kernel
theorem dX12_mayWear_65 : decode cX12_mayWear 65 = .ok (.iload 8, 2) := by decide +kernel
theorem dX12_mayWear_67 : decode cX12_mayWear 67 = .ok (.iconst 1, 1) := by decide +kernel
theorem dX12_mayWear_68 : decode cX12_mayWear 68 = .ok (.invokevirtual 360, 3) := by decide +kernel
theorem dX12_mayWear_71 : decode cX12_mayWear 71 = .ok (.iload_n 2, 1) := by decide +kernel
theorem dX12_mayWear_72 : decode cX12_mayWear 72 = .ok (.if_icmp .eq 6, 3) := by decide +kernel
theorem dX12_mayWear_75 : decode cX12_mayWear 75 = .ok (.goto 34, 3) := by decide +kernel
theorem dX12_mayWear_78 : decode cX12_mayWear 78 = .ok (.iconst 1, 1) := by decide +kernel
theorem dX12_mayWear_79 : decode cX12_mayWear 79 = .ok (.istore 6, 2) := by decide +kernel
theorem dX12_mayWear_81 : decode cX12_mayWear 81 = .ok (.iload 7, 2) := by decide +kernel
theorem dX12_mayWear_83 : decode cX12_mayWear 83 = .ok (.ifCond .eq 23, 3) := by decide +kernel
theorem dX12_mayWear_86 : decode cX12_mayWear 86 = .ok (.iload_n 3, 1) := by decide +kernel
theorem dX12_mayWear_87 : decode cX12_mayWear 87 = .ok (.bipush (-2), 2) := by decide +kernel
theorem dX12_mayWear_89 : decode cX12_mayWear 89 = .ok (.if_icmp .eq 17, 3) := by decide +kernel
theorem dX12_mayWear_92 : decode cX12_mayWear 92 = .ok (.aload_n 0, 1) := by decide +kernel
theorem dX12_mayWear_93 : decode cX12_mayWear 93 = .ok (.iload 8, 2) := by decide +kernel
theorem dX12_mayWear_95 : decode cX12_mayWear 95 = .ok (.iload_n 3, 1) := by decide +kernel
theorem dX12_mayWear_96 : decode cX12_mayWear 96 = .ok (.invokevirtual 362, 3) := by decide +kernel
theorem dX12_mayWear_99 : decode cX12_mayWear 99 = .ok (.ifCond .eq 7, 3) := by decide +kernel
theorem dX12_mayWear_102 : decode cX12_mayWear 102 = .ok (.iconst 1, 1) := by decide +kernel
theorem dX12_mayWear_103 : decode cX12_mayWear 103 = .ok (.goto 4, 3) := by decide +kernel
theorem dX12_mayWear_106 : decode cX12_mayWear 106 = .ok (.iconst 0, 1) := by decide +kernel
theorem dX12_mayWear_107 : decode cX12_mayWear 107 = .ok (.istore 7, 2) := by decide +kernel
theorem dX12_mayWear_109 : decode cX12_mayWear 109 = .ok (.iinc 8 1, 3) := by decide +kernel
theorem dX12_mayWear_112 : decode cX12_mayWear 112 = .ok (.goto (-80), 3) := by decide +kernel
theorem dX12_mayWear_115 : decode cX12_mayWear 115 = .ok (.iload 5, 2) := by decide +kernel
theorem dX12_mayWear_117 : decode cX12_mayWear 117 = .ok (.bipush (-2), 2) := by decide +kernel
theorem dX12_mayWear_119 : decode cX12_mayWear 119 = .ok (.if_icmp .ne 16, 3) := by decide +kernel
theorem dX12_mayWear_122 : decode cX12_mayWear 122 = .ok (.iload_n 3, 1) := by decide +kernel
theorem dX12_mayWear_123 : decode cX12_mayWear 123 = .ok (.bipush (-2), 2) := by decide +kernel
theorem dX12_mayWear_125 : decode cX12_mayWear 125 = .ok (.if_icmp .eq 10, 3) := by decide +kernel
theorem dX12_mayWear_128 : decode cX12_mayWear 128 = .ok (.iload 6, 2) := by decide +kernel
theorem dX12_mayWear_130 : decode cX12_mayWear 130 = .ok (.ifCond .ne 5, 3) := by decide +kernel
theorem dX12_mayWear_133 : decode cX12_mayWear 133 = .ok (.iconst 0, 1) := by decide +kernel
theorem dX12_mayWear_134 : decode cX12_mayWear 134 = .ok (.ireturn, 1) := by decide +kernel
theorem dX12_mayWear_135 : decode cX12_mayWear 135 = .ok (.iload 7, 2) := by decide +kernel
theorem dX12_mayWear_137 : decode cX12_mayWear 137 = .ok (.ifCond .eq 25, 3) := by decide +kernel
theorem dX12_mayWear_140 : decode cX12_mayWear 140 = .ok (.iload_n 3, 1) := by decide +kernel
theorem dX12_mayWear_141 : decode cX12_mayWear 141 = .ok (.bipush (-2), 2) := by decide +kernel
theorem dX12_mayWear_143 : decode cX12_mayWear 143 = .ok (.if_icmp .eq 15, 3) := by decide +kernel
theorem dX12_mayWear_146 : decode cX12_mayWear 146 = .ok (.aload_n 0, 1) := by decide +kernel
theorem dX12_mayWear_147 : decode cX12_mayWear 147 = .ok (.getfield 20, 3) := by decide +kernel
theorem dX12_mayWear_150 : decode cX12_mayWear 150 = .ok (.iload_n 1, 1) := by decide +kernel
theorem dX12_mayWear_151 : decode cX12_mayWear 151 = .ok (.iload_n 3, 1) := by decide +kernel
theorem dX12_mayWear_152 : decode cX12_mayWear 152 = .ok (.invokestatic 296, 3) := by decide +kernel
theorem dX12_mayWear_155 : decode cX12_mayWear 155 = .ok (.ifCond .eq 7, 3) := by decide +kernel
theorem dX12_mayWear_158 : decode cX12_mayWear 158 = .ok (.iconst 1, 1) := by decide +kernel
theorem dX12_mayWear_159 : decode cX12_mayWear 159 = .ok (.goto 4, 3) := by decide +kernel
theorem dX12_mayWear_162 : decode cX12_mayWear 162 = .ok (.iconst 0, 1) := by decide +kernel
theorem dX12_mayWear_163 : decode cX12_mayWear 163 = .ok (.ireturn, 1) := by decide +kernel
theorem dX12_isTold_0 : decode cX12_isTold 0 = .ok (.iload_n 1, 1) := by decide +kernel
theorem dX12_isTold_1 : decode cX12_isTold 1 = .ok (.aload_n 0, 1) := by decide +kernel
theorem dX12_isTold_2 : decode cX12_isTold 2 = .ok (.getfield 365, 3) := by decide +kernel
theorem dX12_isTold_5 : decode cX12_isTold 5 = .ok (.if_icmp .ne 11, 3) := by decide +kernel
theorem dX12_isTold_8 : decode cX12_isTold 8 = .ok (.iload_n 2, 1) := by decide +kernel
theorem dX12_isTold_9 : decode cX12_isTold 9 = .ok (.aload_n 0, 1) := by decide +kernel
theorem dX12_isTold_10 : decode cX12_isTold 10 = .ok (.getfield 368, 3) := by decide +kernel
theorem dX12_isTold_13 : decode cX12_isTold 13 = .ok (.if_icmp .ne 23, 3) := by decide +kernel
theorem dX12_isTold_16 : decode cX12_isTold 16 = .ok (.iload_n 1, 1) := by decide +kernel
theorem dX12_isTold_17 : decode cX12_isTold 17 = .ok (.aload_n 0, 1) := by decide +kernel
theorem dX12_isTold_18 : decode cX12_isTold 18 = .ok (.getfield 371, 3) := by decide +kernel
theorem dX12_isTold_21 : decode cX12_isTold 21 = .ok (.if_icmp .ne 11, 3) := by decide +kernel
theorem dX12_isTold_24 : decode cX12_isTold 24 = .ok (.iload_n 2, 1) := by decide +kernel
theorem dX12_isTold_25 : decode cX12_isTold 25 = .ok (.aload_n 0, 1) := by decide +kernel
theorem dX12_isTold_26 : decode cX12_isTold 26 = .ok (.getfield 374, 3) := by decide +kernel
theorem dX12_isTold_29 : decode cX12_isTold 29 = .ok (.if_icmp .ne 7, 3) := by decide +kernel
theorem dX12_isTold_32 : decode cX12_isTold 32 = .ok (.iconst 1, 1) := by decide +kernel
theorem dX12_isTold_33 : decode cX12_isTold 33 = .ok (.goto 4, 3) := by decide +kernel
theorem dX12_isTold_36 : decode cX12_isTold 36 = .ok (.iconst 0, 1) := by decide +kernel
theorem dX12_isTold_37 : decode cX12_isTold 37 = .ok (.ireturn, 1) := by decide +kernel
theorem dX12_tellNone_0 : decode cX12_tellNone 0 = .ok (.aload_n 0, 1) := by decide +kernel
theorem dX12_tellNone_1 : decode cX12_tellNone 1 = .ok (.iconst (-1), 1) := by decide +kernel
theorem dX12_tellNone_2 : decode cX12_tellNone 2 = .ok (.putfield 365, 3) := by decide +kernel
theorem dX12_tellNone_5 : decode cX12_tellNone 5 = .ok (.aload_n 0, 1) := by decide +kernel
theorem dX12_tellNone_6 : decode cX12_tellNone 6 = .ok (.iconst (-1), 1) := by decide +kernel
theorem dX12_tellNone_7 : decode cX12_tellNone 7 = .ok (.putfield 371, 3) := by decide +kernel
theorem dX12_tellNone_10 : decode cX12_tellNone 10 = .ok (.return_, 1) := by decide +kernel
theorem dX12_countWearers_0 : decode cX12_countWearers 0 = .ok (.aload_n 0, 1) := by decide +kernel
theorem dX12_countWearers_1 : decode cX12_countWearers 1 = .ok (.getfield 20, 3) := by decide +kernel
theorem dX12_countWearers_4 : decode cX12_countWearers 4 = .ok (.iconst 2, 1) := by decide +kernel
theorem dX12_countWearers_5 : decode cX12_countWearers 5 = .ok (.iaload, 1) := by decide +kernel
theorem dX12_countWearers_6 : decode cX12_countWearers 6 = .ok (.istore_n 3, 1) := by decide +kernel
theorem dX12_countWearers_7 : decode cX12_countWearers 7 = .ok (.iconst 0, 1) := by decide +kernel
theorem dX12_countWearers_8 : decode cX12_countWearers 8 = .ok (.istore 4, 2) := by decide +kernel
theorem dX12_countWearers_10 : decode cX12_countWearers 10 = .ok (.iload 4, 2) := by decide +kernel
theorem dX12_countWearers_12 : decode cX12_countWearers 12 = .ok (.bipush 64, 2) := by decide +kernel
theorem dX12_countWearers_14 : decode cX12_countWearers 14 = .ok (.if_icmp .ge 22, 3) := by decide +kernel
theorem dX12_countWearers_17 : decode cX12_countWearers 17 = .ok (.aload_n 0, 1) := by decide +kernel
theorem dX12_countWearers_18 : decode cX12_countWearers 18 = .ok (.getfield 50, 3) := by decide +kernel
theorem dX12_countWearers_21 : decode cX12_countWearers 21 = .ok (.bipush 64, 2) := by decide +kernel
theorem dX12_countWearers_23 : decode cX12_countWearers 23 = .ok (.iload_n 3, 1) := by decide +kernel
theorem dX12_countWearers_24 : decode cX12_countWearers 24 = .ok (.imul, 1) := by decide +kernel
theorem dX12_countWearers_25 : decode cX12_countWearers 25 = .ok (.iload 4, 2) := by decide +kernel
theorem dX12_countWearers_27 : decode cX12_countWearers 27 = .ok (.iadd, 1) := by decide +kernel
theorem dX12_countWearers_28 : decode cX12_countWearers 28 = .ok (.lconst 1, 1) := by decide +kernel
theorem dX12_countWearers_29 : decode cX12_countWearers 29 = .ok (.lastore, 1) := by decide +kernel
theorem dX12_countWearers_30 : decode cX12_countWearers 30 = .ok (.iinc 4 1, 3) := by decide +kernel
theorem dX12_countWearers_33 : decode cX12_countWearers 33 = .ok (.goto (-23), 3) := by decide +kernel
theorem dX12_countWearers_36 : decode cX12_countWearers 36 = .ok (.iload_n 3, 1) := by decide +kernel
theorem dX12_countWearers_37 : decode cX12_countWearers 37 = .ok (.iconst 1, 1) := by decide +kernel
theorem dX12_countWearers_38 : decode cX12_countWearers 38 = .ok (.isub, 1) := by decide +kernel
theorem dX12_countWearers_39 : decode cX12_countWearers 39 = .ok (.istore 4, 2) := by decide +kernel
theorem dX12_countWearers_41 : decode cX12_countWearers 41 = .ok (.iload 4, 2) := by decide +kernel
theorem dX12_countWearers_43 : decode cX12_countWearers 43 = .ok (.ifCond .lt 226, 3) := by decide +kernel
theorem dX12_countWearers_46 : decode cX12_countWearers 46 = .ok (.aload_n 0, 1) := by decide +kernel
theorem dX12_countWearers_47 : decode cX12_countWearers 47 = .ok (.iload 4, 2) := by decide +kernel
theorem dX12_countWearers_49 : decode cX12_countWearers 49 = .ok (.iload_n 1, 1) := by decide +kernel
theorem dX12_countWearers_50 : decode cX12_countWearers 50 = .ok (.bipush (-2), 2) := by decide +kernel
theorem dX12_countWearers_52 : decode cX12_countWearers 52 = .ok (.iload_n 2, 1) := by decide +kernel
theorem dX12_countWearers_53 : decode cX12_countWearers 53 = .ok (.invokevirtual 377, 3) := by decide +kernel
theorem dX12_countWearers_56 : decode cX12_countWearers 56 = .ok (.ifCond .eq 18, 3) := by decide +kernel
theorem dX12_countWearers_59 : decode cX12_countWearers 59 = .ok (.aload_n 0, 1) := by decide +kernel
theorem dX12_countWearers_60 : decode cX12_countWearers 60 = .ok (.iload 4, 2) := by decide +kernel
theorem dX12_countWearers_62 : decode cX12_countWearers 62 = .ok (.bipush (-2), 2) := by decide +kernel
theorem dX12_countWearers_64 : decode cX12_countWearers 64 = .ok (.invokevirtual 381, 3) := by decide +kernel
theorem dX12_countWearers_67 : decode cX12_countWearers 67 = .ok (.ifCond .eq 7, 3) := by decide +kernel
theorem dX12_countWearers_70 : decode cX12_countWearers 70 = .ok (.iconst 1, 1) := by decide +kernel
theorem dX12_countWearers_71 : decode cX12_countWearers 71 = .ok (.goto 4, 3) := by decide +kernel
theorem dX12_countWearers_74 : decode cX12_countWearers 74 = .ok (.iconst 0, 1) := by decide +kernel
theorem dX12_countWearers_75 : decode cX12_countWearers 75 = .ok (.istore 5, 2) := by decide +kernel
theorem dX12_countWearers_77 : decode cX12_countWearers 77 = .ok (.iconst 0, 1) := by decide +kernel
theorem dX12_countWearers_78 : decode cX12_countWearers 78 = .ok (.istore 6, 2) := by decide +kernel
theorem dX12_countWearers_80 : decode cX12_countWearers 80 = .ok (.iconst 0, 1) := by decide +kernel
theorem dX12_countWearers_81 : decode cX12_countWearers 81 = .ok (.istore 7, 2) := by decide +kernel
theorem dX12_countWearers_83 : decode cX12_countWearers 83 = .ok (.iload 7, 2) := by decide +kernel
theorem dX12_countWearers_85 : decode cX12_countWearers 85 = .ok (.aload_n 0, 1) := by decide +kernel
theorem dX12_countWearers_86 : decode cX12_countWearers 86 = .ok (.getfield 20, 3) := by decide +kernel
theorem dX12_countWearers_89 : decode cX12_countWearers 89 = .ok (.iconst 3, 1) := by decide +kernel
theorem dX12_countWearers_90 : decode cX12_countWearers 90 = .ok (.iaload, 1) := by decide +kernel
theorem dX12_countWearers_91 : decode cX12_countWearers 91 = .ok (.if_icmp .ge 46, 3) := by decide +kernel
theorem dX12_countWearers_94 : decode cX12_countWearers 94 = .ok (.iload 6, 2) := by decide +kernel
theorem dX12_countWearers_96 : decode cX12_countWearers 96 = .ok (.aload_n 0, 1) := by decide +kernel
theorem dX12_countWearers_97 : decode cX12_countWearers 97 = .ok (.iload 4, 2) := by decide +kernel
theorem dX12_countWearers_99 : decode cX12_countWearers 99 = .ok (.iload_n 1, 1) := by decide +kernel
theorem dX12_countWearers_100 : decode cX12_countWearers 100 = .ok (.iload 7, 2) := by decide +kernel
theorem dX12_countWearers_102 : decode cX12_countWearers 102 = .ok (.iload_n 2, 1) := by decide +kernel
theorem dX12_countWearers_103 : decode cX12_countWearers 103 = .ok (.invokevirtual 377, 3) := by decide +kernel
theorem dX12_countWearers_106 : decode cX12_countWearers 106 = .ok (.ifCond .eq 21, 3) := by decide +kernel
theorem dX12_countWearers_109 : decode cX12_countWearers 109 = .ok (.aload_n 0, 1) := by decide +kernel
theorem dX12_countWearers_110 : decode cX12_countWearers 110 = .ok (.iload 4, 2) := by decide +kernel
theorem dX12_countWearers_112 : decode cX12_countWearers 112 = .ok (.iload 7, 2) := by decide +kernel
theorem dX12_countWearers_114 : decode cX12_countWearers 114 = .ok (.invokevirtual 381, 3) := by decide +kernel
theorem dX12_countWearers_117 : decode cX12_countWearers 117 = .ok (.ifCond .eq 10, 3) := by decide +kernel
theorem dX12_countWearers_120 : decode cX12_countWearers 120 = .ok (.iconst 1, 1) := by decide +kernel
theorem dX12_countWearers_121 : decode cX12_countWearers 121 = .ok (.iload 7, 2) := by decide +kernel
theorem dX12_countWearers_123 : decode cX12_countWearers 123 = .ok (.ishl, 1) := by decide +kernel
theorem dX12_countWearers_124 : decode cX12_countWearers 124 = .ok (.goto 4, 3) := by decide +kernel
theorem dX12_countWearers_127 : decode cX12_countWearers 127 = .ok (.iconst 0, 1) := by decide +kernel
theorem dX12_countWearers_128 : decode cX12_countWearers 128 = .ok (.ior, 1) := by decide +kernel
theorem dX12_countWearers_129 : decode cX12_countWearers 129 = .ok (.istore 6, 2) := by decide +kernel
theorem dX12_countWearers_131 : decode cX12_countWearers 131 = .ok (.iinc 7 1, 3) := by decide +kernel
theorem dX12_countWearers_134 : decode cX12_countWearers 134 = .ok (.goto (-51), 3) := by decide +kernel
theorem dX12_countWearers_137 : decode cX12_countWearers 137 = .ok (.iconst 0, 1) := by decide +kernel
theorem dX12_countWearers_138 : decode cX12_countWearers 138 = .ok (.istore 7, 2) := by decide +kernel
theorem dX12_countWearers_140 : decode cX12_countWearers 140 = .ok (.iload 7, 2) := by decide +kernel
theorem dX12_countWearers_142 : decode cX12_countWearers 142 = .ok (.bipush 64, 2) := by decide +kernel
theorem dX12_countWearers_144 : decode cX12_countWearers 144 = .ok (.if_icmp .ge 119, 3) := by decide +kernel
theorem dX12_countWearers_147 : decode cX12_countWearers 147 = .ok (.iload 5, 2) := by decide +kernel
theorem dX12_countWearers_149 : decode cX12_countWearers 149 = .ok (.ifCond .eq 21, 3) := by decide +kernel
theorem dX12_countWearers_152 : decode cX12_countWearers 152 = .ok (.aload_n 0, 1) := by decide +kernel
theorem dX12_countWearers_153 : decode cX12_countWearers 153 = .ok (.getfield 50, 3) := by decide +kernel
theorem dX12_countWearers_156 : decode cX12_countWearers 156 = .ok (.bipush 64, 2) := by decide +kernel
theorem dX12_countWearers_158 : decode cX12_countWearers 158 = .ok (.iload 4, 2) := by decide +kernel
theorem dX12_countWearers_160 : decode cX12_countWearers 160 = .ok (.iconst 1, 1) := by decide +kernel
theorem dX12_countWearers_161 : decode cX12_countWearers 161 = .ok (.iadd, 1) := by decide +kernel
theorem dX12_countWearers_162 : decode cX12_countWearers 162 = .ok (.imul, 1) := by decide +kernel
theorem dX12_countWearers_163 : decode cX12_countWearers 163 = .ok (.iload 7, 2) := by decide +kernel
theorem dX12_countWearers_165 : decode cX12_countWearers 165 = .ok (.iadd, 1) := by decide +kernel
theorem dX12_countWearers_166 : decode cX12_countWearers 166 = .ok (.laload, 1) := by decide +kernel
theorem dX12_countWearers_167 : decode cX12_countWearers 167 = .ok (.goto 4, 3) := by decide +kernel
theorem dX12_countWearers_170 : decode cX12_countWearers 170 = .ok (.lconst 0, 1) := by decide +kernel
theorem dX12_countWearers_171 : decode cX12_countWearers 171 = .ok (.lstore 8, 2) := by decide +kernel
theorem dX12_countWearers_173 : decode cX12_countWearers 173 = .ok (.iconst 0, 1) := by decide +kernel
theorem dX12_countWearers_174 : decode cX12_countWearers 174 = .ok (.istore 10, 2) := by decide +kernel
theorem dX12_countWearers_176 : decode cX12_countWearers 176 = .ok (.iload 10, 2) := by decide +kernel
theorem dX12_countWearers_178 : decode cX12_countWearers 178 = .ok (.aload_n 0, 1) := by decide +kernel
theorem dX12_countWearers_179 : decode cX12_countWearers 179 = .ok (.getfield 20, 3) := by decide +kernel
theorem dX12_countWearers_182 : decode cX12_countWearers 182 = .ok (.iconst 3, 1) := by decide +kernel
theorem dX12_countWearers_183 : decode cX12_countWearers 183 = .ok (.iaload, 1) := by decide +kernel
theorem dX12_countWearers_184 : decode cX12_countWearers 184 = .ok (.if_icmp .ge 58, 3) := by decide +kernel
theorem dX12_countWearers_187 : decode cX12_countWearers 187 = .ok (.lload 8, 2) := by decide +kernel
theorem dX12_countWearers_189 : decode cX12_countWearers 189 = .ok (.iload 6, 2) := by decide +kernel
theorem dX12_countWearers_191 : decode cX12_countWearers 191 = .ok (.iload 10, 2) := by decide +kernel
theorem dX12_countWearers_193 : decode cX12_countWearers 193 = .ok (.invokestatic 158, 3) := by decide +kernel
theorem dX12_countWearers_196 : decode cX12_countWearers 196 = .ok (.ifCond .eq 36, 3) := by decide +kernel
theorem dX12_countWearers_199 : decode cX12_countWearers 199 = .ok (.iload 7, 2) := by decide +kernel
theorem dX12_countWearers_201 : decode cX12_countWearers 201 = .ok (.iload 10, 2) := by decide +kernel
theorem dX12_countWearers_203 : decode cX12_countWearers 203 = .ok (.invokestatic 158, 3) := by decide +kernel
theorem dX12_countWearers_206 : decode cX12_countWearers 206 = .ok (.ifCond .ne 26, 3) := by decide +kernel
theorem dX12_countWearers_209 : decode cX12_countWearers 209 = .ok (.aload_n 0, 1) := by decide +kernel
theorem dX12_countWearers_210 : decode cX12_countWearers 210 = .ok (.getfield 50, 3) := by decide +kernel
theorem dX12_countWearers_213 : decode cX12_countWearers 213 = .ok (.bipush 64, 2) := by decide +kernel
theorem dX12_countWearers_215 : decode cX12_countWearers 215 = .ok (.iload 4, 2) := by decide +kernel
theorem dX12_countWearers_217 : decode cX12_countWearers 217 = .ok (.iconst 1, 1) := by decide +kernel
theorem dX12_countWearers_218 : decode cX12_countWearers 218 = .ok (.iadd, 1) := by decide +kernel
theorem dX12_countWearers_219 : decode cX12_countWearers 219 = .ok (.imul, 1) := by decide +kernel
theorem dX12_countWearers_220 : decode cX12_countWearers 220 = .ok (.iload 7, 2) := by decide +kernel
theorem dX12_countWearers_222 : decode cX12_countWearers 222 = .ok (.iconst 1, 1) := by decide +kernel
theorem dX12_countWearers_223 : decode cX12_countWearers 223 = .ok (.iload 10, 2) := by decide +kernel
theorem dX12_countWearers_225 : decode cX12_countWearers 225 = .ok (.ishl, 1) := by decide +kernel
theorem dX12_countWearers_226 : decode cX12_countWearers 226 = .ok (.ior, 1) := by decide +kernel
theorem dX12_countWearers_227 : decode cX12_countWearers 227 = .ok (.iadd, 1) := by decide +kernel
theorem dX12_countWearers_228 : decode cX12_countWearers 228 = .ok (.laload, 1) := by decide +kernel
theorem dX12_countWearers_229 : decode cX12_countWearers 229 = .ok (.goto 4, 3) := by decide +kernel
theorem dX12_countWearers_232 : decode cX12_countWearers 232 = .ok (.lconst 0, 1) := by decide +kernel
theorem dX12_countWearers_233 : decode cX12_countWearers 233 = .ok (.ladd, 1) := by decide +kernel
theorem dX12_countWearers_234 : decode cX12_countWearers 234 = .ok (.lstore 8, 2) := by decide +kernel
theorem dX12_countWearers_236 : decode cX12_countWearers 236 = .ok (.iinc 10 1, 3) := by decide +kernel
theorem dX12_countWearers_239 : decode cX12_countWearers 239 = .ok (.goto (-63), 3) := by decide +kernel
theorem dX12_countWearers_242 : decode cX12_countWearers 242 = .ok (.aload_n 0, 1) := by decide +kernel
theorem dX12_countWearers_243 : decode cX12_countWearers 243 = .ok (.getfield 50, 3) := by decide +kernel
theorem dX12_countWearers_246 : decode cX12_countWearers 246 = .ok (.bipush 64, 2) := by decide +kernel
theorem dX12_countWearers_248 : decode cX12_countWearers 248 = .ok (.iload 4, 2) := by decide +kernel
theorem dX12_countWearers_250 : decode cX12_countWearers 250 = .ok (.imul, 1) := by decide +kernel
theorem dX12_countWearers_251 : decode cX12_countWearers 251 = .ok (.iload 7, 2) := by decide +kernel
theorem dX12_countWearers_253 : decode cX12_countWearers 253 = .ok (.iadd, 1) := by decide +kernel
theorem dX12_countWearers_254 : decode cX12_countWearers 254 = .ok (.lload 8, 2) := by decide +kernel
theorem dX12_countWearers_256 : decode cX12_countWearers 256 = .ok (.lastore, 1) := by decide +kernel
theorem dX12_countWearers_257 : decode cX12_countWearers 257 = .ok (.iinc 7 1, 3) := by decide +kernel
theorem dX12_countWearers_260 : decode cX12_countWearers 260 = .ok (.goto (-120), 3) := by decide +kernel
theorem dX12_countWearers_263 : decode cX12_countWearers 263 = .ok (.iinc 4 (-1), 3) := by decide +kernel
theorem dX12_countWearers_266 : decode cX12_countWearers 266 = .ok (.goto (-225), 3) := by decide +kernel
theorem dX12_countWearers_269 : decode cX12_countWearers 269 = .ok (.aload_n 0, 1) := by decide +kernel
theorem dX12_countWearers_270 : decode cX12_countWearers 270 = .ok (.getfield 50, 3) := by decide +kernel
theorem dX12_countWearers_273 : decode cX12_countWearers 273 = .ok (.iconst 0, 1) := by decide +kernel
theorem dX12_countWearers_274 : decode cX12_countWearers 274 = .ok (.laload, 1) := by decide +kernel
theorem dX12_countWearers_275 : decode cX12_countWearers 275 = .ok (.lreturn, 1) := by decide +kernel
theorem dX12_areApart_0 : decode cX12_areApart 0 = .ok (.iconst 1, 1) := by decide +kernel
theorem dX12_areApart_1 : decode cX12_areApart 1 = .ok (.istore_n 2, 1) := by decide +kernel
theorem dX12_areApart_2 : decode cX12_areApart 2 = .ok (.iconst 0, 1) := by decide +kernel
theorem dX12_areApart_3 : decode cX12_areApart 3 = .ok (.istore_n 3, 1) := by decide +kernel
theorem dX12_areApart_4 : decode cX12_areApart 4 = .ok (.iload_n 3, 1) := by decide +kernel
theorem dX12_areApart_5 : decode cX12_areApart 5 = .ok (.aload_n 0, 1) := by decide +kernel
theorem dX12_areApart_6 : decode cX12_areApart 6 = .ok (.getfield 20, 3) := by decide +kernel
theorem dX12_areApart_9 : decode cX12_areApart 9 = .ok (.iconst 5, 1) := by decide +kernel
theorem dX12_areApart_10 : decode cX12_areApart 10 = .ok (.iaload, 1) := by decide +kernel
theorem dX12_areApart_11 : decode cX12_areApart 11 = .ok (.if_icmp .ge 129, 3) := by decide +kernel
theorem dX12_areApart_14 : decode cX12_areApart 14 = .ok (.iconst 0, 1) := by decide +kernel
theorem dX12_areApart_15 : decode cX12_areApart 15 = .ok (.istore 4, 2) := by decide +kernel
theorem dX12_areApart_17 : decode cX12_areApart 17 = .ok (.iload 4, 2) := by decide +kernel
theorem dX12_areApart_19 : decode cX12_areApart 19 = .ok (.iload_n 3, 1) := by decide +kernel
theorem dX12_areApart_20 : decode cX12_areApart 20 = .ok (.if_icmp .ge 114, 3) := by decide +kernel
theorem dX12_areApart_23 : decode cX12_areApart 23 = .ok (.iload_n 1, 1) := by decide +kernel
theorem dX12_areApart_24 : decode cX12_areApart 24 = .ok (.iload_n 3, 1) := by decide +kernel
theorem dX12_areApart_25 : decode cX12_areApart 25 = .ok (.invokestatic 158, 3) := by decide +kernel
theorem dX12_areApart_28 : decode cX12_areApart 28 = .ok (.ifCond .eq 64, 3) := by decide +kernel
theorem dX12_areApart_31 : decode cX12_areApart 31 = .ok (.iload_n 1, 1) := by decide +kernel
theorem dX12_areApart_32 : decode cX12_areApart 32 = .ok (.iload 4, 2) := by decide +kernel
theorem dX12_areApart_34 : decode cX12_areApart 34 = .ok (.invokestatic 158, 3) := by decide +kernel
theorem dX12_areApart_37 : decode cX12_areApart 37 = .ok (.ifCond .eq 55, 3) := by decide +kernel
theorem dX12_areApart_40 : decode cX12_areApart 40 = .ok (.aload_n 0, 1) := by decide +kernel
theorem dX12_areApart_41 : decode cX12_areApart 41 = .ok (.iload_n 3, 1) := by decide +kernel
theorem dX12_areApart_42 : decode cX12_areApart 42 = .ok (.iconst 0, 1) := by decide +kernel
theorem dX12_areApart_43 : decode cX12_areApart 43 = .ok (.invokevirtual 360, 3) := by decide +kernel
theorem dX12_areApart_46 : decode cX12_areApart 46 = .ok (.aload_n 0, 1) := by decide +kernel
theorem dX12_areApart_47 : decode cX12_areApart 47 = .ok (.iload 4, 2) := by decide +kernel
theorem dX12_areApart_49 : decode cX12_areApart 49 = .ok (.iconst 0, 1) := by decide +kernel
theorem dX12_areApart_50 : decode cX12_areApart 50 = .ok (.invokevirtual 360, 3) := by decide +kernel
theorem dX12_areApart_53 : decode cX12_areApart 53 = .ok (.if_icmp .ne 39, 3) := by decide +kernel
theorem dX12_areApart_56 : decode cX12_areApart 56 = .ok (.aload_n 0, 1) := by decide +kernel
theorem dX12_areApart_57 : decode cX12_areApart 57 = .ok (.iload_n 3, 1) := by decide +kernel
theorem dX12_areApart_58 : decode cX12_areApart 58 = .ok (.iconst 1, 1) := by decide +kernel
theorem dX12_areApart_59 : decode cX12_areApart 59 = .ok (.invokevirtual 360, 3) := by decide +kernel
theorem dX12_areApart_62 : decode cX12_areApart 62 = .ok (.aload_n 0, 1) := by decide +kernel
theorem dX12_areApart_63 : decode cX12_areApart 63 = .ok (.iload 4, 2) := by decide +kernel
theorem dX12_areApart_65 : decode cX12_areApart 65 = .ok (.iconst 1, 1) := by decide +kernel
theorem dX12_areApart_66 : decode cX12_areApart 66 = .ok (.invokevirtual 360, 3) := by decide +kernel
theorem dX12_areApart_69 : decode cX12_areApart 69 = .ok (.if_icmp .ne 23, 3) := by decide +kernel
theorem dX12_areApart_72 : decode cX12_areApart 72 = .ok (.aload_n 0, 1) := by decide +kernel
theorem dX12_areApart_73 : decode cX12_areApart 73 = .ok (.iload_n 3, 1) := by decide +kernel
theorem dX12_areApart_74 : decode cX12_areApart 74 = .ok (.iconst 2, 1) := by decide +kernel
theorem dX12_areApart_75 : decode cX12_areApart 75 = .ok (.invokevirtual 360, 3) := by decide +kernel
theorem dX12_areApart_78 : decode cX12_areApart 78 = .ok (.aload_n 0, 1) := by decide +kernel
theorem dX12_areApart_79 : decode cX12_areApart 79 = .ok (.iload 4, 2) := by decide +kernel
theorem dX12_areApart_81 : decode cX12_areApart 81 = .ok (.iconst 2, 1) := by decide +kernel
theorem dX12_areApart_82 : decode cX12_areApart 82 = .ok (.invokevirtual 360, 3) := by decide +kernel
theorem dX12_areApart_85 : decode cX12_areApart 85 = .ok (.if_icmp .ne 7, 3) := by decide +kernel
theorem dX12_areApart_88 : decode cX12_areApart 88 = .ok (.iconst 1, 1) := by decide +kernel
theorem dX12_areApart_89 : decode cX12_areApart 89 = .ok (.goto 4, 3) := by decide +kernel
theorem dX12_areApart_92 : decode cX12_areApart 92 = .ok (.iconst 0, 1) := by decide +kernel
theorem dX12_areApart_93 : decode cX12_areApart 93 = .ok (.istore 5, 2) := by decide +kernel
theorem dX12_areApart_95 : decode cX12_areApart 95 = .ok (.iload_n 2, 1) := by decide +kernel
theorem dX12_areApart_96 : decode cX12_areApart 96 = .ok (.ifCond .eq 30, 3) := by decide +kernel
theorem dX12_areApart_99 : decode cX12_areApart 99 = .ok (.iload 5, 2) := by decide +kernel
theorem dX12_areApart_101 : decode cX12_areApart 101 = .ok (.ifCond .eq 21, 3) := by decide +kernel
theorem dX12_areApart_104 : decode cX12_areApart 104 = .ok (.aload_n 0, 1) := by decide +kernel
theorem dX12_areApart_105 : decode cX12_areApart 105 = .ok (.getfield 20, 3) := by decide +kernel
theorem dX12_areApart_108 : decode cX12_areApart 108 = .ok (.bipush 8, 2) := by decide +kernel
theorem dX12_areApart_110 : decode cX12_areApart 110 = .ok (.aload_n 0, 1) := by decide +kernel
theorem dX12_areApart_111 : decode cX12_areApart 111 = .ok (.iload_n 3, 1) := by decide +kernel
theorem dX12_areApart_112 : decode cX12_areApart 112 = .ok (.iconst 0, 1) := by decide +kernel
theorem dX12_areApart_113 : decode cX12_areApart 113 = .ok (.invokevirtual 360, 3) := by decide +kernel
theorem dX12_areApart_116 : decode cX12_areApart 116 = .ok (.iadd, 1) := by decide +kernel
theorem dX12_areApart_117 : decode cX12_areApart 117 = .ok (.iaload, 1) := by decide +kernel
theorem dX12_areApart_118 : decode cX12_areApart 118 = .ok (.iconst 3, 1) := by decide +kernel
theorem dX12_areApart_119 : decode cX12_areApart 119 = .ok (.if_icmp .ne 7, 3) := by decide +kernel
theorem dX12_areApart_122 : decode cX12_areApart 122 = .ok (.iconst 1, 1) := by decide +kernel
theorem dX12_areApart_123 : decode cX12_areApart 123 = .ok (.goto 4, 3) := by decide +kernel
theorem dX12_areApart_126 : decode cX12_areApart 126 = .ok (.iconst 0, 1) := by decide +kernel
theorem dX12_areApart_127 : decode cX12_areApart 127 = .ok (.istore_n 2, 1) := by decide +kernel
theorem dX12_areApart_128 : decode cX12_areApart 128 = .ok (.iinc 4 1, 3) := by decide +kernel
theorem dX12_areApart_131 : decode cX12_areApart 131 = .ok (.goto (-114), 3) := by decide +kernel
theorem dX12_areApart_134 : decode cX12_areApart 134 = .ok (.iinc 3 1, 3) := by decide +kernel
theorem dX12_areApart_137 : decode cX12_areApart 137 = .ok (.goto (-133), 3) := by decide +kernel
theorem dX12_areApart_140 : decode cX12_areApart 140 = .ok (.iload_n 2, 1) := by decide +kernel
theorem dX12_areApart_141 : decode cX12_areApart 141 = .ok (.ireturn, 1) := by decide +kernel
theorem dX12_sightsOf_0 : decode cX12_sightsOf 0 = .ok (.iconst 0, 1) := by decide +kernel
theorem dX12_sightsOf_1 : decode cX12_sightsOf 1 = .ok (.istore_n 2, 1) := by decide +kernel
theorem dX12_sightsOf_2 : decode cX12_sightsOf 2 = .ok (.iconst 0, 1) := by decide +kernel
theorem dX12_sightsOf_3 : decode cX12_sightsOf 3 = .ok (.istore_n 3, 1) := by decide +kernel
theorem dX12_sightsOf_4 : decode cX12_sightsOf 4 = .ok (.iload_n 3, 1) := by decide +kernel
theorem dX12_sightsOf_5 : decode cX12_sightsOf 5 = .ok (.aload_n 0, 1) := by decide +kernel
theorem dX12_sightsOf_6 : decode cX12_sightsOf 6 = .ok (.getfield 20, 3) := by decide +kernel
theorem dX12_sightsOf_9 : decode cX12_sightsOf 9 = .ok (.iconst 5, 1) := by decide +kernel
theorem dX12_sightsOf_10 : decode cX12_sightsOf 10 = .ok (.iaload, 1) := by decide +kernel
theorem dX12_sightsOf_11 : decode cX12_sightsOf 11 = .ok (.if_icmp .ge 29, 3) := by decide +kernel
theorem dX12_sightsOf_14 : decode cX12_sightsOf 14 = .ok (.iload_n 2, 1) := by decide +kernel
theorem dX12_sightsOf_15 : decode cX12_sightsOf 15 = .ok (.aload_n 0, 1) := by decide +kernel
theorem dX12_sightsOf_16 : decode cX12_sightsOf 16 = .ok (.iload_n 3, 1) := by decide +kernel
theorem dX12_sightsOf_17 : decode cX12_sightsOf 17 = .ok (.iconst 1, 1) := by decide +kernel
theorem dX12_sightsOf_18 : decode cX12_sightsOf 18 = .ok (.invokevirtual 360, 3) := by decide +kernel
theorem dX12_sightsOf_21 : decode cX12_sightsOf 21 = .ok (.iload_n 1, 1) := by decide +kernel
theorem dX12_sightsOf_22 : decode cX12_sightsOf 22 = .ok (.if_icmp .ne 9, 3) := by decide +kernel
theorem dX12_sightsOf_25 : decode cX12_sightsOf 25 = .ok (.iconst 1, 1) := by decide +kernel
theorem dX12_sightsOf_26 : decode cX12_sightsOf 26 = .ok (.iload_n 3, 1) := by decide +kernel
theorem dX12_sightsOf_27 : decode cX12_sightsOf 27 = .ok (.ishl, 1) := by decide +kernel
theorem dX12_sightsOf_28 : decode cX12_sightsOf 28 = .ok (.goto 4, 3) := by decide +kernel
theorem dX12_sightsOf_31 : decode cX12_sightsOf 31 = .ok (.iconst 0, 1) := by decide +kernel
theorem dX12_sightsOf_32 : decode cX12_sightsOf 32 = .ok (.ior, 1) := by decide +kernel
theorem dX12_sightsOf_33 : decode cX12_sightsOf 33 = .ok (.istore_n 2, 1) := by decide +kernel
theorem dX12_sightsOf_34 : decode cX12_sightsOf 34 = .ok (.iinc 3 1, 3) := by decide +kernel
theorem dX12_sightsOf_37 : decode cX12_sightsOf 37 = .ok (.goto (-33), 3) := by decide +kernel
theorem dX12_sightsOf_40 : decode cX12_sightsOf 40 = .ok (.iload_n 2, 1) := by decide +kernel
theorem dX12_sightsOf_41 : decode cX12_sightsOf 41 = .ok (.ireturn, 1) := by decide +kernel
theorem dX12_findFalse_0 : decode cX12_findFalse 0 = .ok (.aload_n 0, 1) := by decide +kernel
theorem dX12_findFalse_1 : decode cX12_findFalse 1 = .ok (.invokevirtual 384, 3) := by decide +kernel
theorem dX12_findFalse_4 : decode cX12_findFalse 4 = .ok (.aload_n 0, 1) := by decide +kernel
theorem dX12_findFalse_5 : decode cX12_findFalse 5 = .ok (.iload_n 1, 1) := by decide +kernel
theorem dX12_findFalse_6 : decode cX12_findFalse 6 = .ok (.invokevirtual 387, 3) := by decide +kernel
theorem dX12_findFalse_9 : decode cX12_findFalse 9 = .ok (.istore_n 2, 1) := by decide +kernel
theorem dX12_findFalse_10 : decode cX12_findFalse 10 = .ok (.bipush (-2), 2) := by decide +kernel
theorem dX12_findFalse_12 : decode cX12_findFalse 12 = .ok (.istore_n 3, 1) := by decide +kernel
theorem dX12_findFalse_13 : decode cX12_findFalse 13 = .ok (.iconst 0, 1) := by decide +kernel
theorem dX12_findFalse_14 : decode cX12_findFalse 14 = .ok (.istore 4, 2) := by decide +kernel
theorem dX12_findFalse_16 : decode cX12_findFalse 16 = .ok (.iload 4, 2) := by decide +kernel
theorem dX12_findFalse_18 : decode cX12_findFalse 18 = .ok (.sipush 256, 3) := by decide +kernel
theorem dX12_findFalse_21 : decode cX12_findFalse 21 = .ok (.if_icmp .ge 71, 3) := by decide +kernel
theorem dX12_findFalse_24 : decode cX12_findFalse 24 = .ok (.iload 4, 2) := by decide +kernel
theorem dX12_findFalse_26 : decode cX12_findFalse 26 = .ok (.iload_n 2, 1) := by decide +kernel
theorem dX12_findFalse_27 : decode cX12_findFalse 27 = .ok (.iconst (-1), 1) := by decide +kernel
theorem dX12_findFalse_28 : decode cX12_findFalse 28 = .ok (.ixor, 1) := by decide +kernel
theorem dX12_findFalse_29 : decode cX12_findFalse 29 = .ok (.iand, 1) := by decide +kernel
theorem dX12_findFalse_30 : decode cX12_findFalse 30 = .ok (.ifCond .ne 56, 3) := by decide +kernel
theorem dX12_findFalse_33 : decode cX12_findFalse 33 = .ok (.iload_n 3, 1) := by decide +kernel
theorem dX12_findFalse_34 : decode cX12_findFalse 34 = .ok (.bipush (-2), 2) := by decide +kernel
theorem dX12_findFalse_36 : decode cX12_findFalse 36 = .ok (.if_icmp .eq 18, 3) := by decide +kernel
theorem dX12_findFalse_39 : decode cX12_findFalse 39 = .ok (.iload 4, 2) := by decide +kernel
theorem dX12_findFalse_41 : decode cX12_findFalse 41 = .ok (.invokestatic 390, 3) := by decide +kernel
theorem dX12_findFalse_44 : decode cX12_findFalse 44 = .ok (.iload_n 3, 1) := by decide +kernel
theorem dX12_findFalse_45 : decode cX12_findFalse 45 = .ok (.invokestatic 390, 3) := by decide +kernel
theorem dX12_findFalse_48 : decode cX12_findFalse 48 = .ok (.if_icmp .lt 6, 3) := by decide +kernel
theorem dX12_findFalse_51 : decode cX12_findFalse 51 = .ok (.goto 35, 3) := by decide +kernel
theorem dX12_findFalse_54 : decode cX12_findFalse 54 = .ok (.aload_n 0, 1) := by decide +kernel
theorem dX12_findFalse_55 : decode cX12_findFalse 55 = .ok (.iload_n 2, 1) := by decide +kernel
theorem dX12_findFalse_56 : decode cX12_findFalse 56 = .ok (.iload 4, 2) := by decide +kernel
theorem dX12_findFalse_58 : decode cX12_findFalse 58 = .ok (.iconst (-1), 1) := by decide +kernel
theorem dX12_findFalse_59 : decode cX12_findFalse 59 = .ok (.ixor, 1) := by decide +kernel
theorem dX12_findFalse_60 : decode cX12_findFalse 60 = .ok (.iand, 1) := by decide +kernel
theorem dX12_findFalse_61 : decode cX12_findFalse 61 = .ok (.invokevirtual 393, 3) := by decide +kernel
theorem dX12_findFalse_64 : decode cX12_findFalse 64 = .ok (.ifCond .eq 22, 3) := by decide +kernel
theorem dX12_findFalse_67 : decode cX12_findFalse 67 = .ok (.aload_n 0, 1) := by decide +kernel
theorem dX12_findFalse_68 : decode cX12_findFalse 68 = .ok (.iload_n 1, 1) := by decide +kernel
theorem dX12_findFalse_69 : decode cX12_findFalse 69 = .ok (.iload_n 2, 1) := by decide +kernel
theorem dX12_findFalse_70 : decode cX12_findFalse 70 = .ok (.iload 4, 2) := by decide +kernel
theorem dX12_findFalse_72 : decode cX12_findFalse 72 = .ok (.iconst (-1), 1) := by decide +kernel
theorem dX12_findFalse_73 : decode cX12_findFalse 73 = .ok (.ixor, 1) := by decide +kernel
theorem dX12_findFalse_74 : decode cX12_findFalse 74 = .ok (.iand, 1) := by decide +kernel
theorem dX12_findFalse_75 : decode cX12_findFalse 75 = .ok (.invokevirtual 396, 3) := by decide +kernel
theorem dX12_findFalse_78 : decode cX12_findFalse 78 = .ok (.lconst 0, 1) := by decide +kernel
theorem dX12_findFalse_79 : decode cX12_findFalse 79 = .ok (.lcmp, 1) := by decide +kernel
theorem dX12_findFalse_80 : decode cX12_findFalse 80 = .ok (.ifCond .le 6, 3) := by decide +kernel
theorem dX12_findFalse_83 : decode cX12_findFalse 83 = .ok (.iload 4, 2) := by decide +kernel
theorem dX12_findFalse_85 : decode cX12_findFalse 85 = .ok (.istore_n 3, 1) := by decide +kernel
theorem dX12_findFalse_86 : decode cX12_findFalse 86 = .ok (.iinc 4 1, 3) := by decide +kernel
theorem dX12_findFalse_89 : decode cX12_findFalse 89 = .ok (.goto (-73), 3) := by decide +kernel
theorem dX12_findFalse_92 : decode cX12_findFalse 92 = .ok (.iload_n 3, 1) := by decide +kernel
theorem dX12_findFalse_93 : decode cX12_findFalse 93 = .ok (.ireturn, 1) := by decide +kernel
theorem dX12_trueOf_0 : decode cX12_trueOf 0 = .ok (.aload_n 0, 1) := by decide +kernel
theorem dX12_trueOf_1 : decode cX12_trueOf 1 = .ok (.iload_n 1, 1) := by decide +kernel
theorem dX12_trueOf_2 : decode cX12_trueOf 2 = .ok (.invokevirtual 400, 3) := by decide +kernel
theorem dX12_trueOf_5 : decode cX12_trueOf 5 = .ok (.istore_n 2, 1) := by decide +kernel
theorem dX12_trueOf_6 : decode cX12_trueOf 6 = .ok (.aload_n 0, 1) := by decide +kernel
theorem dX12_trueOf_7 : decode cX12_trueOf 7 = .ok (.iload_n 1, 1) := by decide +kernel
theorem dX12_trueOf_8 : decode cX12_trueOf 8 = .ok (.invokevirtual 387, 3) := by decide +kernel
theorem dX12_trueOf_11 : decode cX12_trueOf 11 = .ok (.iload_n 2, 1) := by decide +kernel
theorem dX12_trueOf_12 : decode cX12_trueOf 12 = .ok (.bipush (-2), 2) := by decide +kernel
theorem dX12_trueOf_14 : decode cX12_trueOf 14 = .ok (.if_icmp .ne 7, 3) := by decide +kernel
theorem dX12_trueOf_17 : decode cX12_trueOf 17 = .ok (.iconst 0, 1) := by decide +kernel
theorem dX12_trueOf_18 : decode cX12_trueOf 18 = .ok (.goto 4, 3) := by decide +kernel
theorem dX12_trueOf_21 : decode cX12_trueOf 21 = .ok (.iload_n 2, 1) := by decide +kernel
theorem dX12_trueOf_22 : decode cX12_trueOf 22 = .ok (.iconst (-1), 1) := by decide +kernel
theorem dX12_trueOf_23 : decode cX12_trueOf 23 = .ok (.ixor, 1) := by decide +kernel
theorem dX12_trueOf_24 : decode cX12_trueOf 24 = .ok (.iand, 1) := by decide +kernel
theorem dX12_trueOf_25 : decode cX12_trueOf 25 = .ok (.ireturn, 1) := by decide +kernel
theorem dX12_wearers_0 : decode cX12_wearers 0 = .ok (.aload_n 0, 1) := by decide +kernel
theorem dX12_wearers_1 : decode cX12_wearers 1 = .ok (.invokevirtual 173, 3) := by decide +kernel
theorem dX12_wearers_4 : decode cX12_wearers 4 = .ok (.aload_n 0, 1) := by decide +kernel
theorem dX12_wearers_5 : decode cX12_wearers 5 = .ok (.iload_n 1, 1) := by decide +kernel
theorem dX12_wearers_6 : decode cX12_wearers 6 = .ok (.invokevirtual 350, 3) := by decide +kernel
theorem dX12_wearers_9 : decode cX12_wearers 9 = .ok (.istore_n 2, 1) := by decide +kernel
theorem dX12_wearers_10 : decode cX12_wearers 10 = .ok (.iload_n 2, 1) := by decide +kernel
theorem dX12_wearers_11 : decode cX12_wearers 11 = .ok (.ifCond .eq 11, 3) := by decide +kernel
theorem dX12_wearers_14 : decode cX12_wearers 14 = .ok (.aload_n 0, 1) := by decide +kernel
theorem dX12_wearers_15 : decode cX12_wearers 15 = .ok (.iload_n 2, 1) := by decide +kernel
theorem dX12_wearers_16 : decode cX12_wearers 16 = .ok (.invokevirtual 176, 3) := by decide +kernel
theorem dX12_wearers_19 : decode cX12_wearers 19 = .ok (.goto 14, 3) := by decide +kernel
theorem dX12_wearers_22 : decode cX12_wearers 22 = .ok (.aload_n 0, 1) := by decide +kernel
theorem dX12_wearers_23 : decode cX12_wearers 23 = .ok (.iload_n 1, 1) := by decide +kernel
theorem dX12_wearers_24 : decode cX12_wearers 24 = .ok (.aload_n 0, 1) := by decide +kernel
theorem dX12_wearers_25 : decode cX12_wearers 25 = .ok (.iload_n 1, 1) := by decide +kernel
theorem dX12_wearers_26 : decode cX12_wearers 26 = .ok (.invokevirtual 403, 3) := by decide +kernel
theorem dX12_wearers_29 : decode cX12_wearers 29 = .ok (.invokevirtual 396, 3) := by decide +kernel
theorem dX12_wearers_32 : decode cX12_wearers 32 = .ok (.l2i, 1) := by decide +kernel
theorem dX12_wearers_33 : decode cX12_wearers 33 = .ok (.ireturn, 1) := by decide +kernel
theorem dX12_may_0 : decode cX12_may 0 = .ok (.aload_n 0, 1) := by decide +kernel
theorem dX12_may_1 : decode cX12_may 1 = .ok (.invokevirtual 173, 3) := by decide +kernel
theorem dX12_may_4 : decode cX12_may 4 = .ok (.aload_n 0, 1) := by decide +kernel
theorem dX12_may_5 : decode cX12_may 5 = .ok (.iload_n 2, 1) := by decide +kernel
theorem dX12_may_6 : decode cX12_may 6 = .ok (.invokevirtual 307, 3) := by decide +kernel
theorem dX12_may_9 : decode cX12_may 9 = .ok (.ifCond .ne 9, 3) := by decide +kernel
theorem dX12_may_12 : decode cX12_may 12 = .ok (.aload_n 0, 1) := by decide +kernel
theorem dX12_may_13 : decode cX12_may 13 = .ok (.iconst 1, 1) := by decide +kernel
theorem dX12_may_14 : decode cX12_may 14 = .ok (.invokevirtual 176, 3) := by decide +kernel
theorem dX12_may_17 : decode cX12_may 17 = .ok (.ireturn, 1) := by decide +kernel
theorem dX12_may_18 : decode cX12_may 18 = .ok (.aload_n 0, 1) := by decide +kernel
theorem dX12_may_19 : decode cX12_may 19 = .ok (.iload_n 1, 1) := by decide +kernel
theorem dX12_may_20 : decode cX12_may 20 = .ok (.invokevirtual 313, 3) := by decide +kernel
theorem dX12_may_23 : decode cX12_may 23 = .ok (.ifCond .ne 9, 3) := by decide +kernel
theorem dX12_may_26 : decode cX12_may 26 = .ok (.aload_n 0, 1) := by decide +kernel
theorem dX12_may_27 : decode cX12_may 27 = .ok (.iconst 2, 1) := by decide +kernel
theorem dX12_may_28 : decode cX12_may 28 = .ok (.invokevirtual 176, 3) := by decide +kernel
theorem dX12_may_31 : decode cX12_may 31 = .ok (.ireturn, 1) := by decide +kernel
theorem dX12_may_32 : decode cX12_may 32 = .ok (.aload_n 0, 1) := by decide +kernel
theorem dX12_may_33 : decode cX12_may 33 = .ok (.iload_n 1, 1) := by decide +kernel
theorem dX12_may_34 : decode cX12_may 34 = .ok (.invokevirtual 403, 3) := by decide +kernel
theorem dX12_may_37 : decode cX12_may 37 = .ok (.istore_n 3, 1) := by decide +kernel
theorem dX12_may_38 : decode cX12_may 38 = .ok (.iconst 0, 1) := by decide +kernel
theorem dX12_may_39 : decode cX12_may 39 = .ok (.istore 4, 2) := by decide +kernel
theorem dX12_may_41 : decode cX12_may 41 = .ok (.aload_n 0, 1) := by decide +kernel
theorem dX12_may_42 : decode cX12_may 42 = .ok (.iload_n 2, 1) := by decide +kernel
theorem dX12_may_43 : decode cX12_may 43 = .ok (.putfield 365, 3) := by decide +kernel
theorem dX12_may_46 : decode cX12_may 46 = .ok (.iconst 0, 1) := by decide +kernel
theorem dX12_may_47 : decode cX12_may 47 = .ok (.istore 5, 2) := by decide +kernel
theorem dX12_may_49 : decode cX12_may 49 = .ok (.iload 5, 2) := by decide +kernel
theorem dX12_may_51 : decode cX12_may 51 = .ok (.aload_n 0, 1) := by decide +kernel
theorem dX12_may_52 : decode cX12_may 52 = .ok (.getfield 20, 3) := by decide +kernel
theorem dX12_may_55 : decode cX12_may 55 = .ok (.iconst 3, 1) := by decide +kernel
theorem dX12_may_56 : decode cX12_may 56 = .ok (.iaload, 1) := by decide +kernel
theorem dX12_may_57 : decode cX12_may 57 = .ok (.if_icmp .ge 39, 3) := by decide +kernel
theorem dX12_may_60 : decode cX12_may 60 = .ok (.aload_n 0, 1) := by decide +kernel
theorem dX12_may_61 : decode cX12_may 61 = .ok (.iload 5, 2) := by decide +kernel
theorem dX12_may_63 : decode cX12_may 63 = .ok (.putfield 368, 3) := by decide +kernel
theorem dX12_may_66 : decode cX12_may 66 = .ok (.iload 4, 2) := by decide +kernel
theorem dX12_may_68 : decode cX12_may 68 = .ok (.aload_n 0, 1) := by decide +kernel
theorem dX12_may_69 : decode cX12_may 69 = .ok (.iload_n 1, 1) := by decide +kernel
theorem dX12_may_70 : decode cX12_may 70 = .ok (.iload_n 3, 1) := by decide +kernel
theorem dX12_may_71 : decode cX12_may 71 = .ok (.invokevirtual 396, 3) := by decide +kernel
theorem dX12_may_74 : decode cX12_may 74 = .ok (.lconst 0, 1) := by decide +kernel
theorem dX12_may_75 : decode cX12_may 75 = .ok (.lcmp, 1) := by decide +kernel
theorem dX12_may_76 : decode cX12_may 76 = .ok (.ifCond .le 10, 3) := by decide +kernel
theorem dX12_may_79 : decode cX12_may 79 = .ok (.iconst 1, 1) := by decide +kernel
theorem dX12_may_80 : decode cX12_may 80 = .ok (.iload 5, 2) := by decide +kernel
theorem dX12_may_82 : decode cX12_may 82 = .ok (.ishl, 1) := by decide +kernel
theorem dX12_may_83 : decode cX12_may 83 = .ok (.goto 4, 3) := by decide +kernel
theorem dX12_may_86 : decode cX12_may 86 = .ok (.iconst 0, 1) := by decide +kernel
theorem dX12_may_87 : decode cX12_may 87 = .ok (.ior, 1) := by decide +kernel
theorem dX12_may_88 : decode cX12_may 88 = .ok (.istore 4, 2) := by decide +kernel
theorem dX12_may_90 : decode cX12_may 90 = .ok (.iinc 5 1, 3) := by decide +kernel
theorem dX12_may_93 : decode cX12_may 93 = .ok (.goto (-44), 3) := by decide +kernel
theorem dX12_may_96 : decode cX12_may 96 = .ok (.aload_n 0, 1) := by decide +kernel
theorem dX12_may_97 : decode cX12_may 97 = .ok (.invokevirtual 384, 3) := by decide +kernel
theorem dX12_may_100 : decode cX12_may 100 = .ok (.iload 4, 2) := by decide +kernel
theorem dX12_may_102 : decode cX12_may 102 = .ok (.ireturn, 1) := by decide +kernel
theorem dX12_untrue_0 : decode cX12_untrue 0 = .ok (.aload_n 0, 1) := by decide +kernel
theorem dX12_untrue_1 : decode cX12_untrue 1 = .ok (.invokevirtual 173, 3) := by decide +kernel
theorem dX12_untrue_4 : decode cX12_untrue 4 = .ok (.aload_n 0, 1) := by decide +kernel
theorem dX12_untrue_5 : decode cX12_untrue 5 = .ok (.iload_n 1, 1) := by decide +kernel
theorem dX12_untrue_6 : decode cX12_untrue 6 = .ok (.invokevirtual 350, 3) := by decide +kernel
theorem dX12_untrue_9 : decode cX12_untrue 9 = .ok (.istore_n 2, 1) := by decide +kernel
theorem dX12_untrue_10 : decode cX12_untrue 10 = .ok (.iload_n 2, 1) := by decide +kernel
theorem dX12_untrue_11 : decode cX12_untrue 11 = .ok (.ifCond .eq 11, 3) := by decide +kernel
theorem dX12_untrue_14 : decode cX12_untrue 14 = .ok (.aload_n 0, 1) := by decide +kernel
theorem dX12_untrue_15 : decode cX12_untrue 15 = .ok (.iload_n 2, 1) := by decide +kernel
theorem dX12_untrue_16 : decode cX12_untrue 16 = .ok (.invokevirtual 176, 3) := by decide +kernel
theorem dX12_untrue_19 : decode cX12_untrue 19 = .ok (.goto 8, 3) := by decide +kernel
theorem dX12_untrue_22 : decode cX12_untrue 22 = .ok (.aload_n 0, 1) := by decide +kernel
theorem dX12_untrue_23 : decode cX12_untrue 23 = .ok (.iload_n 1, 1) := by decide +kernel
theorem dX12_untrue_24 : decode cX12_untrue 24 = .ok (.invokevirtual 400, 3) := by decide +kernel
theorem dX12_untrue_27 : decode cX12_untrue 27 = .ok (.ireturn, 1) := by decide +kernel
def rel3 (F : bkF) (d r m s : Nat) : Bool := r.testBit s && decide (F (128 + 5 * s) = m) && decide (F (129 + 5 * s) = d)
def anyk (F : bkF) (d r m : Nat) : Nat → Bool
  | 0 => false
  | s + 1 => if rel3 F d r m s = true then true else anyk F d r m s
def okk (F : bkF) (d r m : Nat) (op : Option Nat) : Nat → Bool
  | 0 => true
  | s + 1 => if rel3 F d r m s = true then (okk F d r m op s && (match op with | none => false | some p => resF F s p)) else okk F d r m op s
theorem okk_none {F : bkF} {d r m : Nat} : ∀ k, okk F d r m none k = !anyk F d r m k
  | 0 => rfl
  | s + 1 => by
    show (if rel3 F d r m s = true then (okk F d r m none s && false) else okk F d r m none s) = !(if rel3 F d r m s = true then true else anyk F d r m s)
    rw [okk_none s]; split <;> simp
theorem rel_day {F : bkF} {d r m s : Nat} (h : r.testBit s = true → F (129 + 5 * s) = d) : rel3 F d r m s = (r.testBit s && decide (F (128 + 5 * s) = m)) := by
  unfold rel3
  cases hb : r.testBit s with
  | false => simp
  | true => simp [h hb]
theorem pgk_any {F : bkF} {n : Nat} {g : lends} {d r m : Nat} : ∀ k, (∀ s, s < k → r.testBit s = true → F (129 + 5 * s) = d) → pgk F n g d r k m = ((lentP n g d m).isNone && !anyk F d r m k)
  | 0, _ => by simp [pgk, anyk]
  | s + 1, h => by
    have ih := pgk_any (n := n) (g := g) (m := m) s (fun z hz => h z (by omega))
    have e := rel_day (m := m) (h s (by omega))
    simp only [pgk, anyk]
    rw [e, ih]; split <;> simp
theorem cdk_ok {F : bkF} {n : Nat} {g : lends} {d r m p : Nat} (hp : p < F 3) : ∀ k, (∀ s, s < k → r.testBit s = true → F (129 + 5 * s) = d) → (cdk F n g d r k m).testBit p = ((wrb F n g d m).testBit p && okk F d r m (some p) k)
  | 0, _ => by simp [cdk, okk]
  | s + 1, h => by
    have ih := cdk_ok (n := n) (g := g) (m := m) hp s (fun z hz => h z (by omega))
    have e := rel_day (m := m) (h s (by omega))
    have e2 : (rsb F s).testBit p = resF F s p := by unfold rsb; rw [bup_bit]; simp [hp]
    simp only [cdk, okk]
    rw [e]; split
    · rw [Nat.testBit_and, ih, e2, Bool.and_assoc]
    · exact ih
def mwV (F : bkF) (n : Nat) (g : lends) (d r m : Nat) : Option Nat → Bool
  | none => pgk F n g d r (F 5) m
  | some p => !pgk F n g d r (F 5) m && (cdk F n g d r (F 5) m).testBit p
section
variable {b : Nat} {ad : Nat → Nat} {I J : HI} {L M : HL} {R : HR} {Q : QT} {F : bkF} {s : LSt} {a o : Nat}
theorem nIm2 {p : Nat} (h : p < 2 ^ 30) : ¬ nI p = (-2 : Int32) := fun q => by
  have h1 := nI_pos2 (i := p) (by omega)
  rw [q] at h1
  exact absurd h1 (by decide)
theorem l_mwN {m d r p : Nat} {w : Int32} (hR : RO R) (hr : RfI I F s) (hm : m < 2 ^ 31) (hd : d < 2 ^ 31) (hrr : r < 2 ^ 31) (hQ : VV yX12_mayWear cX12_mayWear 9 (some .boolean) 3 Q b ad 115 [some (.ref (b + 157)), some (.int (nI m)), some (.int (nI d)), some (.int (-2)), some (.int (nI r)), some (.int w), some (.int (bI (anyk F d r m (F 5)))), some (.int (bI (okk F d r m none (F 5)))), some (.int (nI (F 5)))] [] I L R) : VV yX12_mayWear cX12_mayWear 9 (some .boolean) 3 Q b ad 32 [some (.ref (b + 157)), some (.int (nI m)), some (.int (nI d)), some (.int (-2)), some (.int (nI r)), some (.int w), some (.int (bI false)), some (.int (bI true)), some (.int (nI 0))] [] I L R := by
  have hO := hr.1.2.2.1
  have o2 := hO.2.2.1
  have o3 := hO.2.2.2.1
  have o5 := hO.2.2.2.2.2.1
  have o0 := hO.1
  have hF := hr.1.1.2
  have hS := hr.2.1
  have hK := hr.2.2
  have loop : ∀ (j i : Nat) (a o : Bool), i + j = F 5 → anyk F d r m i = a → okk F d r m none i = o → VV yX12_mayWear cX12_mayWear 9 (some .boolean) 3 Q b ad 32 [some (.ref (b + 157)), some (.int (nI m)), some (.int (nI d)), some (.int (-2)), some (.int (nI r)), some (.int w), some (.int (bI a)), some (.int (bI o)), some (.int (nI i))] [] I L R := by
    intro j
    induction j with
    | zero =>
      intro i a o hi ha ho
      have hi : i = F 5 := hi
      subst hi
      subst ha; subst ho
      refine v_iload_8 dX12_mayWear_32 ?_
      refine v_aload_0 dX12_mayWear_34 ?_
      refine u_getR dX12_mayWear_35 gf_X12_20 (by first | assumption | rfl | exact led_1 (by assumption) | exact led_2 (by assumption) | exact bk_m (by assumption) (by first | assumption | omega) | exact bk_p (by assumption) (by first | assumption | omega) | exact bk_o (by assumption) (by first | assumption | omega) | exact bk_s (by assumption) (by first | assumption | omega) | exact bk_1 (by assumption) | exact bk_2 (by assumption) | exact bk_3 (by assumption) | exact bk_4 (by assumption) | exact bk_5 (by assumption) | exact bk_6 (by assumption) | exact bk_7 (by assumption) | exact bk_8 (by assumption) | exact sh_ring _ (by first | assumption | omega) | exact sh_imgs _ (by first | assumption | omega)) (ro_X12_15 (by assumption)) ?_
      refine v_iconst (v := nI 5) dX12_mayWear_38 (by decide) ?_
      refine u_iald dX12_mayWear_39 (by first | assumption | rfl | exact led_1 (by assumption) | exact led_2 (by assumption) | exact bk_m (by assumption) (by first | assumption | omega) | exact bk_p (by assumption) (by first | assumption | omega) | exact bk_o (by assumption) (by first | assumption | omega) | exact bk_s (by assumption) (by first | assumption | omega) | exact bk_1 (by assumption) | exact bk_2 (by assumption) | exact bk_3 (by assumption) | exact bk_4 (by assumption) | exact bk_5 (by assumption) | exact bk_6 (by assumption) | exact bk_7 (by assumption) | exact bk_8 (by assumption) | exact sh_ring _ (by first | assumption | omega) | exact sh_imgs _ (by first | assumption | omega)) (by first | with_reducible rfl | (simp only [nlit, nI_add, pk_mul]; with_reducible rfl) | rfl) (by first | assumption | omega) (by first | assumption | decide) ?_
      rw [hF 5 (by decide)]
      refine v_icmp_ge (tgt := 115) dX12_mayWear_40 (by decide) (fun hc40 => ?_) (fun hc40 => ?_)
      · (try rw [nI_leI (by omega) (by omega)] at hc40)
        exact hQ
      · exact absurd (nI_le (by omega) (by omega)) hc40
    | succ j ih =>
      intro i a o hij ha ho
      have hi : i < F 5 := by omega
      obtain ⟨y1, y2, y3, y4, y5, y6⟩ := fk_s hO hi
      refine v_iload_8 dX12_mayWear_32 ?_
      refine v_aload_0 dX12_mayWear_34 ?_
      refine u_getR dX12_mayWear_35 gf_X12_20 (by first | assumption | rfl | exact led_1 (by assumption) | exact led_2 (by assumption) | exact bk_m (by assumption) (by first | assumption | omega) | exact bk_p (by assumption) (by first | assumption | omega) | exact bk_o (by assumption) (by first | assumption | omega) | exact bk_s (by assumption) (by first | assumption | omega) | exact bk_1 (by assumption) | exact bk_2 (by assumption) | exact bk_3 (by assumption) | exact bk_4 (by assumption) | exact bk_5 (by assumption) | exact bk_6 (by assumption) | exact bk_7 (by assumption) | exact bk_8 (by assumption) | exact sh_ring _ (by first | assumption | omega) | exact sh_imgs _ (by first | assumption | omega)) (ro_X12_15 (by assumption)) ?_
      refine v_iconst (v := nI 5) dX12_mayWear_38 (by decide) ?_
      refine u_iald dX12_mayWear_39 (by first | assumption | rfl | exact led_1 (by assumption) | exact led_2 (by assumption) | exact bk_m (by assumption) (by first | assumption | omega) | exact bk_p (by assumption) (by first | assumption | omega) | exact bk_o (by assumption) (by first | assumption | omega) | exact bk_s (by assumption) (by first | assumption | omega) | exact bk_1 (by assumption) | exact bk_2 (by assumption) | exact bk_3 (by assumption) | exact bk_4 (by assumption) | exact bk_5 (by assumption) | exact bk_6 (by assumption) | exact bk_7 (by assumption) | exact bk_8 (by assumption) | exact sh_ring _ (by first | assumption | omega) | exact sh_imgs _ (by first | assumption | omega)) (by first | with_reducible rfl | (simp only [nlit, nI_add, pk_mul]; with_reducible rfl) | rfl) (by first | assumption | omega) (by first | assumption | decide) ?_
      rw [hF 5 (by decide)]
      refine v_icmp_ge (tgt := 115) dX12_mayWear_40 (by decide) (fun hc40 => ?_) (fun hc40 => ?_)
      · exact absurd hc40 (nI_ge (by omega) (by omega))
      · (try rw [nI_leI (by omega) (by omega)] at hc40)
        refine v_iload_4 dX12_mayWear_43 ?_
        refine v_iload_8 dX12_mayWear_45 ?_
        refine u_callS_2 dX12_mayWear_47 ml_X12_158 ms_X12_has (by decide) (Nat.le_of_ble_eq_true rfl) (c_X12_has (by omega) (by omega) ?_)
        refine v_if_eq (tgt := 109) dX12_mayWear_50 (by decide) (fun hc50 => ?_) (fun hc50 => ?_)
        · (first | rw [bI_0, Bool.not_eq_false] at hc50 | rw [bI_0] at hc50 | rw [show (0 : Int32) = nI 0 from rfl, nI_eq (by omega) (by omega)] at hc50 | skip)
          refine v_iinc_8 (v := 1) rfl dX12_mayWear_109 (by decide) ?_
          rw [show nI i + 1 = nI (i + 1) from nI_1 i]
          refine v_goto (tgt := 32) dX12_mayWear_112 (by decide) ?_
          first
            | (have hrel : rel3 F d r m i = false := (by unfold rel3; rw [hc50, Bool.false_and, Bool.false_and]); refine ih (i + 1) _ _ (by omega) ?_ ?_; (simp only [anyk, hrel, if_neg (show ¬ false = true by decide)]; exact ha); (simp only [okk, hrel, if_neg (show ¬ false = true by decide)]; exact ho))
            | (have hrel : rel3 F d r m i = false := (by unfold rel3; rw [decide_eq_false hc61, Bool.and_false, Bool.false_and]); refine ih (i + 1) _ _ (by omega) ?_ ?_; (simp only [anyk, hrel, if_neg (show ¬ false = true by decide)]; exact ha); (simp only [okk, hrel, if_neg (show ¬ false = true by decide)]; exact ho))
            | (have hrel : rel3 F d r m i = false := (by unfold rel3; rw [decide_eq_false hc72, Bool.and_false]); refine ih (i + 1) _ _ (by omega) ?_ ?_; (simp only [anyk, hrel, if_neg (show ¬ false = true by decide)]; exact ha); (simp only [okk, hrel, if_neg (show ¬ false = true by decide)]; exact ho))
            | (have hrel : rel3 F d r m i = true := (by unfold rel3; rw [hc50, decide_eq_true hc61, decide_eq_true hc72]; rfl); refine ih (i + 1) true false (by omega) ?_ ?_; (simp only [anyk, hrel, if_true]); (simp only [okk, hrel, if_true, Bool.and_false]))
            | skip
        · (first | rw [bI_0, Bool.not_eq_false] at hc50 | rw [bI_0] at hc50 | rw [show (0 : Int32) = nI 0 from rfl, nI_eq (by omega) (by omega)] at hc50 | skip)
          refine v_aload_0 dX12_mayWear_53 ?_
          refine v_iload_8 dX12_mayWear_54 ?_
          refine v_iconst (v := nI 0) dX12_mayWear_56 (by decide) ?_
          refine u_callV_2 dX12_mayWear_57 ml_X12_360 mv_X12_seen (by first | assumption | rfl | exact led_1 (by assumption) | exact led_2 (by assumption) | exact bk_m (by assumption) (by first | assumption | omega) | exact bk_p (by assumption) (by first | assumption | omega) | exact bk_o (by assumption) (by first | assumption | omega) | exact bk_s (by assumption) (by first | assumption | omega) | exact bk_1 (by assumption) | exact bk_2 (by assumption) | exact bk_3 (by assumption) | exact bk_4 (by assumption) | exact bk_5 (by assumption) | exact bk_6 (by assumption) | exact bk_7 (by assumption) | exact bk_8 (by assumption) | exact sh_ring _ (by first | assumption | omega) | exact sh_imgs _ (by first | assumption | omega)) (by decide) rfl (by decide) (Nat.le_of_ble_eq_true rfl) (c_X12_seen (k := 128 + 5 * i) hR hr.1.1 (by omega) (by decide) (by omega) ?_)
          refine v_iload_1 dX12_mayWear_60 ?_
          refine v_icmp_ne (tgt := 109) dX12_mayWear_61 (by decide) (fun hc61 => ?_) (fun hc61 => ?_)
          · (try rw [nI_eq (by omega) (by omega)] at hc61)
            refine v_iinc_8 (v := 1) rfl dX12_mayWear_109 (by decide) ?_
            rw [show nI i + 1 = nI (i + 1) from nI_1 i]
            refine v_goto (tgt := 32) dX12_mayWear_112 (by decide) ?_
            first
              | (have hrel : rel3 F d r m i = false := (by unfold rel3; rw [hc50, Bool.false_and, Bool.false_and]); refine ih (i + 1) _ _ (by omega) ?_ ?_; (simp only [anyk, hrel, if_neg (show ¬ false = true by decide)]; exact ha); (simp only [okk, hrel, if_neg (show ¬ false = true by decide)]; exact ho))
              | (have hrel : rel3 F d r m i = false := (by unfold rel3; rw [decide_eq_false hc61, Bool.and_false, Bool.false_and]); refine ih (i + 1) _ _ (by omega) ?_ ?_; (simp only [anyk, hrel, if_neg (show ¬ false = true by decide)]; exact ha); (simp only [okk, hrel, if_neg (show ¬ false = true by decide)]; exact ho))
              | (have hrel : rel3 F d r m i = false := (by unfold rel3; rw [decide_eq_false hc72, Bool.and_false]); refine ih (i + 1) _ _ (by omega) ?_ ?_; (simp only [anyk, hrel, if_neg (show ¬ false = true by decide)]; exact ha); (simp only [okk, hrel, if_neg (show ¬ false = true by decide)]; exact ho))
              | (have hrel : rel3 F d r m i = true := (by unfold rel3; rw [hc50, decide_eq_true hc61, decide_eq_true hc72]; rfl); refine ih (i + 1) true false (by omega) ?_ ?_; (simp only [anyk, hrel, if_true]); (simp only [okk, hrel, if_true, Bool.and_false]))
              | skip
          · (try rw [nI_eq (by omega) (by omega)] at hc61)
            refine v_aload_0 dX12_mayWear_64 ?_
            refine v_iload_8 dX12_mayWear_65 ?_
            refine v_iconst (v := nI 1) dX12_mayWear_67 (by decide) ?_
            refine u_callV_2 dX12_mayWear_68 ml_X12_360 mv_X12_seen (by first | assumption | rfl | exact led_1 (by assumption) | exact led_2 (by assumption) | exact bk_m (by assumption) (by first | assumption | omega) | exact bk_p (by assumption) (by first | assumption | omega) | exact bk_o (by assumption) (by first | assumption | omega) | exact bk_s (by assumption) (by first | assumption | omega) | exact bk_1 (by assumption) | exact bk_2 (by assumption) | exact bk_3 (by assumption) | exact bk_4 (by assumption) | exact bk_5 (by assumption) | exact bk_6 (by assumption) | exact bk_7 (by assumption) | exact bk_8 (by assumption) | exact sh_ring _ (by first | assumption | omega) | exact sh_imgs _ (by first | assumption | omega)) (by decide) rfl (by decide) (Nat.le_of_ble_eq_true rfl) (c_X12_seen (k := 129 + 5 * i) hR hr.1.1 (by omega) (by decide) (by omega) ?_)
            refine v_iload_2 dX12_mayWear_71 ?_
            refine v_icmp_eq (tgt := 78) dX12_mayWear_72 (by decide) (fun hc72 => ?_) (fun hc72 => ?_)
            · (try rw [nI_eq (by omega) (by omega)] at hc72)
              refine v_iconst (v := nI 1) dX12_mayWear_78 (by decide) ?_
              refine v_istore_6 rfl dX12_mayWear_79 ?_
              refine v_iload_7 dX12_mayWear_81 ?_
              refine v_if_eq (tgt := 106) dX12_mayWear_83 (by decide) (fun hc83 => ?_) (fun hc83 => ?_)
              · (first | rw [bI_0, Bool.not_eq_false] at hc83 | rw [bI_0] at hc83 | rw [show (0 : Int32) = nI 0 from rfl, nI_eq (by omega) (by omega)] at hc83 | skip)
                refine v_iconst (v := nI 0) dX12_mayWear_106 (by decide) ?_
                refine v_istore_7 rfl dX12_mayWear_107 ?_
                refine v_iinc_8 (v := 1) rfl dX12_mayWear_109 (by decide) ?_
                rw [show nI i + 1 = nI (i + 1) from nI_1 i]
                refine v_goto (tgt := 32) dX12_mayWear_112 (by decide) ?_
                first
                  | (have hrel : rel3 F d r m i = false := (by unfold rel3; rw [hc50, Bool.false_and, Bool.false_and]); refine ih (i + 1) _ _ (by omega) ?_ ?_; (simp only [anyk, hrel, if_neg (show ¬ false = true by decide)]; exact ha); (simp only [okk, hrel, if_neg (show ¬ false = true by decide)]; exact ho))
                  | (have hrel : rel3 F d r m i = false := (by unfold rel3; rw [decide_eq_false hc61, Bool.and_false, Bool.false_and]); refine ih (i + 1) _ _ (by omega) ?_ ?_; (simp only [anyk, hrel, if_neg (show ¬ false = true by decide)]; exact ha); (simp only [okk, hrel, if_neg (show ¬ false = true by decide)]; exact ho))
                  | (have hrel : rel3 F d r m i = false := (by unfold rel3; rw [decide_eq_false hc72, Bool.and_false]); refine ih (i + 1) _ _ (by omega) ?_ ?_; (simp only [anyk, hrel, if_neg (show ¬ false = true by decide)]; exact ha); (simp only [okk, hrel, if_neg (show ¬ false = true by decide)]; exact ho))
                  | (have hrel : rel3 F d r m i = true := (by unfold rel3; rw [hc50, decide_eq_true hc61, decide_eq_true hc72]; rfl); refine ih (i + 1) true false (by omega) ?_ ?_; (simp only [anyk, hrel, if_true]); (simp only [okk, hrel, if_true, Bool.and_false]))
                  | skip
              · (first | rw [bI_0, Bool.not_eq_false] at hc83 | rw [bI_0] at hc83 | rw [show (0 : Int32) = nI 0 from rfl, nI_eq (by omega) (by omega)] at hc83 | skip)
                refine v_iload_3 dX12_mayWear_86 ?_
                refine v_bipush (v := -2) dX12_mayWear_87 (by decide) ?_
                refine v_icmp_eq (tgt := 106) dX12_mayWear_89 (by decide) (fun hc89 => ?_) (fun hc89 => ?_)
                · (try rw [nI_eq (by omega) (by omega)] at hc89)
                  refine v_iconst (v := nI 0) dX12_mayWear_106 (by decide) ?_
                  refine v_istore_7 rfl dX12_mayWear_107 ?_
                  refine v_iinc_8 (v := 1) rfl dX12_mayWear_109 (by decide) ?_
                  rw [show nI i + 1 = nI (i + 1) from nI_1 i]
                  refine v_goto (tgt := 32) dX12_mayWear_112 (by decide) ?_
                  first
                    | (have hrel : rel3 F d r m i = false := (by unfold rel3; rw [hc50, Bool.false_and, Bool.false_and]); refine ih (i + 1) _ _ (by omega) ?_ ?_; (simp only [anyk, hrel, if_neg (show ¬ false = true by decide)]; exact ha); (simp only [okk, hrel, if_neg (show ¬ false = true by decide)]; exact ho))
                    | (have hrel : rel3 F d r m i = false := (by unfold rel3; rw [decide_eq_false hc61, Bool.and_false, Bool.false_and]); refine ih (i + 1) _ _ (by omega) ?_ ?_; (simp only [anyk, hrel, if_neg (show ¬ false = true by decide)]; exact ha); (simp only [okk, hrel, if_neg (show ¬ false = true by decide)]; exact ho))
                    | (have hrel : rel3 F d r m i = false := (by unfold rel3; rw [decide_eq_false hc72, Bool.and_false]); refine ih (i + 1) _ _ (by omega) ?_ ?_; (simp only [anyk, hrel, if_neg (show ¬ false = true by decide)]; exact ha); (simp only [okk, hrel, if_neg (show ¬ false = true by decide)]; exact ho))
                    | (have hrel : rel3 F d r m i = true := (by unfold rel3; rw [hc50, decide_eq_true hc61, decide_eq_true hc72]; rfl); refine ih (i + 1) true false (by omega) ?_ ?_; (simp only [anyk, hrel, if_true]); (simp only [okk, hrel, if_true, Bool.and_false]))
                    | skip
                · exact absurd rfl hc89
            · (try rw [nI_eq (by omega) (by omega)] at hc72)
              refine v_goto (tgt := 109) dX12_mayWear_75 (by decide) ?_
              refine v_iinc_8 (v := 1) rfl dX12_mayWear_109 (by decide) ?_
              rw [show nI i + 1 = nI (i + 1) from nI_1 i]
              refine v_goto (tgt := 32) dX12_mayWear_112 (by decide) ?_
              first
                | (have hrel : rel3 F d r m i = false := (by unfold rel3; rw [hc50, Bool.false_and, Bool.false_and]); refine ih (i + 1) _ _ (by omega) ?_ ?_; (simp only [anyk, hrel, if_neg (show ¬ false = true by decide)]; exact ha); (simp only [okk, hrel, if_neg (show ¬ false = true by decide)]; exact ho))
                | (have hrel : rel3 F d r m i = false := (by unfold rel3; rw [decide_eq_false hc61, Bool.and_false, Bool.false_and]); refine ih (i + 1) _ _ (by omega) ?_ ?_; (simp only [anyk, hrel, if_neg (show ¬ false = true by decide)]; exact ha); (simp only [okk, hrel, if_neg (show ¬ false = true by decide)]; exact ho))
                | (have hrel : rel3 F d r m i = false := (by unfold rel3; rw [decide_eq_false hc72, Bool.and_false]); refine ih (i + 1) _ _ (by omega) ?_ ?_; (simp only [anyk, hrel, if_neg (show ¬ false = true by decide)]; exact ha); (simp only [okk, hrel, if_neg (show ¬ false = true by decide)]; exact ho))
                | (have hrel : rel3 F d r m i = true := (by unfold rel3; rw [hc50, decide_eq_true hc61, decide_eq_true hc72]; rfl); refine ih (i + 1) true false (by omega) ?_ ?_; (simp only [anyk, hrel, if_true]); (simp only [okk, hrel, if_true, Bool.and_false]))
                | skip
  exact loop (F 5) 0 false true (by omega) rfl rfl
theorem l_mwS {m d r p : Nat} {w : Int32} (hR : RO R) (hr : RfI I F s) (hm : m < 2 ^ 31) (hd : d < 2 ^ 31) (hrr : r < 2 ^ 31) (hp : p < F 3) (hQ : VV yX12_mayWear cX12_mayWear 9 (some .boolean) 3 Q b ad 115 [some (.ref (b + 157)), some (.int (nI m)), some (.int (nI d)), some (.int (nI p)), some (.int (nI r)), some (.int w), some (.int (bI (anyk F d r m (F 5)))), some (.int (bI (okk F d r m (some p) (F 5)))), some (.int (nI (F 5)))] [] I L R) : VV yX12_mayWear cX12_mayWear 9 (some .boolean) 3 Q b ad 32 [some (.ref (b + 157)), some (.int (nI m)), some (.int (nI d)), some (.int (nI p)), some (.int (nI r)), some (.int w), some (.int (bI false)), some (.int (bI true)), some (.int (nI 0))] [] I L R := by
  have hO := hr.1.2.2.1
  have o2 := hO.2.2.1
  have o3 := hO.2.2.2.1
  have o5 := hO.2.2.2.2.2.1
  have o0 := hO.1
  have hF := hr.1.1.2
  have hS := hr.2.1
  have hK := hr.2.2
  have loop : ∀ (j i : Nat) (a o : Bool), i + j = F 5 → anyk F d r m i = a → okk F d r m (some p) i = o → VV yX12_mayWear cX12_mayWear 9 (some .boolean) 3 Q b ad 32 [some (.ref (b + 157)), some (.int (nI m)), some (.int (nI d)), some (.int (nI p)), some (.int (nI r)), some (.int w), some (.int (bI a)), some (.int (bI o)), some (.int (nI i))] [] I L R := by
    intro j
    induction j with
    | zero =>
      intro i a o hi ha ho
      have hi : i = F 5 := hi
      subst hi
      subst ha; subst ho
      refine v_iload_8 dX12_mayWear_32 ?_
      refine v_aload_0 dX12_mayWear_34 ?_
      refine u_getR dX12_mayWear_35 gf_X12_20 (by first | assumption | rfl | exact led_1 (by assumption) | exact led_2 (by assumption) | exact bk_m (by assumption) (by first | assumption | omega) | exact bk_p (by assumption) (by first | assumption | omega) | exact bk_o (by assumption) (by first | assumption | omega) | exact bk_s (by assumption) (by first | assumption | omega) | exact bk_1 (by assumption) | exact bk_2 (by assumption) | exact bk_3 (by assumption) | exact bk_4 (by assumption) | exact bk_5 (by assumption) | exact bk_6 (by assumption) | exact bk_7 (by assumption) | exact bk_8 (by assumption) | exact sh_ring _ (by first | assumption | omega) | exact sh_imgs _ (by first | assumption | omega)) (ro_X12_15 (by assumption)) ?_
      refine v_iconst (v := nI 5) dX12_mayWear_38 (by decide) ?_
      refine u_iald dX12_mayWear_39 (by first | assumption | rfl | exact led_1 (by assumption) | exact led_2 (by assumption) | exact bk_m (by assumption) (by first | assumption | omega) | exact bk_p (by assumption) (by first | assumption | omega) | exact bk_o (by assumption) (by first | assumption | omega) | exact bk_s (by assumption) (by first | assumption | omega) | exact bk_1 (by assumption) | exact bk_2 (by assumption) | exact bk_3 (by assumption) | exact bk_4 (by assumption) | exact bk_5 (by assumption) | exact bk_6 (by assumption) | exact bk_7 (by assumption) | exact bk_8 (by assumption) | exact sh_ring _ (by first | assumption | omega) | exact sh_imgs _ (by first | assumption | omega)) (by first | with_reducible rfl | (simp only [nlit, nI_add, pk_mul]; with_reducible rfl) | rfl) (by first | assumption | omega) (by first | assumption | decide) ?_
      rw [hF 5 (by decide)]
      refine v_icmp_ge (tgt := 115) dX12_mayWear_40 (by decide) (fun hc40 => ?_) (fun hc40 => ?_)
      · (try rw [nI_leI (by omega) (by omega)] at hc40)
        exact hQ
      · exact absurd (nI_le (by omega) (by omega)) hc40
    | succ j ih =>
      intro i a o hij ha ho
      have hi : i < F 5 := by omega
      obtain ⟨y1, y2, y3, y4, y5, y6⟩ := fk_s hO hi
      refine v_iload_8 dX12_mayWear_32 ?_
      refine v_aload_0 dX12_mayWear_34 ?_
      refine u_getR dX12_mayWear_35 gf_X12_20 (by first | assumption | rfl | exact led_1 (by assumption) | exact led_2 (by assumption) | exact bk_m (by assumption) (by first | assumption | omega) | exact bk_p (by assumption) (by first | assumption | omega) | exact bk_o (by assumption) (by first | assumption | omega) | exact bk_s (by assumption) (by first | assumption | omega) | exact bk_1 (by assumption) | exact bk_2 (by assumption) | exact bk_3 (by assumption) | exact bk_4 (by assumption) | exact bk_5 (by assumption) | exact bk_6 (by assumption) | exact bk_7 (by assumption) | exact bk_8 (by assumption) | exact sh_ring _ (by first | assumption | omega) | exact sh_imgs _ (by first | assumption | omega)) (ro_X12_15 (by assumption)) ?_
      refine v_iconst (v := nI 5) dX12_mayWear_38 (by decide) ?_
      refine u_iald dX12_mayWear_39 (by first | assumption | rfl | exact led_1 (by assumption) | exact led_2 (by assumption) | exact bk_m (by assumption) (by first | assumption | omega) | exact bk_p (by assumption) (by first | assumption | omega) | exact bk_o (by assumption) (by first | assumption | omega) | exact bk_s (by assumption) (by first | assumption | omega) | exact bk_1 (by assumption) | exact bk_2 (by assumption) | exact bk_3 (by assumption) | exact bk_4 (by assumption) | exact bk_5 (by assumption) | exact bk_6 (by assumption) | exact bk_7 (by assumption) | exact bk_8 (by assumption) | exact sh_ring _ (by first | assumption | omega) | exact sh_imgs _ (by first | assumption | omega)) (by first | with_reducible rfl | (simp only [nlit, nI_add, pk_mul]; with_reducible rfl) | rfl) (by first | assumption | omega) (by first | assumption | decide) ?_
      rw [hF 5 (by decide)]
      refine v_icmp_ge (tgt := 115) dX12_mayWear_40 (by decide) (fun hc40 => ?_) (fun hc40 => ?_)
      · exact absurd hc40 (nI_ge (by omega) (by omega))
      · (try rw [nI_leI (by omega) (by omega)] at hc40)
        refine v_iload_4 dX12_mayWear_43 ?_
        refine v_iload_8 dX12_mayWear_45 ?_
        refine u_callS_2 dX12_mayWear_47 ml_X12_158 ms_X12_has (by decide) (Nat.le_of_ble_eq_true rfl) (c_X12_has (by omega) (by omega) ?_)
        refine v_if_eq (tgt := 109) dX12_mayWear_50 (by decide) (fun hc50 => ?_) (fun hc50 => ?_)
        · (first | rw [bI_0, Bool.not_eq_false] at hc50 | rw [bI_0] at hc50 | rw [show (0 : Int32) = nI 0 from rfl, nI_eq (by omega) (by omega)] at hc50 | skip)
          refine v_iinc_8 (v := 1) rfl dX12_mayWear_109 (by decide) ?_
          rw [show nI i + 1 = nI (i + 1) from nI_1 i]
          refine v_goto (tgt := 32) dX12_mayWear_112 (by decide) ?_
          first
            | (have hrel : rel3 F d r m i = false := (by unfold rel3; rw [hc50, Bool.false_and, Bool.false_and]); refine ih (i + 1) _ _ (by omega) ?_ ?_; (simp only [anyk, hrel, if_neg (show ¬ false = true by decide)]; exact ha); (simp only [okk, hrel, if_neg (show ¬ false = true by decide)]; exact ho))
            | (have hrel : rel3 F d r m i = false := (by unfold rel3; rw [decide_eq_false hc61, Bool.and_false, Bool.false_and]); refine ih (i + 1) _ _ (by omega) ?_ ?_; (simp only [anyk, hrel, if_neg (show ¬ false = true by decide)]; exact ha); (simp only [okk, hrel, if_neg (show ¬ false = true by decide)]; exact ho))
            | (have hrel : rel3 F d r m i = false := (by unfold rel3; rw [decide_eq_false hc72, Bool.and_false]); refine ih (i + 1) _ _ (by omega) ?_ ?_; (simp only [anyk, hrel, if_neg (show ¬ false = true by decide)]; exact ha); (simp only [okk, hrel, if_neg (show ¬ false = true by decide)]; exact ho))
            | (have hrel : rel3 F d r m i = true := (by unfold rel3; rw [hc50, decide_eq_true hc61, decide_eq_true hc72]; rfl); refine ih (i + 1) true true (by omega) ?_ ?_; (simp only [anyk, hrel, if_true]); (simp only [okk, hrel, if_true]; rw [ho, hc83, hc99]; rfl))
            | (have hrel : rel3 F d r m i = true := (by unfold rel3; rw [hc50, decide_eq_true hc61, decide_eq_true hc72]; rfl); refine ih (i + 1) true false (by omega) ?_ ?_; (simp only [anyk, hrel, if_true]); (simp only [okk, hrel, if_true]; rw [ho, hc83, Bool.false_and]))
            | (have hrel : rel3 F d r m i = true := (by unfold rel3; rw [hc50, decide_eq_true hc61, decide_eq_true hc72]; rfl); refine ih (i + 1) true false (by omega) ?_ ?_; (simp only [anyk, hrel, if_true]); (simp only [okk, hrel, if_true]; rw [hc99, Bool.and_false]))
            | skip
        · (first | rw [bI_0, Bool.not_eq_false] at hc50 | rw [bI_0] at hc50 | rw [show (0 : Int32) = nI 0 from rfl, nI_eq (by omega) (by omega)] at hc50 | skip)
          refine v_aload_0 dX12_mayWear_53 ?_
          refine v_iload_8 dX12_mayWear_54 ?_
          refine v_iconst (v := nI 0) dX12_mayWear_56 (by decide) ?_
          refine u_callV_2 dX12_mayWear_57 ml_X12_360 mv_X12_seen (by first | assumption | rfl | exact led_1 (by assumption) | exact led_2 (by assumption) | exact bk_m (by assumption) (by first | assumption | omega) | exact bk_p (by assumption) (by first | assumption | omega) | exact bk_o (by assumption) (by first | assumption | omega) | exact bk_s (by assumption) (by first | assumption | omega) | exact bk_1 (by assumption) | exact bk_2 (by assumption) | exact bk_3 (by assumption) | exact bk_4 (by assumption) | exact bk_5 (by assumption) | exact bk_6 (by assumption) | exact bk_7 (by assumption) | exact bk_8 (by assumption) | exact sh_ring _ (by first | assumption | omega) | exact sh_imgs _ (by first | assumption | omega)) (by decide) rfl (by decide) (Nat.le_of_ble_eq_true rfl) (c_X12_seen (k := 128 + 5 * i) hR hr.1.1 (by omega) (by decide) (by omega) ?_)
          refine v_iload_1 dX12_mayWear_60 ?_
          refine v_icmp_ne (tgt := 109) dX12_mayWear_61 (by decide) (fun hc61 => ?_) (fun hc61 => ?_)
          · (try rw [nI_eq (by omega) (by omega)] at hc61)
            refine v_iinc_8 (v := 1) rfl dX12_mayWear_109 (by decide) ?_
            rw [show nI i + 1 = nI (i + 1) from nI_1 i]
            refine v_goto (tgt := 32) dX12_mayWear_112 (by decide) ?_
            first
              | (have hrel : rel3 F d r m i = false := (by unfold rel3; rw [hc50, Bool.false_and, Bool.false_and]); refine ih (i + 1) _ _ (by omega) ?_ ?_; (simp only [anyk, hrel, if_neg (show ¬ false = true by decide)]; exact ha); (simp only [okk, hrel, if_neg (show ¬ false = true by decide)]; exact ho))
              | (have hrel : rel3 F d r m i = false := (by unfold rel3; rw [decide_eq_false hc61, Bool.and_false, Bool.false_and]); refine ih (i + 1) _ _ (by omega) ?_ ?_; (simp only [anyk, hrel, if_neg (show ¬ false = true by decide)]; exact ha); (simp only [okk, hrel, if_neg (show ¬ false = true by decide)]; exact ho))
              | (have hrel : rel3 F d r m i = false := (by unfold rel3; rw [decide_eq_false hc72, Bool.and_false]); refine ih (i + 1) _ _ (by omega) ?_ ?_; (simp only [anyk, hrel, if_neg (show ¬ false = true by decide)]; exact ha); (simp only [okk, hrel, if_neg (show ¬ false = true by decide)]; exact ho))
              | (have hrel : rel3 F d r m i = true := (by unfold rel3; rw [hc50, decide_eq_true hc61, decide_eq_true hc72]; rfl); refine ih (i + 1) true true (by omega) ?_ ?_; (simp only [anyk, hrel, if_true]); (simp only [okk, hrel, if_true]; rw [ho, hc83, hc99]; rfl))
              | (have hrel : rel3 F d r m i = true := (by unfold rel3; rw [hc50, decide_eq_true hc61, decide_eq_true hc72]; rfl); refine ih (i + 1) true false (by omega) ?_ ?_; (simp only [anyk, hrel, if_true]); (simp only [okk, hrel, if_true]; rw [ho, hc83, Bool.false_and]))
              | (have hrel : rel3 F d r m i = true := (by unfold rel3; rw [hc50, decide_eq_true hc61, decide_eq_true hc72]; rfl); refine ih (i + 1) true false (by omega) ?_ ?_; (simp only [anyk, hrel, if_true]); (simp only [okk, hrel, if_true]; rw [hc99, Bool.and_false]))
              | skip
          · (try rw [nI_eq (by omega) (by omega)] at hc61)
            refine v_aload_0 dX12_mayWear_64 ?_
            refine v_iload_8 dX12_mayWear_65 ?_
            refine v_iconst (v := nI 1) dX12_mayWear_67 (by decide) ?_
            refine u_callV_2 dX12_mayWear_68 ml_X12_360 mv_X12_seen (by first | assumption | rfl | exact led_1 (by assumption) | exact led_2 (by assumption) | exact bk_m (by assumption) (by first | assumption | omega) | exact bk_p (by assumption) (by first | assumption | omega) | exact bk_o (by assumption) (by first | assumption | omega) | exact bk_s (by assumption) (by first | assumption | omega) | exact bk_1 (by assumption) | exact bk_2 (by assumption) | exact bk_3 (by assumption) | exact bk_4 (by assumption) | exact bk_5 (by assumption) | exact bk_6 (by assumption) | exact bk_7 (by assumption) | exact bk_8 (by assumption) | exact sh_ring _ (by first | assumption | omega) | exact sh_imgs _ (by first | assumption | omega)) (by decide) rfl (by decide) (Nat.le_of_ble_eq_true rfl) (c_X12_seen (k := 129 + 5 * i) hR hr.1.1 (by omega) (by decide) (by omega) ?_)
            refine v_iload_2 dX12_mayWear_71 ?_
            refine v_icmp_eq (tgt := 78) dX12_mayWear_72 (by decide) (fun hc72 => ?_) (fun hc72 => ?_)
            · (try rw [nI_eq (by omega) (by omega)] at hc72)
              refine v_iconst (v := nI 1) dX12_mayWear_78 (by decide) ?_
              refine v_istore_6 rfl dX12_mayWear_79 ?_
              refine v_iload_7 dX12_mayWear_81 ?_
              refine v_if_eq (tgt := 106) dX12_mayWear_83 (by decide) (fun hc83 => ?_) (fun hc83 => ?_)
              · (first | rw [bI_0, Bool.not_eq_false] at hc83 | rw [bI_0] at hc83 | rw [show (0 : Int32) = nI 0 from rfl, nI_eq (by omega) (by omega)] at hc83 | skip)
                refine v_iconst (v := nI 0) dX12_mayWear_106 (by decide) ?_
                refine v_istore_7 rfl dX12_mayWear_107 ?_
                refine v_iinc_8 (v := 1) rfl dX12_mayWear_109 (by decide) ?_
                rw [show nI i + 1 = nI (i + 1) from nI_1 i]
                refine v_goto (tgt := 32) dX12_mayWear_112 (by decide) ?_
                first
                  | (have hrel : rel3 F d r m i = false := (by unfold rel3; rw [hc50, Bool.false_and, Bool.false_and]); refine ih (i + 1) _ _ (by omega) ?_ ?_; (simp only [anyk, hrel, if_neg (show ¬ false = true by decide)]; exact ha); (simp only [okk, hrel, if_neg (show ¬ false = true by decide)]; exact ho))
                  | (have hrel : rel3 F d r m i = false := (by unfold rel3; rw [decide_eq_false hc61, Bool.and_false, Bool.false_and]); refine ih (i + 1) _ _ (by omega) ?_ ?_; (simp only [anyk, hrel, if_neg (show ¬ false = true by decide)]; exact ha); (simp only [okk, hrel, if_neg (show ¬ false = true by decide)]; exact ho))
                  | (have hrel : rel3 F d r m i = false := (by unfold rel3; rw [decide_eq_false hc72, Bool.and_false]); refine ih (i + 1) _ _ (by omega) ?_ ?_; (simp only [anyk, hrel, if_neg (show ¬ false = true by decide)]; exact ha); (simp only [okk, hrel, if_neg (show ¬ false = true by decide)]; exact ho))
                  | (have hrel : rel3 F d r m i = true := (by unfold rel3; rw [hc50, decide_eq_true hc61, decide_eq_true hc72]; rfl); refine ih (i + 1) true true (by omega) ?_ ?_; (simp only [anyk, hrel, if_true]); (simp only [okk, hrel, if_true]; rw [ho, hc83, hc99]; rfl))
                  | (have hrel : rel3 F d r m i = true := (by unfold rel3; rw [hc50, decide_eq_true hc61, decide_eq_true hc72]; rfl); refine ih (i + 1) true false (by omega) ?_ ?_; (simp only [anyk, hrel, if_true]); (simp only [okk, hrel, if_true]; rw [ho, hc83, Bool.false_and]))
                  | (have hrel : rel3 F d r m i = true := (by unfold rel3; rw [hc50, decide_eq_true hc61, decide_eq_true hc72]; rfl); refine ih (i + 1) true false (by omega) ?_ ?_; (simp only [anyk, hrel, if_true]); (simp only [okk, hrel, if_true]; rw [hc99, Bool.and_false]))
                  | skip
              · (first | rw [bI_0, Bool.not_eq_false] at hc83 | rw [bI_0] at hc83 | rw [show (0 : Int32) = nI 0 from rfl, nI_eq (by omega) (by omega)] at hc83 | skip)
                refine v_iload_3 dX12_mayWear_86 ?_
                refine v_bipush (v := -2) dX12_mayWear_87 (by decide) ?_
                refine v_icmp_eq (tgt := 106) dX12_mayWear_89 (by decide) (fun hc89 => ?_) (fun hc89 => ?_)
                · exact absurd hc89 (nIm2 (by omega))
                · (try rw [nI_eq (by omega) (by omega)] at hc89)
                  refine v_aload_0 dX12_mayWear_92 ?_
                  refine v_iload_8 dX12_mayWear_93 ?_
                  refine v_iload_3 dX12_mayWear_95 ?_
                  refine u_callV_2 dX12_mayWear_96 ml_X12_362 mv_X12_doesAgree (by first | assumption | rfl | exact led_1 (by assumption) | exact led_2 (by assumption) | exact bk_m (by assumption) (by first | assumption | omega) | exact bk_p (by assumption) (by first | assumption | omega) | exact bk_o (by assumption) (by first | assumption | omega) | exact bk_s (by assumption) (by first | assumption | omega) | exact bk_1 (by assumption) | exact bk_2 (by assumption) | exact bk_3 (by assumption) | exact bk_4 (by assumption) | exact bk_5 (by assumption) | exact bk_6 (by assumption) | exact bk_7 (by assumption) | exact bk_8 (by assumption) | exact sh_ring _ (by first | assumption | omega) | exact sh_imgs _ (by first | assumption | omega)) (by decide) rfl (by decide) (Nat.le_of_ble_eq_true rfl) (c_X12_doesAgree hR hr hi hp ?_)
                  refine v_if_eq (tgt := 106) dX12_mayWear_99 (by decide) (fun hc99 => ?_) (fun hc99 => ?_)
                  · (first | rw [bI_0, Bool.not_eq_false] at hc99 | rw [bI_0] at hc99 | rw [show (0 : Int32) = nI 0 from rfl, nI_eq (by omega) (by omega)] at hc99 | skip)
                    refine v_iconst (v := nI 0) dX12_mayWear_106 (by decide) ?_
                    refine v_istore_7 rfl dX12_mayWear_107 ?_
                    refine v_iinc_8 (v := 1) rfl dX12_mayWear_109 (by decide) ?_
                    rw [show nI i + 1 = nI (i + 1) from nI_1 i]
                    refine v_goto (tgt := 32) dX12_mayWear_112 (by decide) ?_
                    first
                      | (have hrel : rel3 F d r m i = false := (by unfold rel3; rw [hc50, Bool.false_and, Bool.false_and]); refine ih (i + 1) _ _ (by omega) ?_ ?_; (simp only [anyk, hrel, if_neg (show ¬ false = true by decide)]; exact ha); (simp only [okk, hrel, if_neg (show ¬ false = true by decide)]; exact ho))
                      | (have hrel : rel3 F d r m i = false := (by unfold rel3; rw [decide_eq_false hc61, Bool.and_false, Bool.false_and]); refine ih (i + 1) _ _ (by omega) ?_ ?_; (simp only [anyk, hrel, if_neg (show ¬ false = true by decide)]; exact ha); (simp only [okk, hrel, if_neg (show ¬ false = true by decide)]; exact ho))
                      | (have hrel : rel3 F d r m i = false := (by unfold rel3; rw [decide_eq_false hc72, Bool.and_false]); refine ih (i + 1) _ _ (by omega) ?_ ?_; (simp only [anyk, hrel, if_neg (show ¬ false = true by decide)]; exact ha); (simp only [okk, hrel, if_neg (show ¬ false = true by decide)]; exact ho))
                      | (have hrel : rel3 F d r m i = true := (by unfold rel3; rw [hc50, decide_eq_true hc61, decide_eq_true hc72]; rfl); refine ih (i + 1) true true (by omega) ?_ ?_; (simp only [anyk, hrel, if_true]); (simp only [okk, hrel, if_true]; rw [ho, hc83, hc99]; rfl))
                      | (have hrel : rel3 F d r m i = true := (by unfold rel3; rw [hc50, decide_eq_true hc61, decide_eq_true hc72]; rfl); refine ih (i + 1) true false (by omega) ?_ ?_; (simp only [anyk, hrel, if_true]); (simp only [okk, hrel, if_true]; rw [ho, hc83, Bool.false_and]))
                      | (have hrel : rel3 F d r m i = true := (by unfold rel3; rw [hc50, decide_eq_true hc61, decide_eq_true hc72]; rfl); refine ih (i + 1) true false (by omega) ?_ ?_; (simp only [anyk, hrel, if_true]); (simp only [okk, hrel, if_true]; rw [hc99, Bool.and_false]))
                      | skip
                  · (first | rw [bI_0, Bool.not_eq_false] at hc99 | rw [bI_0] at hc99 | rw [show (0 : Int32) = nI 0 from rfl, nI_eq (by omega) (by omega)] at hc99 | skip)
                    refine v_iconst (v := nI 1) dX12_mayWear_102 (by decide) ?_
                    refine v_goto (tgt := 107) dX12_mayWear_103 (by decide) ?_
                    refine v_istore_7 rfl dX12_mayWear_107 ?_
                    refine v_iinc_8 (v := 1) rfl dX12_mayWear_109 (by decide) ?_
                    rw [show nI i + 1 = nI (i + 1) from nI_1 i]
                    refine v_goto (tgt := 32) dX12_mayWear_112 (by decide) ?_
                    first
                      | (have hrel : rel3 F d r m i = false := (by unfold rel3; rw [hc50, Bool.false_and, Bool.false_and]); refine ih (i + 1) _ _ (by omega) ?_ ?_; (simp only [anyk, hrel, if_neg (show ¬ false = true by decide)]; exact ha); (simp only [okk, hrel, if_neg (show ¬ false = true by decide)]; exact ho))
                      | (have hrel : rel3 F d r m i = false := (by unfold rel3; rw [decide_eq_false hc61, Bool.and_false, Bool.false_and]); refine ih (i + 1) _ _ (by omega) ?_ ?_; (simp only [anyk, hrel, if_neg (show ¬ false = true by decide)]; exact ha); (simp only [okk, hrel, if_neg (show ¬ false = true by decide)]; exact ho))
                      | (have hrel : rel3 F d r m i = false := (by unfold rel3; rw [decide_eq_false hc72, Bool.and_false]); refine ih (i + 1) _ _ (by omega) ?_ ?_; (simp only [anyk, hrel, if_neg (show ¬ false = true by decide)]; exact ha); (simp only [okk, hrel, if_neg (show ¬ false = true by decide)]; exact ho))
                      | (have hrel : rel3 F d r m i = true := (by unfold rel3; rw [hc50, decide_eq_true hc61, decide_eq_true hc72]; rfl); refine ih (i + 1) true true (by omega) ?_ ?_; (simp only [anyk, hrel, if_true]); (simp only [okk, hrel, if_true]; rw [ho, hc83, hc99]; rfl))
                      | (have hrel : rel3 F d r m i = true := (by unfold rel3; rw [hc50, decide_eq_true hc61, decide_eq_true hc72]; rfl); refine ih (i + 1) true false (by omega) ?_ ?_; (simp only [anyk, hrel, if_true]); (simp only [okk, hrel, if_true]; rw [ho, hc83, Bool.false_and]))
                      | (have hrel : rel3 F d r m i = true := (by unfold rel3; rw [hc50, decide_eq_true hc61, decide_eq_true hc72]; rfl); refine ih (i + 1) true false (by omega) ?_ ?_; (simp only [anyk, hrel, if_true]); (simp only [okk, hrel, if_true]; rw [hc99, Bool.and_false]))
                      | skip
            · (try rw [nI_eq (by omega) (by omega)] at hc72)
              refine v_goto (tgt := 109) dX12_mayWear_75 (by decide) ?_
              refine v_iinc_8 (v := 1) rfl dX12_mayWear_109 (by decide) ?_
              rw [show nI i + 1 = nI (i + 1) from nI_1 i]
              refine v_goto (tgt := 32) dX12_mayWear_112 (by decide) ?_
              first
                | (have hrel : rel3 F d r m i = false := (by unfold rel3; rw [hc50, Bool.false_and, Bool.false_and]); refine ih (i + 1) _ _ (by omega) ?_ ?_; (simp only [anyk, hrel, if_neg (show ¬ false = true by decide)]; exact ha); (simp only [okk, hrel, if_neg (show ¬ false = true by decide)]; exact ho))
                | (have hrel : rel3 F d r m i = false := (by unfold rel3; rw [decide_eq_false hc61, Bool.and_false, Bool.false_and]); refine ih (i + 1) _ _ (by omega) ?_ ?_; (simp only [anyk, hrel, if_neg (show ¬ false = true by decide)]; exact ha); (simp only [okk, hrel, if_neg (show ¬ false = true by decide)]; exact ho))
                | (have hrel : rel3 F d r m i = false := (by unfold rel3; rw [decide_eq_false hc72, Bool.and_false]); refine ih (i + 1) _ _ (by omega) ?_ ?_; (simp only [anyk, hrel, if_neg (show ¬ false = true by decide)]; exact ha); (simp only [okk, hrel, if_neg (show ¬ false = true by decide)]; exact ho))
                | (have hrel : rel3 F d r m i = true := (by unfold rel3; rw [hc50, decide_eq_true hc61, decide_eq_true hc72]; rfl); refine ih (i + 1) true true (by omega) ?_ ?_; (simp only [anyk, hrel, if_true]); (simp only [okk, hrel, if_true]; rw [ho, hc83, hc99]; rfl))
                | (have hrel : rel3 F d r m i = true := (by unfold rel3; rw [hc50, decide_eq_true hc61, decide_eq_true hc72]; rfl); refine ih (i + 1) true false (by omega) ?_ ?_; (simp only [anyk, hrel, if_true]); (simp only [okk, hrel, if_true]; rw [ho, hc83, Bool.false_and]))
                | (have hrel : rel3 F d r m i = true := (by unfold rel3; rw [hc50, decide_eq_true hc61, decide_eq_true hc72]; rfl); refine ih (i + 1) true false (by omega) ?_ ?_; (simp only [anyk, hrel, if_true]); (simp only [okk, hrel, if_true]; rw [hc99, Bool.and_false]))
                | skip
  exact loop (F 5) 0 false true (by omega) rfl rfl
theorem mw_fit {n d m p : Nat} {g : lends} (h : LOK F s) (e : lentP s.1 s.2.1 d m = some p) : fitF F m p = true := by
  unfold lentP at e
  cases hf : fup (hitm s.2.1 m d d) 0 s.1 with
  | none => rw [hf] at e; cases e
  | some i =>
    rw [hf] at e
    cases e
    have q := fup_some hf
    have hh := q.2.2
    simp only [hitm, Bool.and_eq_true, decide_eq_true_eq] at hh
    have := (h.2.1 i (by omega)).2.2.2.2
    rw [hh.1] at this
    exact this
theorem c_X12_mayWear {m d r : Nat} {op : Option Nat} (hR : RO R) (hr : RfI I F s) (hm : m < F 2) (hd : d < 2 ^ 31) (hrr : r < 2 ^ 31) (hrd : ∀ z, z < F 5 → r.testBit z = true → F (129 + 5 * z) = d) (hop : ∀ p, op = some p → p < F 3) (hQ : Q (some (.int (bI (mwV F s.1 s.2.1 d r m op)))) SH I L R) : KK 3 mX12_mayWear b ad [.ref (b + 157), .int (nI m), .int (nI d), .int (eP op), .int (nI r)] I L R Q := by
  have hO := hr.1.2.2.1
  have o2 := hO.2.2.1
  have o3 := hO.2.2.2.1
  have o5 := hO.2.2.2.2.2.1
  have o0 := hO.1
  have hF := hr.1.1.2
  have hS := hr.2.1
  have hK := hr.2.2
  have hpg := pgk_any (n := s.1) (g := s.2.1) (m := m) (F 5) hrd
  refine K.of (M := mX12_mayWear) (lv := [some (.ref (b + 157)), some (.int (nI m)), some (.int (nI d)), some (.int (eP op)), some (.int (nI r)), none, none, none, none]) (by decide) (Nat.le_of_ble_eq_true rfl) rfl ?_
  refine v_aload_0 dX12_mayWear_0 ?_
  refine v_iload_1 dX12_mayWear_1 ?_
  refine v_iload_2 dX12_mayWear_2 ?_
  refine u_callV_2 dX12_mayWear_3 ml_X12_316 mv_X12_wearerOf (by first | assumption | rfl | exact led_1 (by assumption) | exact led_2 (by assumption) | exact bk_m (by assumption) (by first | assumption | omega) | exact bk_p (by assumption) (by first | assumption | omega) | exact bk_o (by assumption) (by first | assumption | omega) | exact bk_s (by assumption) (by first | assumption | omega) | exact bk_1 (by assumption) | exact bk_2 (by assumption) | exact bk_3 (by assumption) | exact bk_4 (by assumption) | exact bk_5 (by assumption) | exact bk_6 (by assumption) | exact bk_7 (by assumption) | exact bk_8 (by assumption) | exact sh_ring _ (by first | assumption | omega) | exact sh_imgs _ (by first | assumption | omega)) (by decide) rfl (by decide) (Nat.le_of_ble_eq_true rfl) (c_X12_wearerOf hR hr (by omega) (by omega) ?_)
  refine v_istore_5 rfl dX12_mayWear_6 ?_
  cases hl : lentP s.1 s.2.1 d m with
  | none =>
    cases op with
    | none =>
      have hv : mwV F s.1 s.2.1 d r m none = okk F d r m none (F 5) := by show pgk _ _ _ _ _ _ _ = _; rw [hpg, hl, okk_none]; rfl
      rw [hv] at hQ
      show VV _ _ _ _ _ _ _ _ _ [some (.ref (b + 157)), some (.int (nI m)), some (.int (nI d)), some (.int (-2)), some (.int (nI r)), some (.int (-2)), none, none, none] _ _ _ _
      refine v_iload_5 dX12_mayWear_8 ?_
      refine v_bipush (v := -2) dX12_mayWear_10 (by decide) ?_
      refine v_icmp_eq (tgt := 23) dX12_mayWear_12 (by decide) (fun hc12 => ?_) (fun hc12 => ?_)
      · (try rw [nI_eq (by omega) (by omega)] at hc12)
        refine v_iconst (v := nI 0) dX12_mayWear_23 (by decide) ?_
        refine v_istore_6 rfl dX12_mayWear_24 ?_
        refine v_iconst (v := nI 1) dX12_mayWear_26 (by decide) ?_
        refine v_istore_7 rfl dX12_mayWear_27 ?_
        refine v_iconst (v := nI 0) dX12_mayWear_29 (by decide) ?_
        refine v_istore_8 rfl dX12_mayWear_30 ?_
        refine l_mwN (s := s) (p := 0) hR hr (by omega) hd hrr ?_
        refine v_iload_5 dX12_mayWear_115 ?_
        refine v_bipush (v := -2) dX12_mayWear_117 (by decide) ?_
        refine v_icmp_ne (tgt := 135) dX12_mayWear_119 (by decide) (fun hc119 => ?_) (fun hc119 => ?_)
        · exact absurd rfl hc119
        · (try rw [nI_eq (by omega) (by omega)] at hc119)
          refine v_iload_3 dX12_mayWear_122 ?_
          refine v_bipush (v := -2) dX12_mayWear_123 (by decide) ?_
          refine v_icmp_eq (tgt := 135) dX12_mayWear_125 (by decide) (fun hc125 => ?_) (fun hc125 => ?_)
          · (try rw [nI_eq (by omega) (by omega)] at hc125)
            refine v_iload_7 dX12_mayWear_135 ?_
            refine v_if_eq (tgt := 162) dX12_mayWear_137 (by decide) (fun hc137 => ?_) (fun hc137 => ?_)
            · (first | rw [bI_0, Bool.not_eq_false] at hc137 | rw [bI_0] at hc137 | rw [show (0 : Int32) = nI 0 from rfl, nI_eq (by omega) (by omega)] at hc137 | skip)
              refine v_iconst (v := nI 0) dX12_mayWear_162 (by decide) ?_
              refine v_zret dX12_mayWear_163 (by first | rfl | exact bI_n _) rfl rfl rfl rfl ?_
              first
                | (rw [hc137] at hQ; exact hQ)
                | exact hQ
            · (first | rw [bI_0, Bool.not_eq_false] at hc137 | rw [bI_0] at hc137 | rw [show (0 : Int32) = nI 0 from rfl, nI_eq (by omega) (by omega)] at hc137 | skip)
              refine v_iload_3 dX12_mayWear_140 ?_
              refine v_bipush (v := -2) dX12_mayWear_141 (by decide) ?_
              refine v_icmp_eq (tgt := 158) dX12_mayWear_143 (by decide) (fun hc143 => ?_) (fun hc143 => ?_)
              · (try rw [nI_eq (by omega) (by omega)] at hc143)
                refine v_iconst (v := nI 1) dX12_mayWear_158 (by decide) ?_
                refine v_goto (tgt := 163) dX12_mayWear_159 (by decide) ?_
                refine v_zret dX12_mayWear_163 (by first | rfl | exact bI_n _) rfl rfl rfl rfl ?_
                first
                  | (rw [hc137] at hQ; exact hQ)
                  | exact hQ
              · exact absurd rfl hc143
          · exact absurd rfl hc125
      · exact absurd rfl hc12
    | some p =>
      have hp := hop p rfl
      have hcd := cdk_ok (n := s.1) (g := s.2.1) (m := m) hp (F 5) hrd
      have hwb : (wrb F s.1 s.2.1 d m).testBit p = fitF F m p := by unfold wrb; rw [hl, bup_bit]; simp [hp]
      have hv : mwV F s.1 s.2.1 d r m (some p) = (anyk F d r m (F 5) && (fitF F m p && okk F d r m (some p) (F 5))) := by show (!pgk _ _ _ _ _ _ _ && Nat.testBit _ _) = _; rw [hpg, hl, hcd, hwb]; simp
      rw [hv] at hQ
      show VV _ _ _ _ _ _ _ _ _ [some (.ref (b + 157)), some (.int (nI m)), some (.int (nI d)), some (.int (nI p)), some (.int (nI r)), some (.int (-2)), none, none, none] _ _ _ _
      refine v_iload_5 dX12_mayWear_8 ?_
      refine v_bipush (v := -2) dX12_mayWear_10 (by decide) ?_
      refine v_icmp_eq (tgt := 23) dX12_mayWear_12 (by decide) (fun hc12 => ?_) (fun hc12 => ?_)
      · (try rw [nI_eq (by omega) (by omega)] at hc12)
        refine v_iconst (v := nI 0) dX12_mayWear_23 (by decide) ?_
        refine v_istore_6 rfl dX12_mayWear_24 ?_
        refine v_iconst (v := nI 1) dX12_mayWear_26 (by decide) ?_
        refine v_istore_7 rfl dX12_mayWear_27 ?_
        refine v_iconst (v := nI 0) dX12_mayWear_29 (by decide) ?_
        refine v_istore_8 rfl dX12_mayWear_30 ?_
        refine l_mwS (s := s) hR hr (by omega) hd hrr hp ?_
        refine v_iload_5 dX12_mayWear_115 ?_
        refine v_bipush (v := -2) dX12_mayWear_117 (by decide) ?_
        refine v_icmp_ne (tgt := 135) dX12_mayWear_119 (by decide) (fun hc119 => ?_) (fun hc119 => ?_)
        · exact absurd rfl hc119
        · (try rw [nI_eq (by omega) (by omega)] at hc119)
          refine v_iload_3 dX12_mayWear_122 ?_
          refine v_bipush (v := -2) dX12_mayWear_123 (by decide) ?_
          refine v_icmp_eq (tgt := 135) dX12_mayWear_125 (by decide) (fun hc125 => ?_) (fun hc125 => ?_)
          · exact absurd hc125 (nIm2 (by omega))
          · (try rw [nI_eq (by omega) (by omega)] at hc125)
            refine v_iload_6 dX12_mayWear_128 ?_
            refine v_if_ne (tgt := 135) dX12_mayWear_130 (by decide) (fun hc130 => ?_) (fun hc130 => ?_)
            · (first | rw [bI_0, Bool.not_eq_false] at hc130 | rw [bI_0] at hc130 | rw [show (0 : Int32) = nI 0 from rfl, nI_eq (by omega) (by omega)] at hc130 | skip)
              refine v_iload_7 dX12_mayWear_135 ?_
              refine v_if_eq (tgt := 162) dX12_mayWear_137 (by decide) (fun hc137 => ?_) (fun hc137 => ?_)
              · (first | rw [bI_0, Bool.not_eq_false] at hc137 | rw [bI_0] at hc137 | rw [show (0 : Int32) = nI 0 from rfl, nI_eq (by omega) (by omega)] at hc137 | skip)
                refine v_iconst (v := nI 0) dX12_mayWear_162 (by decide) ?_
                refine v_zret dX12_mayWear_163 (by first | rfl | exact bI_n _) rfl rfl rfl rfl ?_
                first
                  | (rw [hc130, hc137, hc155] at hQ; exact hQ)
                  | (rw [hc130, hc137, Bool.and_false, Bool.and_false] at hQ; exact hQ)
                  | (rw [hc155, Bool.false_and, Bool.and_false] at hQ; exact hQ)
                  | (rw [hc130, Bool.false_and] at hQ; exact hQ)
              · (first | rw [bI_0, Bool.not_eq_false] at hc137 | rw [bI_0] at hc137 | rw [show (0 : Int32) = nI 0 from rfl, nI_eq (by omega) (by omega)] at hc137 | skip)
                refine v_iload_3 dX12_mayWear_140 ?_
                refine v_bipush (v := -2) dX12_mayWear_141 (by decide) ?_
                refine v_icmp_eq (tgt := 158) dX12_mayWear_143 (by decide) (fun hc143 => ?_) (fun hc143 => ?_)
                · exact absurd hc143 (nIm2 (by omega))
                · (try rw [nI_eq (by omega) (by omega)] at hc143)
                  refine v_aload_0 dX12_mayWear_146 ?_
                  refine u_getR dX12_mayWear_147 gf_X12_20 (by first | assumption | rfl | exact led_1 (by assumption) | exact led_2 (by assumption) | exact bk_m (by assumption) (by first | assumption | omega) | exact bk_p (by assumption) (by first | assumption | omega) | exact bk_o (by assumption) (by first | assumption | omega) | exact bk_s (by assumption) (by first | assumption | omega) | exact bk_1 (by assumption) | exact bk_2 (by assumption) | exact bk_3 (by assumption) | exact bk_4 (by assumption) | exact bk_5 (by assumption) | exact bk_6 (by assumption) | exact bk_7 (by assumption) | exact bk_8 (by assumption) | exact sh_ring _ (by first | assumption | omega) | exact sh_imgs _ (by first | assumption | omega)) (ro_X12_15 (by assumption)) ?_
                  refine v_iload_1 dX12_mayWear_150 ?_
                  refine v_iload_3 dX12_mayWear_151 ?_
                  refine u_callS_3 dX12_mayWear_152 ml_X12_296 ms_X12_doesFit (by decide) (Nat.le_of_ble_eq_true rfl) (c_X12_doesFit hr.1.1 hO hm hp ?_)
                  refine v_if_eq (tgt := 162) dX12_mayWear_155 (by decide) (fun hc155 => ?_) (fun hc155 => ?_)
                  · (first | rw [bI_0, Bool.not_eq_false] at hc155 | rw [bI_0] at hc155 | rw [show (0 : Int32) = nI 0 from rfl, nI_eq (by omega) (by omega)] at hc155 | skip)
                    refine v_iconst (v := nI 0) dX12_mayWear_162 (by decide) ?_
                    refine v_zret dX12_mayWear_163 (by first | rfl | exact bI_n _) rfl rfl rfl rfl ?_
                    first
                      | (rw [hc130, hc137, hc155] at hQ; exact hQ)
                      | (rw [hc130, hc137, Bool.and_false, Bool.and_false] at hQ; exact hQ)
                      | (rw [hc155, Bool.false_and, Bool.and_false] at hQ; exact hQ)
                      | (rw [hc130, Bool.false_and] at hQ; exact hQ)
                  · (first | rw [bI_0, Bool.not_eq_false] at hc155 | rw [bI_0] at hc155 | rw [show (0 : Int32) = nI 0 from rfl, nI_eq (by omega) (by omega)] at hc155 | skip)
                    refine v_iconst (v := nI 1) dX12_mayWear_158 (by decide) ?_
                    refine v_goto (tgt := 163) dX12_mayWear_159 (by decide) ?_
                    refine v_zret dX12_mayWear_163 (by first | rfl | exact bI_n _) rfl rfl rfl rfl ?_
                    first
                      | (rw [hc130, hc137, hc155] at hQ; exact hQ)
                      | (rw [hc130, hc137, Bool.and_false, Bool.and_false] at hQ; exact hQ)
                      | (rw [hc155, Bool.false_and, Bool.and_false] at hQ; exact hQ)
                      | (rw [hc130, Bool.false_and] at hQ; exact hQ)
            · (first | rw [bI_0, Bool.not_eq_false] at hc130 | rw [bI_0] at hc130 | rw [show (0 : Int32) = nI 0 from rfl, nI_eq (by omega) (by omega)] at hc130 | skip)
              refine v_iconst (v := nI 0) dX12_mayWear_133 (by decide) ?_
              refine v_zret dX12_mayWear_134 (by first | rfl | exact bI_n _) rfl rfl rfl rfl ?_
              first
                | (rw [hc130, hc137, hc155] at hQ; exact hQ)
                | (rw [hc130, hc137, Bool.and_false, Bool.and_false] at hQ; exact hQ)
                | (rw [hc155, Bool.false_and, Bool.and_false] at hQ; exact hQ)
                | (rw [hc130, Bool.false_and] at hQ; exact hQ)
      · exact absurd rfl hc12
  | some q =>
    have hq3 := lentP_lt hK.pers hl
    cases op with
    | none =>
      have hv : mwV F s.1 s.2.1 d r m none = false := by show pgk _ _ _ _ _ _ _ = _; rw [hpg, hl]; rfl
      rw [hv] at hQ
      show VV _ _ _ _ _ _ _ _ _ [some (.ref (b + 157)), some (.int (nI m)), some (.int (nI d)), some (.int (-2)), some (.int (nI r)), some (.int (nI q)), none, none, none] _ _ _ _
      refine v_iload_5 dX12_mayWear_8 ?_
      refine v_bipush (v := -2) dX12_mayWear_10 (by decide) ?_
      refine v_icmp_eq (tgt := 23) dX12_mayWear_12 (by decide) (fun hc12 => ?_) (fun hc12 => ?_)
      · exact absurd hc12 (nIm2 (by omega))
      · (try rw [nI_eq (by omega) (by omega)] at hc12)
        refine v_iload_5 dX12_mayWear_15 ?_
        refine v_iload_3 dX12_mayWear_17 ?_
        refine v_icmp_eq (tgt := 23) dX12_mayWear_18 (by decide) (fun hc18 => ?_) (fun hc18 => ?_)
        · exact absurd hc18 (nIm2 (by omega))
        · (try rw [nI_eq (by omega) (by omega)] at hc18)
          refine v_iconst (v := nI 0) dX12_mayWear_21 (by decide) ?_
          refine v_zret dX12_mayWear_22 (by first | rfl | exact bI_n _) rfl rfl rfl rfl ?_
          exact hQ
    | some p =>
      have hp := hop p rfl
      have hcd := cdk_ok (n := s.1) (g := s.2.1) (m := m) hp (F 5) hrd
      have hwb : (wrb F s.1 s.2.1 d m).testBit p = decide (q = p) := by unfold wrb; rw [hl]; exact Nat.testBit_two_pow
      have hv : mwV F s.1 s.2.1 d r m (some p) = (decide (q = p) && okk F d r m (some p) (F 5)) := by show (!pgk _ _ _ _ _ _ _ && Nat.testBit _ _) = _; rw [hpg, hl, hcd, hwb]; rfl
      rw [hv] at hQ
      show VV _ _ _ _ _ _ _ _ _ [some (.ref (b + 157)), some (.int (nI m)), some (.int (nI d)), some (.int (nI p)), some (.int (nI r)), some (.int (nI q)), none, none, none] _ _ _ _
      refine v_iload_5 dX12_mayWear_8 ?_
      refine v_bipush (v := -2) dX12_mayWear_10 (by decide) ?_
      refine v_icmp_eq (tgt := 23) dX12_mayWear_12 (by decide) (fun hc12 => ?_) (fun hc12 => ?_)
      · exact absurd hc12 (nIm2 (by omega))
      · (try rw [nI_eq (by omega) (by omega)] at hc12)
        refine v_iload_5 dX12_mayWear_15 ?_
        refine v_iload_3 dX12_mayWear_17 ?_
        refine v_icmp_eq (tgt := 23) dX12_mayWear_18 (by decide) (fun hc18 => ?_) (fun hc18 => ?_)
        · (try rw [nI_eq (by omega) (by omega)] at hc18)
          refine v_iconst (v := nI 0) dX12_mayWear_23 (by decide) ?_
          refine v_istore_6 rfl dX12_mayWear_24 ?_
          refine v_iconst (v := nI 1) dX12_mayWear_26 (by decide) ?_
          refine v_istore_7 rfl dX12_mayWear_27 ?_
          refine v_iconst (v := nI 0) dX12_mayWear_29 (by decide) ?_
          refine v_istore_8 rfl dX12_mayWear_30 ?_
          refine l_mwS (s := s) hR hr (by omega) hd hrr hp ?_
          refine v_iload_5 dX12_mayWear_115 ?_
          refine v_bipush (v := -2) dX12_mayWear_117 (by decide) ?_
          refine v_icmp_ne (tgt := 135) dX12_mayWear_119 (by decide) (fun hc119 => ?_) (fun hc119 => ?_)
          · (try rw [nI_eq (by omega) (by omega)] at hc119)
            refine v_iload_7 dX12_mayWear_135 ?_
            refine v_if_eq (tgt := 162) dX12_mayWear_137 (by decide) (fun hc137 => ?_) (fun hc137 => ?_)
            · (first | rw [bI_0, Bool.not_eq_false] at hc137 | rw [bI_0] at hc137 | rw [show (0 : Int32) = nI 0 from rfl, nI_eq (by omega) (by omega)] at hc137 | skip)
              refine v_iconst (v := nI 0) dX12_mayWear_162 (by decide) ?_
              refine v_zret dX12_mayWear_163 (by first | rfl | exact bI_n _) rfl rfl rfl rfl ?_
              first
                | (rw [decide_eq_true hc18, hc137] at hQ; exact hQ)
                | (have := mw_fit (n := 0) (g := s.2.1) hK hl; rw [hc18, hc155] at this; cases this)
            · (first | rw [bI_0, Bool.not_eq_false] at hc137 | rw [bI_0] at hc137 | rw [show (0 : Int32) = nI 0 from rfl, nI_eq (by omega) (by omega)] at hc137 | skip)
              refine v_iload_3 dX12_mayWear_140 ?_
              refine v_bipush (v := -2) dX12_mayWear_141 (by decide) ?_
              refine v_icmp_eq (tgt := 158) dX12_mayWear_143 (by decide) (fun hc143 => ?_) (fun hc143 => ?_)
              · exact absurd hc143 (nIm2 (by omega))
              · (try rw [nI_eq (by omega) (by omega)] at hc143)
                refine v_aload_0 dX12_mayWear_146 ?_
                refine u_getR dX12_mayWear_147 gf_X12_20 (by first | assumption | rfl | exact led_1 (by assumption) | exact led_2 (by assumption) | exact bk_m (by assumption) (by first | assumption | omega) | exact bk_p (by assumption) (by first | assumption | omega) | exact bk_o (by assumption) (by first | assumption | omega) | exact bk_s (by assumption) (by first | assumption | omega) | exact bk_1 (by assumption) | exact bk_2 (by assumption) | exact bk_3 (by assumption) | exact bk_4 (by assumption) | exact bk_5 (by assumption) | exact bk_6 (by assumption) | exact bk_7 (by assumption) | exact bk_8 (by assumption) | exact sh_ring _ (by first | assumption | omega) | exact sh_imgs _ (by first | assumption | omega)) (ro_X12_15 (by assumption)) ?_
                refine v_iload_1 dX12_mayWear_150 ?_
                refine v_iload_3 dX12_mayWear_151 ?_
                refine u_callS_3 dX12_mayWear_152 ml_X12_296 ms_X12_doesFit (by decide) (Nat.le_of_ble_eq_true rfl) (c_X12_doesFit hr.1.1 hO hm hp ?_)
                refine v_if_eq (tgt := 162) dX12_mayWear_155 (by decide) (fun hc155 => ?_) (fun hc155 => ?_)
                · (first | rw [bI_0, Bool.not_eq_false] at hc155 | rw [bI_0] at hc155 | rw [show (0 : Int32) = nI 0 from rfl, nI_eq (by omega) (by omega)] at hc155 | skip)
                  refine v_iconst (v := nI 0) dX12_mayWear_162 (by decide) ?_
                  refine v_zret dX12_mayWear_163 (by first | rfl | exact bI_n _) rfl rfl rfl rfl ?_
                  first
                    | (rw [decide_eq_true hc18, hc137] at hQ; exact hQ)
                    | (have := mw_fit (n := 0) (g := s.2.1) hK hl; rw [hc18, hc155] at this; cases this)
                · (first | rw [bI_0, Bool.not_eq_false] at hc155 | rw [bI_0] at hc155 | rw [show (0 : Int32) = nI 0 from rfl, nI_eq (by omega) (by omega)] at hc155 | skip)
                  refine v_iconst (v := nI 1) dX12_mayWear_158 (by decide) ?_
                  refine v_goto (tgt := 163) dX12_mayWear_159 (by decide) ?_
                  refine v_zret dX12_mayWear_163 (by first | rfl | exact bI_n _) rfl rfl rfl rfl ?_
                  first
                    | (rw [decide_eq_true hc18, hc137] at hQ; exact hQ)
                    | (have := mw_fit (n := 0) (g := s.2.1) hK hl; rw [hc18, hc155] at this; cases this)
          · exact absurd hc119 (nIm2 (by omega))
        · (try rw [nI_eq (by omega) (by omega)] at hc18)
          refine v_iconst (v := nI 0) dX12_mayWear_21 (by decide) ?_
          refine v_zret dX12_mayWear_22 (by first | rfl | exact bI_n _) rfl rfl rfl rfl ?_
          rw [decide_eq_false hc18, Bool.false_and] at hQ
          exact hQ
end
