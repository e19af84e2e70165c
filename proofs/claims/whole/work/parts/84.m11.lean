theorem dX12_credit_0 : decode cX12_credit 0 = .ok (.aload_n 0, 1) := by decide +kernel
theorem dX12_credit_1 : decode cX12_credit 1 = .ok (.invokevirtual 173, 3) := by decide +kernel
theorem dX12_credit_4 : decode cX12_credit 4 = .ok (.aload_n 0, 1) := by decide +kernel
theorem dX12_credit_5 : decode cX12_credit 5 = .ok (.iload_n 1, 1) := by decide +kernel
theorem dX12_credit_6 : decode cX12_credit 6 = .ok (.invokevirtual 307, 3) := by decide +kernel
theorem dX12_credit_9 : decode cX12_credit 9 = .ok (.ifCond .ne 9, 3) := by decide +kernel
theorem dX12_credit_12 : decode cX12_credit 12 = .ok (.aload_n 0, 1) := by decide +kernel
theorem dX12_credit_13 : decode cX12_credit 13 = .ok (.iconst 1, 1) := by decide +kernel
theorem dX12_credit_14 : decode cX12_credit 14 = .ok (.invokevirtual 176, 3) := by decide +kernel
theorem dX12_credit_17 : decode cX12_credit 17 = .ok (.ireturn, 1) := by decide +kernel
theorem dX12_credit_18 : decode cX12_credit 18 = .ok (.aload_n 0, 1) := by decide +kernel
theorem dX12_credit_19 : decode cX12_credit 19 = .ok (.iload_n 2, 1) := by decide +kernel
theorem dX12_credit_20 : decode cX12_credit 20 = .ok (.invokevirtual 337, 3) := by decide +kernel
theorem dX12_credit_23 : decode cX12_credit 23 = .ok (.ifCond .ne 9, 3) := by decide +kernel
theorem dX12_credit_26 : decode cX12_credit 26 = .ok (.aload_n 0, 1) := by decide +kernel
theorem dX12_credit_27 : decode cX12_credit 27 = .ok (.iconst 2, 1) := by decide +kernel
theorem dX12_credit_28 : decode cX12_credit 28 = .ok (.invokevirtual 176, 3) := by decide +kernel
theorem dX12_credit_31 : decode cX12_credit 31 = .ok (.ireturn, 1) := by decide +kernel
theorem dX12_credit_32 : decode cX12_credit 32 = .ok (.aload_n 0, 1) := by decide +kernel
theorem dX12_credit_33 : decode cX12_credit 33 = .ok (.getfield 20, 3) := by decide +kernel
theorem dX12_credit_36 : decode cX12_credit 36 = .ok (.bipush 20, 2) := by decide +kernel
theorem dX12_credit_38 : decode cX12_credit 38 = .ok (.iload_n 1, 1) := by decide +kernel
theorem dX12_credit_39 : decode cX12_credit 39 = .ok (.iadd, 1) := by decide +kernel
theorem dX12_credit_40 : decode cX12_credit 40 = .ok (.iaload, 1) := by decide +kernel
theorem dX12_credit_41 : decode cX12_credit 41 = .ok (.istore_n 3, 1) := by decide +kernel
theorem dX12_credit_42 : decode cX12_credit 42 = .ok (.iconst 1, 1) := by decide +kernel
theorem dX12_credit_43 : decode cX12_credit 43 = .ok (.istore 4, 2) := by decide +kernel
theorem dX12_credit_45 : decode cX12_credit 45 = .ok (.iload 4, 2) := by decide +kernel
theorem dX12_credit_47 : decode cX12_credit 47 = .ok (.iload_n 2, 1) := by decide +kernel
theorem dX12_credit_48 : decode cX12_credit 48 = .ok (.if_icmp .gt 106, 3) := by decide +kernel
theorem dX12_credit_51 : decode cX12_credit 51 = .ok (.iconst 0, 1) := by decide +kernel
theorem dX12_credit_52 : decode cX12_credit 52 = .ok (.istore 5, 2) := by decide +kernel
theorem dX12_credit_54 : decode cX12_credit 54 = .ok (.iload 5, 2) := by decide +kernel
theorem dX12_credit_56 : decode cX12_credit 56 = .ok (.aload_n 0, 1) := by decide +kernel
theorem dX12_credit_57 : decode cX12_credit 57 = .ok (.getfield 20, 3) := by decide +kernel
theorem dX12_credit_60 : decode cX12_credit 60 = .ok (.iconst 4, 1) := by decide +kernel
theorem dX12_credit_61 : decode cX12_credit 61 = .ok (.iaload, 1) := by decide +kernel
theorem dX12_credit_62 : decode cX12_credit 62 = .ok (.if_icmp .ge 86, 3) := by decide +kernel
theorem dX12_credit_65 : decode cX12_credit 65 = .ok (.aload_n 0, 1) := by decide +kernel
theorem dX12_credit_66 : decode cX12_credit 66 = .ok (.iload 5, 2) := by decide +kernel
theorem dX12_credit_68 : decode cX12_credit 68 = .ok (.iconst 0, 1) := by decide +kernel
theorem dX12_credit_69 : decode cX12_credit 69 = .ok (.invokevirtual 319, 3) := by decide +kernel
theorem dX12_credit_72 : decode cX12_credit 72 = .ok (.iload_n 1, 1) := by decide +kernel
theorem dX12_credit_73 : decode cX12_credit 73 = .ok (.if_icmp .ne 69, 3) := by decide +kernel
theorem dX12_credit_76 : decode cX12_credit 76 = .ok (.aload_n 0, 1) := by decide +kernel
theorem dX12_credit_77 : decode cX12_credit 77 = .ok (.iload 5, 2) := by decide +kernel
theorem dX12_credit_79 : decode cX12_credit 79 = .ok (.iconst 2, 1) := by decide +kernel
theorem dX12_credit_80 : decode cX12_credit 80 = .ok (.invokevirtual 319, 3) := by decide +kernel
theorem dX12_credit_83 : decode cX12_credit 83 = .ok (.iload 4, 2) := by decide +kernel
theorem dX12_credit_85 : decode cX12_credit 85 = .ok (.if_icmp .eq 6, 3) := by decide +kernel
theorem dX12_credit_88 : decode cX12_credit 88 = .ok (.goto 54, 3) := by decide +kernel
theorem dX12_credit_91 : decode cX12_credit 91 = .ok (.iload_n 3, 1) := by decide +kernel
theorem dX12_credit_92 : decode cX12_credit 92 = .ok (.aload_n 0, 1) := by decide +kernel
theorem dX12_credit_93 : decode cX12_credit 93 = .ok (.iload 5, 2) := by decide +kernel
theorem dX12_credit_95 : decode cX12_credit 95 = .ok (.invokevirtual 334, 3) := by decide +kernel
theorem dX12_credit_98 : decode cX12_credit 98 = .ok (.ifCond .eq 13, 3) := by decide +kernel
theorem dX12_credit_101 : decode cX12_credit 101 = .ok (.aload_n 0, 1) := by decide +kernel
theorem dX12_credit_102 : decode cX12_credit 102 = .ok (.iload 5, 2) := by decide +kernel
theorem dX12_credit_104 : decode cX12_credit 104 = .ok (.iconst 3, 1) := by decide +kernel
theorem dX12_credit_105 : decode cX12_credit 105 = .ok (.invokevirtual 319, 3) := by decide +kernel
theorem dX12_credit_108 : decode cX12_credit 108 = .ok (.goto 11, 3) := by decide +kernel
theorem dX12_credit_111 : decode cX12_credit 111 = .ok (.aload_n 0, 1) := by decide +kernel
theorem dX12_credit_112 : decode cX12_credit 112 = .ok (.iload 5, 2) := by decide +kernel
theorem dX12_credit_114 : decode cX12_credit 114 = .ok (.iconst 4, 1) := by decide +kernel
theorem dX12_credit_115 : decode cX12_credit 115 = .ok (.invokevirtual 319, 3) := by decide +kernel
theorem dX12_credit_118 : decode cX12_credit 118 = .ok (.ineg, 1) := by decide +kernel
theorem dX12_credit_119 : decode cX12_credit 119 = .ok (.iadd, 1) := by decide +kernel
theorem dX12_credit_120 : decode cX12_credit 120 = .ok (.istore_n 3, 1) := by decide +kernel
theorem dX12_credit_121 : decode cX12_credit 121 = .ok (.iload_n 3, 1) := by decide +kernel
theorem dX12_credit_122 : decode cX12_credit 122 = .ok (.bipush 99, 2) := by decide +kernel
theorem dX12_credit_124 : decode cX12_credit 124 = .ok (.if_icmp .le 8, 3) := by decide +kernel
theorem dX12_credit_127 : decode cX12_credit 127 = .ok (.bipush 99, 2) := by decide +kernel
theorem dX12_credit_129 : decode cX12_credit 129 = .ok (.goto 12, 3) := by decide +kernel
theorem dX12_credit_132 : decode cX12_credit 132 = .ok (.iload_n 3, 1) := by decide +kernel
theorem dX12_credit_133 : decode cX12_credit 133 = .ok (.ifCond .ge 7, 3) := by decide +kernel
theorem dX12_credit_136 : decode cX12_credit 136 = .ok (.iconst 0, 1) := by decide +kernel
theorem dX12_credit_137 : decode cX12_credit 137 = .ok (.goto 4, 3) := by decide +kernel
theorem dX12_credit_140 : decode cX12_credit 140 = .ok (.iload_n 3, 1) := by decide +kernel
theorem dX12_credit_141 : decode cX12_credit 141 = .ok (.istore_n 3, 1) := by decide +kernel
theorem dX12_credit_142 : decode cX12_credit 142 = .ok (.iinc 5 1, 3) := by decide +kernel
theorem dX12_credit_145 : decode cX12_credit 145 = .ok (.goto (-91), 3) := by decide +kernel
theorem dX12_credit_148 : decode cX12_credit 148 = .ok (.iinc 4 1, 3) := by decide +kernel
theorem dX12_credit_151 : decode cX12_credit 151 = .ok (.goto (-106), 3) := by decide +kernel
theorem dX12_credit_154 : decode cX12_credit 154 = .ok (.iload_n 3, 1) := by decide +kernel
theorem dX12_credit_155 : decode cX12_credit 155 = .ok (.ireturn, 1) := by decide +kernel
theorem dX12_terms_0 : decode cX12_terms 0 = .ok (.aload_n 0, 1) := by decide +kernel
theorem dX12_terms_1 : decode cX12_terms 1 = .ok (.invokevirtual 173, 3) := by decide +kernel
theorem dX12_terms_4 : decode cX12_terms 4 = .ok (.aload_n 0, 1) := by decide +kernel
theorem dX12_terms_5 : decode cX12_terms 5 = .ok (.getfield 186, 3) := by decide +kernel
theorem dX12_terms_8 : decode cX12_terms 8 = .ok (.ifCond .ne 9, 3) := by decide +kernel
theorem dX12_terms_11 : decode cX12_terms 11 = .ok (.aload_n 0, 1) := by decide +kernel
theorem dX12_terms_12 : decode cX12_terms 12 = .ok (.iconst 1, 1) := by decide +kernel
theorem dX12_terms_13 : decode cX12_terms 13 = .ok (.invokevirtual 176, 3) := by decide +kernel
theorem dX12_terms_16 : decode cX12_terms 16 = .ok (.ireturn, 1) := by decide +kernel
theorem dX12_terms_17 : decode cX12_terms 17 = .ok (.iconst 0, 1) := by decide +kernel
theorem dX12_terms_18 : decode cX12_terms 18 = .ok (.istore_n 1, 1) := by decide +kernel
theorem dX12_terms_19 : decode cX12_terms 19 = .ok (.iconst 0, 1) := by decide +kernel
theorem dX12_terms_20 : decode cX12_terms 20 = .ok (.istore_n 2, 1) := by decide +kernel
theorem dX12_terms_21 : decode cX12_terms 21 = .ok (.iload_n 2, 1) := by decide +kernel
theorem dX12_terms_22 : decode cX12_terms 22 = .ok (.aload_n 0, 1) := by decide +kernel
theorem dX12_terms_23 : decode cX12_terms 23 = .ok (.getfield 20, 3) := by decide +kernel
theorem dX12_terms_26 : decode cX12_terms 26 = .ok (.iconst 4, 1) := by decide +kernel
theorem dX12_terms_27 : decode cX12_terms 27 = .ok (.iaload, 1) := by decide +kernel
theorem dX12_terms_28 : decode cX12_terms 28 = .ok (.if_icmp .ge 128, 3) := by decide +kernel
theorem dX12_terms_31 : decode cX12_terms 31 = .ok (.aload_n 0, 1) := by decide +kernel
theorem dX12_terms_32 : decode cX12_terms 32 = .ok (.getfield 26, 3) := by decide +kernel
theorem dX12_terms_35 : decode cX12_terms 35 = .ok (.aload_n 0, 1) := by decide +kernel
theorem dX12_terms_36 : decode cX12_terms 36 = .ok (.iload_n 2, 1) := by decide +kernel
theorem dX12_terms_37 : decode cX12_terms 37 = .ok (.iconst 0, 1) := by decide +kernel
theorem dX12_terms_38 : decode cX12_terms 38 = .ok (.invokevirtual 319, 3) := by decide +kernel
theorem dX12_terms_41 : decode cX12_terms 41 = .ok (.aload_n 0, 1) := by decide +kernel
theorem dX12_terms_42 : decode cX12_terms 42 = .ok (.iload_n 2, 1) := by decide +kernel
theorem dX12_terms_43 : decode cX12_terms 43 = .ok (.iconst 2, 1) := by decide +kernel
theorem dX12_terms_44 : decode cX12_terms 44 = .ok (.invokevirtual 319, 3) := by decide +kernel
theorem dX12_terms_47 : decode cX12_terms 47 = .ok (.invokestatic 304, 3) := by decide +kernel
theorem dX12_terms_50 : decode cX12_terms 50 = .ok (.istore_n 3, 1) := by decide +kernel
theorem dX12_terms_51 : decode cX12_terms 51 = .ok (.iload_n 3, 1) := by decide +kernel
theorem dX12_terms_52 : decode cX12_terms 52 = .ok (.ifCond .lt 98, 3) := by decide +kernel
theorem dX12_terms_55 : decode cX12_terms 55 = .ok (.aload_n 0, 1) := by decide +kernel
theorem dX12_terms_56 : decode cX12_terms 56 = .ok (.getfield 26, 3) := by decide +kernel
theorem dX12_terms_59 : decode cX12_terms 59 = .ok (.iconst 1, 1) := by decide +kernel
theorem dX12_terms_60 : decode cX12_terms 60 = .ok (.iconst 4, 1) := by decide +kernel
theorem dX12_terms_61 : decode cX12_terms 61 = .ok (.iload_n 3, 1) := by decide +kernel
theorem dX12_terms_62 : decode cX12_terms 62 = .ok (.imul, 1) := by decide +kernel
theorem dX12_terms_63 : decode cX12_terms 63 = .ok (.iadd, 1) := by decide +kernel
theorem dX12_terms_64 : decode cX12_terms 64 = .ok (.iconst 3, 1) := by decide +kernel
theorem dX12_terms_65 : decode cX12_terms 65 = .ok (.iadd, 1) := by decide +kernel
theorem dX12_terms_66 : decode cX12_terms 66 = .ok (.iaload, 1) := by decide +kernel
theorem dX12_terms_67 : decode cX12_terms 67 = .ok (.aload_n 0, 1) := by decide +kernel
theorem dX12_terms_68 : decode cX12_terms 68 = .ok (.iload_n 2, 1) := by decide +kernel
theorem dX12_terms_69 : decode cX12_terms 69 = .ok (.iconst 2, 1) := by decide +kernel
theorem dX12_terms_70 : decode cX12_terms 70 = .ok (.invokevirtual 319, 3) := by decide +kernel
theorem dX12_terms_73 : decode cX12_terms 73 = .ok (.if_icmp .ne 77, 3) := by decide +kernel
theorem dX12_terms_76 : decode cX12_terms 76 = .ok (.aload_n 0, 1) := by decide +kernel
theorem dX12_terms_77 : decode cX12_terms 77 = .ok (.getfield 20, 3) := by decide +kernel
theorem dX12_terms_80 : decode cX12_terms 80 = .ok (.bipush 50, 2) := by decide +kernel
theorem dX12_terms_82 : decode cX12_terms 82 = .ok (.aload_n 0, 1) := by decide +kernel
theorem dX12_terms_83 : decode cX12_terms 83 = .ok (.getfield 26, 3) := by decide +kernel
theorem dX12_terms_86 : decode cX12_terms 86 = .ok (.iconst 1, 1) := by decide +kernel
theorem dX12_terms_87 : decode cX12_terms 87 = .ok (.iconst 4, 1) := by decide +kernel
theorem dX12_terms_88 : decode cX12_terms 88 = .ok (.iload_n 3, 1) := by decide +kernel
theorem dX12_terms_89 : decode cX12_terms 89 = .ok (.imul, 1) := by decide +kernel
theorem dX12_terms_90 : decode cX12_terms 90 = .ok (.iadd, 1) := by decide +kernel
theorem dX12_terms_91 : decode cX12_terms 91 = .ok (.iconst 1, 1) := by decide +kernel
theorem dX12_terms_92 : decode cX12_terms 92 = .ok (.iadd, 1) := by decide +kernel
theorem dX12_terms_93 : decode cX12_terms 93 = .ok (.iaload, 1) := by decide +kernel
theorem dX12_terms_94 : decode cX12_terms 94 = .ok (.iadd, 1) := by decide +kernel
theorem dX12_terms_95 : decode cX12_terms 95 = .ok (.iaload, 1) := by decide +kernel
theorem dX12_terms_96 : decode cX12_terms 96 = .ok (.aload_n 0, 1) := by decide +kernel
theorem dX12_terms_97 : decode cX12_terms 97 = .ok (.iload_n 2, 1) := by decide +kernel
theorem dX12_terms_98 : decode cX12_terms 98 = .ok (.iconst 1, 1) := by decide +kernel
theorem dX12_terms_99 : decode cX12_terms 99 = .ok (.invokevirtual 319, 3) := by decide +kernel
theorem dX12_terms_102 : decode cX12_terms 102 = .ok (.invokestatic 158, 3) := by decide +kernel
theorem dX12_terms_105 : decode cX12_terms 105 = .ok (.ifCond .ne 6, 3) := by decide +kernel
theorem dX12_terms_108 : decode cX12_terms 108 = .ok (.goto 42, 3) := by decide +kernel
theorem dX12_terms_111 : decode cX12_terms 111 = .ok (.aload_n 0, 1) := by decide +kernel
theorem dX12_terms_112 : decode cX12_terms 112 = .ok (.iload_n 2, 1) := by decide +kernel
theorem dX12_terms_113 : decode cX12_terms 113 = .ok (.iconst 5, 1) := by decide +kernel
theorem dX12_terms_114 : decode cX12_terms 114 = .ok (.invokevirtual 319, 3) := by decide +kernel
theorem dX12_terms_117 : decode cX12_terms 117 = .ok (.aload_n 0, 1) := by decide +kernel
theorem dX12_terms_118 : decode cX12_terms 118 = .ok (.iload_n 2, 1) := by decide +kernel
theorem dX12_terms_119 : decode cX12_terms 119 = .ok (.iconst 4, 1) := by decide +kernel
theorem dX12_terms_120 : decode cX12_terms 120 = .ok (.invokevirtual 319, 3) := by decide +kernel
theorem dX12_terms_123 : decode cX12_terms 123 = .ok (.if_icmp .le 6, 3) := by decide +kernel
theorem dX12_terms_126 : decode cX12_terms 126 = .ok (.bipush (-2), 2) := by decide +kernel
theorem dX12_terms_128 : decode cX12_terms 128 = .ok (.ireturn, 1) := by decide +kernel
theorem dX12_terms_129 : decode cX12_terms 129 = .ok (.aload_n 0, 1) := by decide +kernel
theorem dX12_terms_130 : decode cX12_terms 130 = .ok (.iload_n 2, 1) := by decide +kernel
theorem dX12_terms_131 : decode cX12_terms 131 = .ok (.iconst 5, 1) := by decide +kernel
theorem dX12_terms_132 : decode cX12_terms 132 = .ok (.invokevirtual 319, 3) := by decide +kernel
theorem dX12_terms_135 : decode cX12_terms 135 = .ok (.iload_n 1, 1) := by decide +kernel
theorem dX12_terms_136 : decode cX12_terms 136 = .ok (.if_icmp .le 12, 3) := by decide +kernel
theorem dX12_terms_139 : decode cX12_terms 139 = .ok (.aload_n 0, 1) := by decide +kernel
theorem dX12_terms_140 : decode cX12_terms 140 = .ok (.iload_n 2, 1) := by decide +kernel
theorem dX12_terms_141 : decode cX12_terms 141 = .ok (.iconst 5, 1) := by decide +kernel
theorem dX12_terms_142 : decode cX12_terms 142 = .ok (.invokevirtual 319, 3) := by decide +kernel
theorem dX12_terms_145 : decode cX12_terms 145 = .ok (.goto 4, 3) := by decide +kernel
theorem dX12_terms_148 : decode cX12_terms 148 = .ok (.iload_n 1, 1) := by decide +kernel
theorem dX12_terms_149 : decode cX12_terms 149 = .ok (.istore_n 1, 1) := by decide +kernel
theorem dX12_terms_150 : decode cX12_terms 150 = .ok (.iinc 2 1, 3) := by decide +kernel
theorem dX12_terms_153 : decode cX12_terms 153 = .ok (.goto (-132), 3) := by decide +kernel
theorem dX12_terms_156 : decode cX12_terms 156 = .ok (.iload_n 1, 1) := by decide +kernel
theorem dX12_terms_157 : decode cX12_terms 157 = .ok (.ireturn, 1) := by decide +kernel
theorem dX12_ask_0 : decode cX12_ask 0 = .ok (.aload_n 0, 1) := by decide +kernel
theorem dX12_ask_1 : decode cX12_ask 1 = .ok (.invokevirtual 173, 3) := by decide +kernel
theorem dX12_ask_4 : decode cX12_ask 4 = .ok (.aload_n 0, 1) := by decide +kernel
theorem dX12_ask_5 : decode cX12_ask 5 = .ok (.iload_n 1, 1) := by decide +kernel
theorem dX12_ask_6 : decode cX12_ask 6 = .ok (.invokevirtual 307, 3) := by decide +kernel
theorem dX12_ask_9 : decode cX12_ask 9 = .ok (.ifCond .eq 11, 3) := by decide +kernel
theorem dX12_ask_12 : decode cX12_ask 12 = .ok (.aload_n 0, 1) := by decide +kernel
theorem dX12_ask_13 : decode cX12_ask 13 = .ok (.iload_n 2, 1) := by decide +kernel
theorem dX12_ask_14 : decode cX12_ask 14 = .ok (.invokevirtual 310, 3) := by decide +kernel
theorem dX12_ask_17 : decode cX12_ask 17 = .ok (.ifCond .ne 9, 3) := by decide +kernel
theorem dX12_ask_20 : decode cX12_ask 20 = .ok (.aload_n 0, 1) := by decide +kernel
theorem dX12_ask_21 : decode cX12_ask 21 = .ok (.iconst 1, 1) := by decide +kernel
theorem dX12_ask_22 : decode cX12_ask 22 = .ok (.invokevirtual 176, 3) := by decide +kernel
theorem dX12_ask_25 : decode cX12_ask 25 = .ok (.ireturn, 1) := by decide +kernel
theorem dX12_ask_26 : decode cX12_ask 26 = .ok (.aload_n 0, 1) := by decide +kernel
theorem dX12_ask_27 : decode cX12_ask 27 = .ok (.iload_n 3, 1) := by decide +kernel
theorem dX12_ask_28 : decode cX12_ask 28 = .ok (.iload 4, 2) := by decide +kernel
theorem dX12_ask_30 : decode cX12_ask 30 = .ok (.invokevirtual 357, 3) := by decide +kernel
theorem dX12_ask_33 : decode cX12_ask 33 = .ok (.ifCond .ne 9, 3) := by decide +kernel
theorem dX12_ask_36 : decode cX12_ask 36 = .ok (.aload_n 0, 1) := by decide +kernel
theorem dX12_ask_37 : decode cX12_ask 37 = .ok (.iconst 2, 1) := by decide +kernel
theorem dX12_ask_38 : decode cX12_ask 38 = .ok (.invokevirtual 176, 3) := by decide +kernel
theorem dX12_ask_41 : decode cX12_ask 41 = .ok (.ireturn, 1) := by decide +kernel
theorem dX12_ask_42 : decode cX12_ask 42 = .ok (.aload_n 0, 1) := by decide +kernel
theorem dX12_ask_43 : decode cX12_ask 43 = .ok (.getfield 20, 3) := by decide +kernel
theorem dX12_ask_46 : decode cX12_ask 46 = .ok (.iload_n 1, 1) := by decide +kernel
theorem dX12_ask_47 : decode cX12_ask 47 = .ok (.iload_n 2, 1) := by decide +kernel
theorem dX12_ask_48 : decode cX12_ask 48 = .ok (.invokestatic 296, 3) := by decide +kernel
theorem dX12_ask_51 : decode cX12_ask 51 = .ok (.ifCond .ne 9, 3) := by decide +kernel
theorem dX12_ask_54 : decode cX12_ask 54 = .ok (.aload_n 0, 1) := by decide +kernel
theorem dX12_ask_55 : decode cX12_ask 55 = .ok (.iconst 5, 1) := by decide +kernel
theorem dX12_ask_56 : decode cX12_ask 56 = .ok (.invokevirtual 176, 3) := by decide +kernel
theorem dX12_ask_59 : decode cX12_ask 59 = .ok (.ireturn, 1) := by decide +kernel
theorem dX12_ask_60 : decode cX12_ask 60 = .ok (.iconst 0, 1) := by decide +kernel
theorem dX12_ask_61 : decode cX12_ask 61 = .ok (.istore 5, 2) := by decide +kernel
theorem dX12_ask_63 : decode cX12_ask 63 = .ok (.iconst 0, 1) := by decide +kernel
theorem dX12_ask_64 : decode cX12_ask 64 = .ok (.istore 6, 2) := by decide +kernel
theorem dX12_ask_66 : decode cX12_ask 66 = .ok (.iload 6, 2) := by decide +kernel
theorem dX12_ask_68 : decode cX12_ask 68 = .ok (.aload_n 0, 1) := by decide +kernel
theorem dX12_ask_69 : decode cX12_ask 69 = .ok (.getfield 20, 3) := by decide +kernel
theorem dX12_ask_72 : decode cX12_ask 72 = .ok (.iconst 4, 1) := by decide +kernel
theorem dX12_ask_73 : decode cX12_ask 73 = .ok (.iaload, 1) := by decide +kernel
theorem dX12_ask_74 : decode cX12_ask 74 = .ok (.if_icmp .ge 52, 3) := by decide +kernel
theorem dX12_ask_77 : decode cX12_ask 77 = .ok (.iload 5, 2) := by decide +kernel
theorem dX12_ask_79 : decode cX12_ask 79 = .ok (.aload_n 0, 1) := by decide +kernel
theorem dX12_ask_80 : decode cX12_ask 80 = .ok (.iload 6, 2) := by decide +kernel
theorem dX12_ask_82 : decode cX12_ask 82 = .ok (.iconst 0, 1) := by decide +kernel
theorem dX12_ask_83 : decode cX12_ask 83 = .ok (.invokevirtual 319, 3) := by decide +kernel
theorem dX12_ask_86 : decode cX12_ask 86 = .ok (.iload_n 1, 1) := by decide +kernel
theorem dX12_ask_87 : decode cX12_ask 87 = .ok (.if_icmp .ne 29, 3) := by decide +kernel
theorem dX12_ask_90 : decode cX12_ask 90 = .ok (.aload_n 0, 1) := by decide +kernel
theorem dX12_ask_91 : decode cX12_ask 91 = .ok (.iload 6, 2) := by decide +kernel
theorem dX12_ask_93 : decode cX12_ask 93 = .ok (.iconst 2, 1) := by decide +kernel
theorem dX12_ask_94 : decode cX12_ask 94 = .ok (.invokevirtual 319, 3) := by decide +kernel
theorem dX12_ask_97 : decode cX12_ask 97 = .ok (.iload_n 3, 1) := by decide +kernel
theorem dX12_ask_98 : decode cX12_ask 98 = .ok (.iload 4, 2) := by decide +kernel
theorem dX12_ask_100 : decode cX12_ask 100 = .ok (.invokestatic 154, 3) := by decide +kernel
theorem dX12_ask_103 : decode cX12_ask 103 = .ok (.ifCond .eq 13, 3) := by decide +kernel
theorem dX12_ask_106 : decode cX12_ask 106 = .ok (.aload_n 0, 1) := by decide +kernel
theorem dX12_ask_107 : decode cX12_ask 107 = .ok (.iload 6, 2) := by decide +kernel
theorem dX12_ask_109 : decode cX12_ask 109 = .ok (.iconst 4, 1) := by decide +kernel
theorem dX12_ask_110 : decode cX12_ask 110 = .ok (.invokevirtual 319, 3) := by decide +kernel
theorem dX12_ask_113 : decode cX12_ask 113 = .ok (.goto 4, 3) := by decide +kernel
theorem dX12_ask_116 : decode cX12_ask 116 = .ok (.iconst 0, 1) := by decide +kernel
theorem dX12_ask_117 : decode cX12_ask 117 = .ok (.iadd, 1) := by decide +kernel
theorem dX12_ask_118 : decode cX12_ask 118 = .ok (.istore 5, 2) := by decide +kernel
theorem dX12_ask_120 : decode cX12_ask 120 = .ok (.iinc 6 1, 3) := by decide +kernel
theorem dX12_ask_123 : decode cX12_ask 123 = .ok (.goto (-57), 3) := by decide +kernel
theorem dX12_ask_126 : decode cX12_ask 126 = .ok (.iload 5, 2) := by decide +kernel
theorem dX12_ask_128 : decode cX12_ask 128 = .ok (.bipush 100, 2) := by decide +kernel
theorem dX12_ask_130 : decode cX12_ask 130 = .ok (.aload_n 0, 1) := by decide +kernel
theorem dX12_ask_131 : decode cX12_ask 131 = .ok (.getfield 20, 3) := by decide +kernel
theorem dX12_ask_134 : decode cX12_ask 134 = .ok (.bipush 32, 2) := by decide +kernel
theorem dX12_ask_136 : decode cX12_ask 136 = .ok (.iload_n 2, 1) := by decide +kernel
theorem dX12_ask_137 : decode cX12_ask 137 = .ok (.iadd, 1) := by decide +kernel
theorem dX12_ask_138 : decode cX12_ask 138 = .ok (.iaload, 1) := by decide +kernel
theorem dX12_ask_139 : decode cX12_ask 139 = .ok (.isub, 1) := by decide +kernel
theorem dX12_ask_140 : decode cX12_ask 140 = .ok (.imul, 1) := by decide +kernel
theorem dX12_ask_141 : decode cX12_ask 141 = .ok (.bipush 99, 2) := by decide +kernel
theorem dX12_ask_143 : decode cX12_ask 143 = .ok (.iadd, 1) := by decide +kernel
theorem dX12_ask_144 : decode cX12_ask 144 = .ok (.bipush 100, 2) := by decide +kernel
theorem dX12_ask_146 : decode cX12_ask 146 = .ok (.idiv, 1) := by decide +kernel
theorem dX12_ask_147 : decode cX12_ask 147 = .ok (.ireturn, 1) := by decide +kernel
theorem dX12_size_0 : decode cX12_size 0 = .ok (.aload_n 0, 1) := by decide +kernel
theorem dX12_size_1 : decode cX12_size 1 = .ok (.iconst 0, 1) := by decide +kernel
theorem dX12_size_2 : decode cX12_size 2 = .ok (.putfield 54, 3) := by decide +kernel
theorem dX12_size_5 : decode cX12_size 5 = .ok (.iload_n 1, 1) := by decide +kernel
theorem dX12_size_6 : decode cX12_size 6 = .ok (.bipush 11, 2) := by decide +kernel
theorem dX12_size_8 : decode cX12_size 8 = .ok (.if_icmp .ne 8, 3) := by decide +kernel
theorem dX12_size_11 : decode cX12_size 11 = .ok (.aload_n 0, 1) := by decide +kernel
theorem dX12_size_12 : decode cX12_size 12 = .ok (.getfield 60, 3) := by decide +kernel
theorem dX12_size_15 : decode cX12_size 15 = .ok (.ireturn, 1) := by decide +kernel
theorem dX12_size_16 : decode cX12_size 16 = .ok (.aload_n 0, 1) := by decide +kernel
theorem dX12_size_17 : decode cX12_size 17 = .ok (.getfield 186, 3) := by decide +kernel
theorem dX12_size_20 : decode cX12_size 20 = .ok (.ifCond .ne 19, 3) := by decide +kernel
theorem dX12_size_23 : decode cX12_size 23 = .ok (.iload_n 1, 1) := by decide +kernel
theorem dX12_size_24 : decode cX12_size 24 = .ok (.iconst 0, 1) := by decide +kernel
theorem dX12_size_25 : decode cX12_size 25 = .ok (.bipush 10, 2) := by decide +kernel
theorem dX12_size_27 : decode cX12_size 27 = .ok (.invokestatic 154, 3) := by decide +kernel
theorem dX12_size_30 : decode cX12_size 30 = .ok (.ifCond .eq 7, 3) := by decide +kernel
theorem dX12_size_33 : decode cX12_size 33 = .ok (.iconst 0, 1) := by decide +kernel
theorem dX12_size_34 : decode cX12_size 34 = .ok (.goto 4, 3) := by decide +kernel
theorem dX12_size_37 : decode cX12_size 37 = .ok (.iconst (-1), 1) := by decide +kernel
theorem dX12_size_38 : decode cX12_size 38 = .ok (.ireturn, 1) := by decide +kernel
theorem dX12_size_39 : decode cX12_size 39 = .ok (.iload_n 1, 1) := by decide +kernel
theorem dX12_size_40 : decode cX12_size 40 = .ok (.tableswitch 132 0 10 #[60, 67, 74, 81, 88, 95, 102, 110, 117, 122, 127], 60) := by decide +kernel
theorem dX12_size_100 : decode cX12_size 100 = .ok (.aload_n 0, 1) := by decide +kernel
theorem dX12_size_101 : decode cX12_size 101 = .ok (.getfield 20, 3) := by decide +kernel
theorem dX12_size_104 : decode cX12_size 104 = .ok (.iconst 2, 1) := by decide +kernel
theorem dX12_size_105 : decode cX12_size 105 = .ok (.iaload, 1) := by decide +kernel
theorem dX12_size_106 : decode cX12_size 106 = .ok (.ireturn, 1) := by decide +kernel
theorem dX12_size_107 : decode cX12_size 107 = .ok (.aload_n 0, 1) := by decide +kernel
theorem dX12_size_108 : decode cX12_size 108 = .ok (.getfield 20, 3) := by decide +kernel
theorem dX12_size_111 : decode cX12_size 111 = .ok (.iconst 3, 1) := by decide +kernel
theorem dX12_size_112 : decode cX12_size 112 = .ok (.iaload, 1) := by decide +kernel
theorem dX12_size_113 : decode cX12_size 113 = .ok (.ireturn, 1) := by decide +kernel
theorem dX12_size_114 : decode cX12_size 114 = .ok (.aload_n 0, 1) := by decide +kernel
theorem dX12_size_115 : decode cX12_size 115 = .ok (.getfield 20, 3) := by decide +kernel
theorem dX12_size_118 : decode cX12_size 118 = .ok (.iconst 1, 1) := by decide +kernel
theorem dX12_size_119 : decode cX12_size 119 = .ok (.iaload, 1) := by decide +kernel
theorem dX12_size_120 : decode cX12_size 120 = .ok (.ireturn, 1) := by decide +kernel
theorem dX12_size_121 : decode cX12_size 121 = .ok (.aload_n 0, 1) := by decide +kernel
theorem dX12_size_122 : decode cX12_size 122 = .ok (.getfield 20, 3) := by decide +kernel
theorem dX12_size_125 : decode cX12_size 125 = .ok (.iconst 4, 1) := by decide +kernel
theorem dX12_size_126 : decode cX12_size 126 = .ok (.iaload, 1) := by decide +kernel
theorem dX12_size_127 : decode cX12_size 127 = .ok (.ireturn, 1) := by decide +kernel
theorem dX12_size_128 : decode cX12_size 128 = .ok (.aload_n 0, 1) := by decide +kernel
theorem dX12_size_129 : decode cX12_size 129 = .ok (.getfield 26, 3) := by decide +kernel
theorem dX12_size_132 : decode cX12_size 132 = .ok (.iconst 0, 1) := by decide +kernel
theorem dX12_size_133 : decode cX12_size 133 = .ok (.iaload, 1) := by decide +kernel
theorem dX12_size_134 : decode cX12_size 134 = .ok (.ireturn, 1) := by decide +kernel
theorem dX12_size_135 : decode cX12_size 135 = .ok (.aload_n 0, 1) := by decide +kernel
theorem dX12_size_136 : decode cX12_size 136 = .ok (.getfield 20, 3) := by decide +kernel
theorem dX12_size_139 : decode cX12_size 139 = .ok (.iconst 5, 1) := by decide +kernel
theorem dX12_size_140 : decode cX12_size 140 = .ok (.iaload, 1) := by decide +kernel
theorem dX12_size_141 : decode cX12_size 141 = .ok (.ireturn, 1) := by decide +kernel
theorem dX12_size_142 : decode cX12_size 142 = .ok (.aload_n 0, 1) := by decide +kernel
theorem dX12_size_143 : decode cX12_size 143 = .ok (.getfield 20, 3) := by decide +kernel
theorem dX12_size_146 : decode cX12_size 146 = .ok (.bipush 6, 2) := by decide +kernel
theorem dX12_size_148 : decode cX12_size 148 = .ok (.iaload, 1) := by decide +kernel
theorem dX12_size_149 : decode cX12_size 149 = .ok (.ireturn, 1) := by decide +kernel
theorem dX12_size_150 : decode cX12_size 150 = .ok (.aload_n 0, 1) := by decide +kernel
theorem dX12_size_151 : decode cX12_size 151 = .ok (.getfield 20, 3) := by decide +kernel
theorem dX12_size_154 : decode cX12_size 154 = .ok (.iconst 0, 1) := by decide +kernel
theorem dX12_size_155 : decode cX12_size 155 = .ok (.iaload, 1) := by decide +kernel
theorem dX12_size_156 : decode cX12_size 156 = .ok (.ireturn, 1) := by decide +kernel
theorem dX12_size_157 : decode cX12_size 157 = .ok (.aload_n 0, 1) := by decide +kernel
theorem dX12_size_158 : decode cX12_size 158 = .ok (.getfield 189, 3) := by decide +kernel
theorem dX12_size_161 : decode cX12_size 161 = .ok (.ireturn, 1) := by decide +kernel
theorem dX12_size_162 : decode cX12_size 162 = .ok (.aload_n 0, 1) := by decide +kernel
theorem dX12_size_163 : decode cX12_size 163 = .ok (.getfield 192, 3) := by decide +kernel
theorem dX12_size_166 : decode cX12_size 166 = .ok (.ireturn, 1) := by decide +kernel
theorem dX12_size_167 : decode cX12_size 167 = .ok (.aload_n 0, 1) := by decide +kernel
theorem dX12_size_168 : decode cX12_size 168 = .ok (.getfield 195, 3) := by decide +kernel
theorem dX12_size_171 : decode cX12_size 171 = .ok (.ireturn, 1) := by decide +kernel
theorem dX12_size_172 : decode cX12_size 172 = .ok (.iconst (-1), 1) := by decide +kernel
theorem dX12_size_173 : decode cX12_size 173 = .ok (.ireturn, 1) := by decide +kernel
section
variable {b : Nat} {ad : Nat → Nat} {I J : HI} {L M : HL} {R : HR} {Q : QT} {F : bkF} {s : LSt} {a o : Nat}
theorem c_X12_doesAgree {x p : Nat} (hR : RO R) (hr : RfI I F s) (hx : x < F 5) (hp : p < F 3) (hQ : Q (some (.int (bI (resF F x p)))) SH I L R) : KK 2 mX12_doesAgree b ad [.ref (b + 157), .int (nI x), .int (nI p)] I L R Q := by
  have hO := hr.1.2.2.1
  have o3 := hO.2.2.2.1
  have o5 := hO.2.2.2.2.2.1
  have hF := hr.1.1.2
  obtain ⟨z1, z2, z3, z4, z5⟩ := fk_p hO hp
  obtain ⟨y1, y2, y3, y4, y5, y6⟩ := fk_s hO hx
  have hadf : adf (F (131 + 5 * x)) (F (26 + p)) < 10 := by unfold adf; split <;> omega
  refine K.of (M := mX12_doesAgree) (lv := [some (.ref (b + 157)), some (.int (nI x)), some (.int (nI p))]) (by decide) (Nat.le_of_ble_eq_true rfl) rfl ?_
  refine v_aload_0 dX12_doesAgree_0 ?_
  refine v_iload_1 dX12_doesAgree_1 ?_
  refine v_iconst (v := nI 3) dX12_doesAgree_2 (by decide) ?_
  refine u_callV_2 dX12_doesAgree_3 ml_X12_360 mv_X12_seen (by first | assumption | rfl | exact led_1 (by assumption) | exact led_2 (by assumption) | exact bk_m (by assumption) (by first | assumption | omega) | exact bk_p (by assumption) (by first | assumption | omega) | exact bk_o (by assumption) (by first | assumption | omega) | exact bk_s (by assumption) (by first | assumption | omega) | exact bk_1 (by assumption) | exact bk_2 (by assumption) | exact bk_3 (by assumption) | exact bk_4 (by assumption) | exact bk_5 (by assumption) | exact bk_6 (by assumption) | exact bk_7 (by assumption) | exact bk_8 (by assumption) | exact sh_ring _ (by first | assumption | omega) | exact sh_imgs _ (by first | assumption | omega)) (by decide) rfl (by decide) (Nat.le_of_ble_eq_true rfl) (c_X12_seen (k := 131 + 5 * x) hR hr.1.1 (by omega) (by decide) (by omega) ?_)
  refine v_aload_0 dX12_doesAgree_6 ?_
  refine u_getR dX12_doesAgree_7 gf_X12_20 (by first | assumption | rfl | exact led_1 (by assumption) | exact led_2 (by assumption) | exact bk_m (by assumption) (by first | assumption | omega) | exact bk_p (by assumption) (by first | assumption | omega) | exact bk_o (by assumption) (by first | assumption | omega) | exact bk_s (by assumption) (by first | assumption | omega) | exact bk_1 (by assumption) | exact bk_2 (by assumption) | exact bk_3 (by assumption) | exact bk_4 (by assumption) | exact bk_5 (by assumption) | exact bk_6 (by assumption) | exact bk_7 (by assumption) | exact bk_8 (by assumption) | exact sh_ring _ (by first | assumption | omega) | exact sh_imgs _ (by first | assumption | omega)) (ro_X12_15 (by assumption)) ?_
  refine v_bipush (v := nI 26) dX12_doesAgree_10 (by decide) ?_
  refine v_iload_2 dX12_doesAgree_12 ?_
  refine v_iadd dX12_doesAgree_13 ?_
  refine u_iald dX12_doesAgree_14 (by first | assumption | rfl | exact led_1 (by assumption) | exact led_2 (by assumption) | exact bk_m (by assumption) (by first | assumption | omega) | exact bk_p (by assumption) (by first | assumption | omega) | exact bk_o (by assumption) (by first | assumption | omega) | exact bk_s (by assumption) (by first | assumption | omega) | exact bk_1 (by assumption) | exact bk_2 (by assumption) | exact bk_3 (by assumption) | exact bk_4 (by assumption) | exact bk_5 (by assumption) | exact bk_6 (by assumption) | exact bk_7 (by assumption) | exact bk_8 (by assumption) | exact sh_ring _ (by first | assumption | omega) | exact sh_imgs _ (by first | assumption | omega)) (by first | with_reducible rfl | (simp only [nlit, nI_add, pk_mul]; with_reducible rfl) | rfl) (by first | assumption | omega) (by first | assumption | decide) ?_
  rw [hF _ (by omega)]
  refine v_isub dX12_doesAgree_15 ?_
  refine u_callS_1 dX12_doesAgree_16 ml_X12_293 ms_X12_without (by decide) (Nat.le_of_ble_eq_true rfl) (c_X12_without (by omega) (by omega) ?_)
  refine v_iconst (v := nI 2) dX12_doesAgree_19 (by decide) ?_
  refine v_icmp_ge (tgt := 54) dX12_doesAgree_20 (by decide) (fun hc20 => ?_) (fun hc20 => ?_)
  · (try rw [nI_leI (by omega) (by omega)] at hc20)
    refine v_iconst (v := nI 0) dX12_doesAgree_54 (by decide) ?_
    refine v_zret dX12_doesAgree_55 (by first | rfl | exact bI_n _) rfl rfl rfl rfl ?_
    first
      | (have q : adf (F (131 + 5 * x)) (F (26 + p)) ≤ 1 := (by omega); have e : resF F x p = true := (by unfold resF resv; simp [hc20, q]; done); rw [e] at hQ; exact hQ)
      | (have q : ¬ adf (F (131 + 5 * x)) (F (26 + p)) ≤ 1 := (by omega); have e : resF F x p = false := (by unfold resF resv; simp [q]; done); rw [e] at hQ; exact hQ)
      | (have e : resF F x p = false := (by unfold resF resv; simp [hc20]; done); rw [e] at hQ; exact hQ)
  · (try rw [nI_leI (by omega) (by omega)] at hc20)
    refine v_aload_0 dX12_doesAgree_23 ?_
    refine v_iload_1 dX12_doesAgree_24 ?_
    refine v_iconst (v := nI 4) dX12_doesAgree_25 (by decide) ?_
    refine u_callV_2 dX12_doesAgree_26 ml_X12_360 mv_X12_seen (by first | assumption | rfl | exact led_1 (by assumption) | exact led_2 (by assumption) | exact bk_m (by assumption) (by first | assumption | omega) | exact bk_p (by assumption) (by first | assumption | omega) | exact bk_o (by assumption) (by first | assumption | omega) | exact bk_s (by assumption) (by first | assumption | omega) | exact bk_1 (by assumption) | exact bk_2 (by assumption) | exact bk_3 (by assumption) | exact bk_4 (by assumption) | exact bk_5 (by assumption) | exact bk_6 (by assumption) | exact bk_7 (by assumption) | exact bk_8 (by assumption) | exact sh_ring _ (by first | assumption | omega) | exact sh_imgs _ (by first | assumption | omega)) (by decide) rfl (by decide) (Nat.le_of_ble_eq_true rfl) (c_X12_seen (k := 132 + 5 * x) hR hr.1.1 (by omega) (by decide) (by omega) ?_)
    refine v_if_eq (tgt := 50) dX12_doesAgree_29 (by decide) (fun hc29 => ?_) (fun hc29 => ?_)
    · (first | rw [bI_0, Bool.not_eq_false] at hc29 | rw [bI_0] at hc29 | rw [show (0 : Int32) = nI 0 from rfl, nI_eq (by omega) (by omega)] at hc29 | skip)
      refine v_iconst (v := nI 1) dX12_doesAgree_50 (by decide) ?_
      refine v_goto (tgt := 55) dX12_doesAgree_51 (by decide) ?_
      refine v_zret dX12_doesAgree_55 (by first | rfl | exact bI_n _) rfl rfl rfl rfl ?_
      first
        | (have q : adf (F (131 + 5 * x)) (F (26 + p)) ≤ 1 := (by omega); have e : resF F x p = true := (by unfold resF resv; simp [hc20, hc29, q]; done); rw [e] at hQ; exact hQ)
        | (have q : ¬ adf (F (131 + 5 * x)) (F (26 + p)) ≤ 1 := (by omega); have e : resF F x p = false := (by unfold resF resv; simp [q]; done); rw [e] at hQ; exact hQ)
        | (have e : resF F x p = false := (by unfold resF resv; simp [hc20, hc29]; done); rw [e] at hQ; exact hQ)
    · (first | rw [bI_0, Bool.not_eq_false] at hc29 | rw [bI_0] at hc29 | rw [show (0 : Int32) = nI 0 from rfl, nI_eq (by omega) (by omega)] at hc29 | skip)
      refine v_aload_0 dX12_doesAgree_32 ?_
      refine v_iload_1 dX12_doesAgree_33 ?_
      refine v_iconst (v := nI 4) dX12_doesAgree_34 (by decide) ?_
      refine u_callV_2 dX12_doesAgree_35 ml_X12_360 mv_X12_seen (by first | assumption | rfl | exact led_1 (by assumption) | exact led_2 (by assumption) | exact bk_m (by assumption) (by first | assumption | omega) | exact bk_p (by assumption) (by first | assumption | omega) | exact bk_o (by assumption) (by first | assumption | omega) | exact bk_s (by assumption) (by first | assumption | omega) | exact bk_1 (by assumption) | exact bk_2 (by assumption) | exact bk_3 (by assumption) | exact bk_4 (by assumption) | exact bk_5 (by assumption) | exact bk_6 (by assumption) | exact bk_7 (by assumption) | exact bk_8 (by assumption) | exact sh_ring _ (by first | assumption | omega) | exact sh_imgs _ (by first | assumption | omega)) (by decide) rfl (by decide) (Nat.le_of_ble_eq_true rfl) (c_X12_seen (k := 132 + 5 * x) hR hr.1.1 (by omega) (by decide) (by omega) ?_)
      refine v_aload_0 dX12_doesAgree_38 ?_
      refine u_getR dX12_doesAgree_39 gf_X12_20 (by first | assumption | rfl | exact led_1 (by assumption) | exact led_2 (by assumption) | exact bk_m (by assumption) (by first | assumption | omega) | exact bk_p (by assumption) (by first | assumption | omega) | exact bk_o (by assumption) (by first | assumption | omega) | exact bk_s (by assumption) (by first | assumption | omega) | exact bk_1 (by assumption) | exact bk_2 (by assumption) | exact bk_3 (by assumption) | exact bk_4 (by assumption) | exact bk_5 (by assumption) | exact bk_6 (by assumption) | exact bk_7 (by assumption) | exact bk_8 (by assumption) | exact sh_ring _ (by first | assumption | omega) | exact sh_imgs _ (by first | assumption | omega)) (ro_X12_15 (by assumption)) ?_
      refine v_bipush (v := nI 44) dX12_doesAgree_42 (by decide) ?_
      refine v_iload_2 dX12_doesAgree_44 ?_
      refine v_iadd dX12_doesAgree_45 ?_
      refine u_iald dX12_doesAgree_46 (by first | assumption | rfl | exact led_1 (by assumption) | exact led_2 (by assumption) | exact bk_m (by assumption) (by first | assumption | omega) | exact bk_p (by assumption) (by first | assumption | omega) | exact bk_o (by assumption) (by first | assumption | omega) | exact bk_s (by assumption) (by first | assumption | omega) | exact bk_1 (by assumption) | exact bk_2 (by assumption) | exact bk_3 (by assumption) | exact bk_4 (by assumption) | exact bk_5 (by assumption) | exact bk_6 (by assumption) | exact bk_7 (by assumption) | exact bk_8 (by assumption) | exact sh_ring _ (by first | assumption | omega) | exact sh_imgs _ (by first | assumption | omega)) (by first | with_reducible rfl | (simp only [nlit, nI_add, pk_mul]; with_reducible rfl) | rfl) (by first | assumption | omega) (by first | assumption | decide) ?_
      rw [hF _ (by omega)]
      refine v_icmp_ne (tgt := 54) dX12_doesAgree_47 (by decide) (fun hc47 => ?_) (fun hc47 => ?_)
      · (try rw [nI_eq (by omega) (by omega)] at hc47)
        refine v_iconst (v := nI 0) dX12_doesAgree_54 (by decide) ?_
        refine v_zret dX12_doesAgree_55 (by first | rfl | exact bI_n _) rfl rfl rfl rfl ?_
        first
          | (have q : adf (F (131 + 5 * x)) (F (26 + p)) ≤ 1 := (by omega); have e : resF F x p = true := (by unfold resF resv; simp [hc20, hc29, hc47, q]; done); rw [e] at hQ; exact hQ)
          | (have q : ¬ adf (F (131 + 5 * x)) (F (26 + p)) ≤ 1 := (by omega); have e : resF F x p = false := (by unfold resF resv; simp [q]; done); rw [e] at hQ; exact hQ)
          | (have e : resF F x p = false := (by unfold resF resv; simp [hc20, hc29, hc47]; done); rw [e] at hQ; exact hQ)
      · (try rw [nI_eq (by omega) (by omega)] at hc47)
        refine v_iconst (v := nI 1) dX12_doesAgree_50 (by decide) ?_
        refine v_goto (tgt := 55) dX12_doesAgree_51 (by decide) ?_
        refine v_zret dX12_doesAgree_55 (by first | rfl | exact bI_n _) rfl rfl rfl rfl ?_
        first
          | (have q : adf (F (131 + 5 * x)) (F (26 + p)) ≤ 1 := (by omega); have e : resF F x p = true := (by unfold resF resv; simp [hc20, hc29, hc47, q]; done); rw [e] at hQ; exact hQ)
          | (have q : ¬ adf (F (131 + 5 * x)) (F (26 + p)) ≤ 1 := (by omega); have e : resF F x p = false := (by unfold resF resv; simp [q]; done); rw [e] at hQ; exact hQ)
          | (have e : resF F x p = false := (by unfold resF resv; simp [hc20, hc29, hc47]; done); rw [e] at hQ; exact hQ)
theorem l_real {d : Nat} {w : Int32} {a0 : Int32} (hR : RO R) (hr : RfI I F s) (hd : d < 2 ^ 31) (hQ : VV yX12_real cX12_real 5 (some .int) 8 Q b ad 90 [some (.ref (b + 157)), some (.int (nI d)), some (.int w), some (.int (sui (balonf F s.1 s.2.1 s.2.2 d) 0 (F 4) a0)), some (.int (nI (F 4)))] [] I L R) : VV yX12_real cX12_real 5 (some .int) 8 Q b ad 28 [some (.ref (b + 157)), some (.int (nI d)), some (.int w), some (.int a0), some (.int (nI 0))] [] I L R := by
  have hO := hr.1.2.2.1
  have o2 := hO.2.2.1
  have o3 := hO.2.2.2.1
  have o4 := hO.2.2.2.2.1
  have o0 := hO.1
  have hF := hr.1.1.2
  have hK := hr.2.2
  have loop : ∀ (j i : Nat) (acc : Int32), i + j = F 4 → sui (balonf F s.1 s.2.1 s.2.2 d) i j acc = sui (balonf F s.1 s.2.1 s.2.2 d) 0 (F 4) a0 → VV yX12_real cX12_real 5 (some .int) 8 Q b ad 28 [some (.ref (b + 157)), some (.int (nI d)), some (.int w), some (.int acc), some (.int (nI i))] [] I L R := by
    intro j
    induction j with
    | zero =>
      intro i acc hi he
      have hi : i = F 4 := hi
      have he : acc = _ := he
      subst he; subst hi
      refine v_iload_4 dX12_real_28 ?_
      refine v_aload_0 dX12_real_30 ?_
      refine u_getR dX12_real_31 gf_X12_20 (by first | assumption | rfl | exact led_1 (by assumption) | exact led_2 (by assumption) | exact bk_m (by assumption) (by first | assumption | omega) | exact bk_p (by assumption) (by first | assumption | omega) | exact bk_o (by assumption) (by first | assumption | omega) | exact bk_s (by assumption) (by first | assumption | omega) | exact bk_1 (by assumption) | exact bk_2 (by assumption) | exact bk_3 (by assumption) | exact bk_4 (by assumption) | exact bk_5 (by assumption) | exact bk_6 (by assumption) | exact bk_7 (by assumption) | exact bk_8 (by assumption) | exact sh_ring _ (by first | assumption | omega) | exact sh_imgs _ (by first | assumption | omega)) (ro_X12_15 (by assumption)) ?_
      refine v_iconst (v := nI 4) dX12_real_34 (by decide) ?_
      refine u_iald dX12_real_35 (by first | assumption | rfl | exact led_1 (by assumption) | exact led_2 (by assumption) | exact bk_m (by assumption) (by first | assumption | omega) | exact bk_p (by assumption) (by first | assumption | omega) | exact bk_o (by assumption) (by first | assumption | omega) | exact bk_s (by assumption) (by first | assumption | omega) | exact bk_1 (by assumption) | exact bk_2 (by assumption) | exact bk_3 (by assumption) | exact bk_4 (by assumption) | exact bk_5 (by assumption) | exact bk_6 (by assumption) | exact bk_7 (by assumption) | exact bk_8 (by assumption) | exact sh_ring _ (by first | assumption | omega) | exact sh_imgs _ (by first | assumption | omega)) (by first | with_reducible rfl | (simp only [nlit, nI_add, pk_mul]; with_reducible rfl) | rfl) (by first | assumption | omega) (by first | assumption | decide) ?_
      rw [hF 4 (by decide)]
      refine v_icmp_ge (tgt := 90) dX12_real_36 (by decide) (fun hc36 => ?_) (fun hc36 => ?_)
      · (try rw [nI_leI (by omega) (by omega)] at hc36)
        exact hQ
      · exact absurd (nI_le (by omega) (by omega)) hc36
    | succ j ih =>
      intro i acc hij he
      have hi : i < F 4 := by omega
      obtain ⟨y1, y2, y3, y4, y5, y6, y7⟩ := fk_o hO hi
      refine v_iload_4 dX12_real_28 ?_
      refine v_aload_0 dX12_real_30 ?_
      refine u_getR dX12_real_31 gf_X12_20 (by first | assumption | rfl | exact led_1 (by assumption) | exact led_2 (by assumption) | exact bk_m (by assumption) (by first | assumption | omega) | exact bk_p (by assumption) (by first | assumption | omega) | exact bk_o (by assumption) (by first | assumption | omega) | exact bk_s (by assumption) (by first | assumption | omega) | exact bk_1 (by assumption) | exact bk_2 (by assumption) | exact bk_3 (by assumption) | exact bk_4 (by assumption) | exact bk_5 (by assumption) | exact bk_6 (by assumption) | exact bk_7 (by assumption) | exact bk_8 (by assumption) | exact sh_ring _ (by first | assumption | omega) | exact sh_imgs _ (by first | assumption | omega)) (ro_X12_15 (by assumption)) ?_
      refine v_iconst (v := nI 4) dX12_real_34 (by decide) ?_
      refine u_iald dX12_real_35 (by first | assumption | rfl | exact led_1 (by assumption) | exact led_2 (by assumption) | exact bk_m (by assumption) (by first | assumption | omega) | exact bk_p (by assumption) (by first | assumption | omega) | exact bk_o (by assumption) (by first | assumption | omega) | exact bk_s (by assumption) (by first | assumption | omega) | exact bk_1 (by assumption) | exact bk_2 (by assumption) | exact bk_3 (by assumption) | exact bk_4 (by assumption) | exact bk_5 (by assumption) | exact bk_6 (by assumption) | exact bk_7 (by assumption) | exact bk_8 (by assumption) | exact sh_ring _ (by first | assumption | omega) | exact sh_imgs _ (by first | assumption | omega)) (by first | with_reducible rfl | (simp only [nlit, nI_add, pk_mul]; with_reducible rfl) | rfl) (by first | assumption | omega) (by first | assumption | decide) ?_
      rw [hF 4 (by decide)]
      refine v_icmp_ge (tgt := 90) dX12_real_36 (by decide) (fun hc36 => ?_) (fun hc36 => ?_)
      · exact absurd hc36 (nI_ge (by omega) (by omega))
      · (try rw [nI_leI (by omega) (by omega)] at hc36)
        refine v_iload_3 dX12_real_39 ?_
        refine v_aload_0 dX12_real_40 ?_
        refine v_iload_4 dX12_real_41 ?_
        refine v_iconst (v := nI 2) dX12_real_43 (by decide) ?_
        refine u_callV_2 dX12_real_44 ml_X12_319 mv_X12_own (by first | assumption | rfl | exact led_1 (by assumption) | exact led_2 (by assumption) | exact bk_m (by assumption) (by first | assumption | omega) | exact bk_p (by assumption) (by first | assumption | omega) | exact bk_o (by assumption) (by first | assumption | omega) | exact bk_s (by assumption) (by first | assumption | omega) | exact bk_1 (by assumption) | exact bk_2 (by assumption) | exact bk_3 (by assumption) | exact bk_4 (by assumption) | exact bk_5 (by assumption) | exact bk_6 (by assumption) | exact bk_7 (by assumption) | exact bk_8 (by assumption) | exact sh_ring _ (by first | assumption | omega) | exact sh_imgs _ (by first | assumption | omega)) (by decide) rfl (by decide) (Nat.le_of_ble_eq_true rfl) (c_X12_own (k := 58 + 6 * i) hR hr.1.1 (by omega) (by decide) (by omega) ?_)
        refine v_iload_1 dX12_real_47 ?_
        refine v_icmp_eq (tgt := 55) dX12_real_48 (by decide) (fun hc48 => ?_) (fun hc48 => ?_)
        · (try rw [nI_eq (by omega) (by omega)] at hc48)
          refine v_aload_0 dX12_real_55 ?_
          refine v_iload_4 dX12_real_56 ?_
          refine u_callV_1 dX12_real_58 ml_X12_334 mv_X12_isDone (by first | assumption | rfl | exact led_1 (by assumption) | exact led_2 (by assumption) | exact bk_m (by assumption) (by first | assumption | omega) | exact bk_p (by assumption) (by first | assumption | omega) | exact bk_o (by assumption) (by first | assumption | omega) | exact bk_s (by assumption) (by first | assumption | omega) | exact bk_1 (by assumption) | exact bk_2 (by assumption) | exact bk_3 (by assumption) | exact bk_4 (by assumption) | exact bk_5 (by assumption) | exact bk_6 (by assumption) | exact bk_7 (by assumption) | exact bk_8 (by assumption) | exact sh_ring _ (by first | assumption | omega) | exact sh_imgs _ (by first | assumption | omega)) (by decide) rfl (by decide) (Nat.le_of_ble_eq_true rfl) (c_X12_isDone hR hr hi ?_)
          refine v_if_eq (tgt := 74) dX12_real_61 (by decide) (fun hc61 => ?_) (fun hc61 => ?_)
          · (first | rw [bI_0, Bool.not_eq_false] at hc61 | rw [bI_0] at hc61 | rw [show (0 : Int32) = nI 0 from rfl, nI_eq (by omega) (by omega)] at hc61 | skip)
            refine v_aload_0 dX12_real_74 ?_
            refine v_iload_4 dX12_real_75 ?_
            refine v_iconst (v := nI 4) dX12_real_77 (by decide) ?_
            refine u_callV_2 dX12_real_78 ml_X12_319 mv_X12_own (by first | assumption | rfl | exact led_1 (by assumption) | exact led_2 (by assumption) | exact bk_m (by assumption) (by first | assumption | omega) | exact bk_p (by assumption) (by first | assumption | omega) | exact bk_o (by assumption) (by first | assumption | omega) | exact bk_s (by assumption) (by first | assumption | omega) | exact bk_1 (by assumption) | exact bk_2 (by assumption) | exact bk_3 (by assumption) | exact bk_4 (by assumption) | exact bk_5 (by assumption) | exact bk_6 (by assumption) | exact bk_7 (by assumption) | exact bk_8 (by assumption) | exact sh_ring _ (by first | assumption | omega) | exact sh_imgs _ (by first | assumption | omega)) (by decide) rfl (by decide) (Nat.le_of_ble_eq_true rfl) (c_X12_own (k := 60 + 6 * i) hR hr.1.1 (by omega) (by decide) (by omega) ?_)
            refine v_ineg dX12_real_81 ?_
            refine v_iadd dX12_real_82 ?_
            refine v_istore_3 rfl dX12_real_83 ?_
            refine v_iinc_4 (v := 1) rfl dX12_real_84 (by decide) ?_
            rw [show nI i + 1 = nI (i + 1) from nI_1 i]
            refine v_goto (tgt := 28) dX12_real_87 (by decide) ?_
            refine ih (i + 1) _ (by omega) ?_
            rw [← he]
            show _ = sui (balonf F s.1 s.2.1 s.2.2 d) (i + 1) j (acc + balonf F s.1 s.2.1 s.2.2 d i)
            congr 2
            unfold balonf
            first
              | (rw [if_neg hc48]; first | done | rfl)
              | (rw [if_pos hc48, hc61]; first | done | rfl)
          · (first | rw [bI_0, Bool.not_eq_false] at hc61 | rw [bI_0] at hc61 | rw [show (0 : Int32) = nI 0 from rfl, nI_eq (by omega) (by omega)] at hc61 | skip)
            refine v_aload_0 dX12_real_64 ?_
            refine v_iload_4 dX12_real_65 ?_
            refine v_iconst (v := nI 3) dX12_real_67 (by decide) ?_
            refine u_callV_2 dX12_real_68 ml_X12_319 mv_X12_own (by first | assumption | rfl | exact led_1 (by assumption) | exact led_2 (by assumption) | exact bk_m (by assumption) (by first | assumption | omega) | exact bk_p (by assumption) (by first | assumption | omega) | exact bk_o (by assumption) (by first | assumption | omega) | exact bk_s (by assumption) (by first | assumption | omega) | exact bk_1 (by assumption) | exact bk_2 (by assumption) | exact bk_3 (by assumption) | exact bk_4 (by assumption) | exact bk_5 (by assumption) | exact bk_6 (by assumption) | exact bk_7 (by assumption) | exact bk_8 (by assumption) | exact sh_ring _ (by first | assumption | omega) | exact sh_imgs _ (by first | assumption | omega)) (by decide) rfl (by decide) (Nat.le_of_ble_eq_true rfl) (c_X12_own (k := 59 + 6 * i) hR hr.1.1 (by omega) (by decide) (by omega) ?_)
            refine v_goto (tgt := 82) dX12_real_71 (by decide) ?_
            refine v_iadd dX12_real_82 ?_
            refine v_istore_3 rfl dX12_real_83 ?_
            refine v_iinc_4 (v := 1) rfl dX12_real_84 (by decide) ?_
            rw [show nI i + 1 = nI (i + 1) from nI_1 i]
            refine v_goto (tgt := 28) dX12_real_87 (by decide) ?_
            refine ih (i + 1) _ (by omega) ?_
            rw [← he]
            show _ = sui (balonf F s.1 s.2.1 s.2.2 d) (i + 1) j (acc + balonf F s.1 s.2.1 s.2.2 d i)
            congr 2
            unfold balonf
            first
              | (rw [if_neg hc48]; first | done | rfl)
              | (rw [if_pos hc48, hc61]; first | done | rfl)
        · (try rw [nI_eq (by omega) (by omega)] at hc48)
          refine v_iconst (v := nI 0) dX12_real_51 (by decide) ?_
          refine v_goto (tgt := 82) dX12_real_52 (by decide) ?_
          refine v_iadd dX12_real_82 ?_
          refine v_istore_3 rfl dX12_real_83 ?_
          refine v_iinc_4 (v := 1) rfl dX12_real_84 (by decide) ?_
          rw [show nI i + 1 = nI (i + 1) from nI_1 i]
          refine v_goto (tgt := 28) dX12_real_87 (by decide) ?_
          refine ih (i + 1) _ (by omega) ?_
          rw [← he]
          show _ = sui (balonf F s.1 s.2.1 s.2.2 d) (i + 1) j (acc + balonf F s.1 s.2.1 s.2.2 d i)
          congr 2
          unfold balonf
          first
            | (rw [if_neg hc48]; first | done | rfl)
            | (rw [if_pos hc48, hc61]; first | done | rfl)
  exact loop (F 4) 0 a0 (by omega) rfl
theorem l_gain {d p : Nat} {a0 : Int32} (hR : RO R) (hr : RfI I F s) (hd : d < 2 ^ 31) (hp : p < 2 ^ 31) (hQ : VV yX12_gain cX12_gain 5 (some .int) 8 Q b ad 118 [some (.ref (b + 157)), some (.int (nI p)), some (.int (nI d)), some (.int (sui (earnf F s.1 s.2.1 s.2.2 (some p) d) 0 (F 4) a0)), some (.int (nI (F 4)))] [] I L R) : VV yX12_gain cX12_gain 5 (some .int) 8 Q b ad 49 [some (.ref (b + 157)), some (.int (nI p)), some (.int (nI d)), some (.int a0), some (.int (nI 0))] [] I L R := by
  have hO := hr.1.2.2.1
  have o2 := hO.2.2.1
  have o3 := hO.2.2.2.1
  have o4 := hO.2.2.2.2.1
  have o0 := hO.1
  have hF := hr.1.1.2
  have hK := hr.2.2
  have loop : ∀ (j i : Nat) (acc : Int32), i + j = F 4 → sui (earnf F s.1 s.2.1 s.2.2 (some p) d) i j acc = sui (earnf F s.1 s.2.1 s.2.2 (some p) d) 0 (F 4) a0 → VV yX12_gain cX12_gain 5 (some .int) 8 Q b ad 49 [some (.ref (b + 157)), some (.int (nI p)), some (.int (nI d)), some (.int acc), some (.int (nI i))] [] I L R := by
    intro j
    induction j with
    | zero =>
      intro i acc hi he
      have hi : i = F 4 := hi
      have he : acc = _ := he
      subst he; subst hi
      refine v_iload_4 dX12_gain_49 ?_
      refine v_aload_0 dX12_gain_51 ?_
      refine u_getR dX12_gain_52 gf_X12_20 (by first | assumption | rfl | exact led_1 (by assumption) | exact led_2 (by assumption) | exact bk_m (by assumption) (by first | assumption | omega) | exact bk_p (by assumption) (by first | assumption | omega) | exact bk_o (by assumption) (by first | assumption | omega) | exact bk_s (by assumption) (by first | assumption | omega) | exact bk_1 (by assumption) | exact bk_2 (by assumption) | exact bk_3 (by assumption) | exact bk_4 (by assumption) | exact bk_5 (by assumption) | exact bk_6 (by assumption) | exact bk_7 (by assumption) | exact bk_8 (by assumption) | exact sh_ring _ (by first | assumption | omega) | exact sh_imgs _ (by first | assumption | omega)) (ro_X12_15 (by assumption)) ?_
      refine v_iconst (v := nI 4) dX12_gain_55 (by decide) ?_
      refine u_iald dX12_gain_56 (by first | assumption | rfl | exact led_1 (by assumption) | exact led_2 (by assumption) | exact bk_m (by assumption) (by first | assumption | omega) | exact bk_p (by assumption) (by first | assumption | omega) | exact bk_o (by assumption) (by first | assumption | omega) | exact bk_s (by assumption) (by first | assumption | omega) | exact bk_1 (by assumption) | exact bk_2 (by assumption) | exact bk_3 (by assumption) | exact bk_4 (by assumption) | exact bk_5 (by assumption) | exact bk_6 (by assumption) | exact bk_7 (by assumption) | exact bk_8 (by assumption) | exact sh_ring _ (by first | assumption | omega) | exact sh_imgs _ (by first | assumption | omega)) (by first | with_reducible rfl | (simp only [nlit, nI_add, pk_mul]; with_reducible rfl) | rfl) (by first | assumption | omega) (by first | assumption | decide) ?_
      rw [hF 4 (by decide)]
      refine v_icmp_ge (tgt := 118) dX12_gain_57 (by decide) (fun hc57 => ?_) (fun hc57 => ?_)
      · (try rw [nI_leI (by omega) (by omega)] at hc57)
        exact hQ
      · exact absurd (nI_le (by omega) (by omega)) hc57
    | succ j ih =>
      intro i acc hij he
      have hi : i < F 4 := by omega
      obtain ⟨y1, y2, y3, y4, y5, y6, y7⟩ := fk_o hO hi
      refine v_iload_4 dX12_gain_49 ?_
      refine v_aload_0 dX12_gain_51 ?_
      refine u_getR dX12_gain_52 gf_X12_20 (by first | assumption | rfl | exact led_1 (by assumption) | exact led_2 (by assumption) | exact bk_m (by assumption) (by first | assumption | omega) | exact bk_p (by assumption) (by first | assumption | omega) | exact bk_o (by assumption) (by first | assumption | omega) | exact bk_s (by assumption) (by first | assumption | omega) | exact bk_1 (by assumption) | exact bk_2 (by assumption) | exact bk_3 (by assumption) | exact bk_4 (by assumption) | exact bk_5 (by assumption) | exact bk_6 (by assumption) | exact bk_7 (by assumption) | exact bk_8 (by assumption) | exact sh_ring _ (by first | assumption | omega) | exact sh_imgs _ (by first | assumption | omega)) (ro_X12_15 (by assumption)) ?_
      refine v_iconst (v := nI 4) dX12_gain_55 (by decide) ?_
      refine u_iald dX12_gain_56 (by first | assumption | rfl | exact led_1 (by assumption) | exact led_2 (by assumption) | exact bk_m (by assumption) (by first | assumption | omega) | exact bk_p (by assumption) (by first | assumption | omega) | exact bk_o (by assumption) (by first | assumption | omega) | exact bk_s (by assumption) (by first | assumption | omega) | exact bk_1 (by assumption) | exact bk_2 (by assumption) | exact bk_3 (by assumption) | exact bk_4 (by assumption) | exact bk_5 (by assumption) | exact bk_6 (by assumption) | exact bk_7 (by assumption) | exact bk_8 (by assumption) | exact sh_ring _ (by first | assumption | omega) | exact sh_imgs _ (by first | assumption | omega)) (by first | with_reducible rfl | (simp only [nlit, nI_add, pk_mul]; with_reducible rfl) | rfl) (by first | assumption | omega) (by first | assumption | decide) ?_
      rw [hF 4 (by decide)]
      refine v_icmp_ge (tgt := 118) dX12_gain_57 (by decide) (fun hc57 => ?_) (fun hc57 => ?_)
      · exact absurd hc57 (nI_ge (by omega) (by omega))
      · (try rw [nI_leI (by omega) (by omega)] at hc57)
        refine v_iload_3 dX12_gain_60 ?_
        refine v_aload_0 dX12_gain_61 ?_
        refine v_iload_4 dX12_gain_62 ?_
        refine v_iconst (v := nI 2) dX12_gain_64 (by decide) ?_
        refine u_callV_2 dX12_gain_65 ml_X12_319 mv_X12_own (by first | assumption | rfl | exact led_1 (by assumption) | exact led_2 (by assumption) | exact bk_m (by assumption) (by first | assumption | omega) | exact bk_p (by assumption) (by first | assumption | omega) | exact bk_o (by assumption) (by first | assumption | omega) | exact bk_s (by assumption) (by first | assumption | omega) | exact bk_1 (by assumption) | exact bk_2 (by assumption) | exact bk_3 (by assumption) | exact bk_4 (by assumption) | exact bk_5 (by assumption) | exact bk_6 (by assumption) | exact bk_7 (by assumption) | exact bk_8 (by assumption) | exact sh_ring _ (by first | assumption | omega) | exact sh_imgs _ (by first | assumption | omega)) (by decide) rfl (by decide) (Nat.le_of_ble_eq_true rfl) (c_X12_own (k := 58 + 6 * i) hR hr.1.1 (by omega) (by decide) (by omega) ?_)
        refine v_iload_2 dX12_gain_68 ?_
        refine v_icmp_gt (tgt := 109) dX12_gain_69 (by decide) (fun hc69 => ?_) (fun hc69 => ?_)
        · (try rw [nI_ltI (by omega) (by omega)] at hc69)
          refine v_iconst (v := nI 0) dX12_gain_109 (by decide) ?_
          refine v_iadd dX12_gain_110 ?_
          refine v_istore_3 rfl dX12_gain_111 ?_
          refine v_iinc_4 (v := 1) rfl dX12_gain_112 (by decide) ?_
          rw [show nI i + 1 = nI (i + 1) from nI_1 i]
          refine v_goto (tgt := 49) dX12_gain_115 (by decide) ?_
          refine ih (i + 1) _ (by omega) ?_
          rw [← he]
          show _ = sui (earnf F s.1 s.2.1 s.2.2 (some p) d) (i + 1) j (acc + earnf F s.1 s.2.1 s.2.2 (some p) d i)
          congr 2
          unfold earnf
          first
            | (rw [if_neg (by omega)]; first | done | rfl)
            | (rw [if_pos (by omega), if_neg hc79]; first | done | rfl)
            | (rw [if_pos (by omega), if_pos hc79, hc88]; first | done | rfl)
        · (try rw [nI_ltI (by omega) (by omega)] at hc69)
          refine v_aload_0 dX12_gain_72 ?_
          refine v_iload_4 dX12_gain_73 ?_
          refine u_callV_1 dX12_gain_75 ml_X12_322 mv_X12_owed (by first | assumption | rfl | exact led_1 (by assumption) | exact led_2 (by assumption) | exact bk_m (by assumption) (by first | assumption | omega) | exact bk_p (by assumption) (by first | assumption | omega) | exact bk_o (by assumption) (by first | assumption | omega) | exact bk_s (by assumption) (by first | assumption | omega) | exact bk_1 (by assumption) | exact bk_2 (by assumption) | exact bk_3 (by assumption) | exact bk_4 (by assumption) | exact bk_5 (by assumption) | exact bk_6 (by assumption) | exact bk_7 (by assumption) | exact bk_8 (by assumption) | exact sh_ring _ (by first | assumption | omega) | exact sh_imgs _ (by first | assumption | omega)) (by decide) rfl (by decide) (Nat.le_of_ble_eq_true rfl) (c_X12_owed hR hr hi ?_)
          refine v_iload_1 dX12_gain_78 ?_
          refine v_icmp_ne (tgt := 109) dX12_gain_79 (by decide) (fun hc79 => ?_) (fun hc79 => ?_)
          · rw [show nI p = eP (some p) from rfl, eP_inj (fun p q => by have := owe_lt hK.pers q; omega) (fun z e => by cases e; omega)] at hc79
            refine v_iconst (v := nI 0) dX12_gain_109 (by decide) ?_
            refine v_iadd dX12_gain_110 ?_
            refine v_istore_3 rfl dX12_gain_111 ?_
            refine v_iinc_4 (v := 1) rfl dX12_gain_112 (by decide) ?_
            rw [show nI i + 1 = nI (i + 1) from nI_1 i]
            refine v_goto (tgt := 49) dX12_gain_115 (by decide) ?_
            refine ih (i + 1) _ (by omega) ?_
            rw [← he]
            show _ = sui (earnf F s.1 s.2.1 s.2.2 (some p) d) (i + 1) j (acc + earnf F s.1 s.2.1 s.2.2 (some p) d i)
            congr 2
            unfold earnf
            first
              | (rw [if_neg (by omega)]; first | done | rfl)
              | (rw [if_pos (by omega), if_neg hc79]; first | done | rfl)
              | (rw [if_pos (by omega), if_pos hc79, hc88]; first | done | rfl)
          · rw [show nI p = eP (some p) from rfl, eP_inj (fun p q => by have := owe_lt hK.pers q; omega) (fun z e => by cases e; omega)] at hc79
            refine v_aload_0 dX12_gain_82 ?_
            refine v_iload_4 dX12_gain_83 ?_
            refine u_callV_1 dX12_gain_85 ml_X12_334 mv_X12_isDone (by first | assumption | rfl | exact led_1 (by assumption) | exact led_2 (by assumption) | exact bk_m (by assumption) (by first | assumption | omega) | exact bk_p (by assumption) (by first | assumption | omega) | exact bk_o (by assumption) (by first | assumption | omega) | exact bk_s (by assumption) (by first | assumption | omega) | exact bk_1 (by assumption) | exact bk_2 (by assumption) | exact bk_3 (by assumption) | exact bk_4 (by assumption) | exact bk_5 (by assumption) | exact bk_6 (by assumption) | exact bk_7 (by assumption) | exact bk_8 (by assumption) | exact sh_ring _ (by first | assumption | omega) | exact sh_imgs _ (by first | assumption | omega)) (by decide) rfl (by decide) (Nat.le_of_ble_eq_true rfl) (c_X12_isDone hR hr hi ?_)
            refine v_if_eq (tgt := 109) dX12_gain_88 (by decide) (fun hc88 => ?_) (fun hc88 => ?_)
            · (first | rw [bI_0, Bool.not_eq_false] at hc88 | rw [bI_0] at hc88 | rw [show (0 : Int32) = nI 0 from rfl, nI_eq (by omega) (by omega)] at hc88 | skip)
              refine v_iconst (v := nI 0) dX12_gain_109 (by decide) ?_
              refine v_iadd dX12_gain_110 ?_
              refine v_istore_3 rfl dX12_gain_111 ?_
              refine v_iinc_4 (v := 1) rfl dX12_gain_112 (by decide) ?_
              rw [show nI i + 1 = nI (i + 1) from nI_1 i]
              refine v_goto (tgt := 49) dX12_gain_115 (by decide) ?_
              refine ih (i + 1) _ (by omega) ?_
              rw [← he]
              show _ = sui (earnf F s.1 s.2.1 s.2.2 (some p) d) (i + 1) j (acc + earnf F s.1 s.2.1 s.2.2 (some p) d i)
              congr 2
              unfold earnf
              first
                | (rw [if_neg (by omega)]; first | done | rfl)
                | (rw [if_pos (by omega), if_neg hc79]; first | done | rfl)
                | (rw [if_pos (by omega), if_pos hc79, hc88]; first | done | rfl)
            · (first | rw [bI_0, Bool.not_eq_false] at hc88 | rw [bI_0] at hc88 | rw [show (0 : Int32) = nI 0 from rfl, nI_eq (by omega) (by omega)] at hc88 | skip)
              refine v_aload_0 dX12_gain_91 ?_
              refine v_iload_4 dX12_gain_92 ?_
              refine v_iconst (v := nI 3) dX12_gain_94 (by decide) ?_
              refine u_callV_2 dX12_gain_95 ml_X12_319 mv_X12_own (by first | assumption | rfl | exact led_1 (by assumption) | exact led_2 (by assumption) | exact bk_m (by assumption) (by first | assumption | omega) | exact bk_p (by assumption) (by first | assumption | omega) | exact bk_o (by assumption) (by first | assumption | omega) | exact bk_s (by assumption) (by first | assumption | omega) | exact bk_1 (by assumption) | exact bk_2 (by assumption) | exact bk_3 (by assumption) | exact bk_4 (by assumption) | exact bk_5 (by assumption) | exact bk_6 (by assumption) | exact bk_7 (by assumption) | exact bk_8 (by assumption) | exact sh_ring _ (by first | assumption | omega) | exact sh_imgs _ (by first | assumption | omega)) (by decide) rfl (by decide) (Nat.le_of_ble_eq_true rfl) (c_X12_own (k := 59 + 6 * i) hR hr.1.1 (by omega) (by decide) (by omega) ?_)
              refine v_aload_0 dX12_gain_98 ?_
              refine v_iload_4 dX12_gain_99 ?_
              refine v_iconst (v := nI 5) dX12_gain_101 (by decide) ?_
              refine u_callV_2 dX12_gain_102 ml_X12_319 mv_X12_own (by first | assumption | rfl | exact led_1 (by assumption) | exact led_2 (by assumption) | exact bk_m (by assumption) (by first | assumption | omega) | exact bk_p (by assumption) (by first | assumption | omega) | exact bk_o (by assumption) (by first | assumption | omega) | exact bk_s (by assumption) (by first | assumption | omega) | exact bk_1 (by assumption) | exact bk_2 (by assumption) | exact bk_3 (by assumption) | exact bk_4 (by assumption) | exact bk_5 (by assumption) | exact bk_6 (by assumption) | exact bk_7 (by assumption) | exact bk_8 (by assumption) | exact sh_ring _ (by first | assumption | omega) | exact sh_imgs _ (by first | assumption | omega)) (by decide) rfl (by decide) (Nat.le_of_ble_eq_true rfl) (c_X12_own (k := 61 + 6 * i) hR hr.1.1 (by omega) (by decide) (by omega) ?_)
              refine v_isub dX12_gain_105 ?_
              refine v_goto (tgt := 110) dX12_gain_106 (by decide) ?_
              refine v_iadd dX12_gain_110 ?_
              refine v_istore_3 rfl dX12_gain_111 ?_
              refine v_iinc_4 (v := 1) rfl dX12_gain_112 (by decide) ?_
              rw [show nI i + 1 = nI (i + 1) from nI_1 i]
              refine v_goto (tgt := 49) dX12_gain_115 (by decide) ?_
              refine ih (i + 1) _ (by omega) ?_
              rw [← he]
              show _ = sui (earnf F s.1 s.2.1 s.2.2 (some p) d) (i + 1) j (acc + earnf F s.1 s.2.1 s.2.2 (some p) d i)
              congr 2
              unfold earnf
              first
                | (rw [if_neg (by omega)]; first | done | rfl)
                | (rw [if_pos (by omega), if_neg hc79]; first | done | rfl)
                | (rw [if_pos (by omega), if_pos hc79, hc88]; first | done | rfl)
  exact loop (F 4) 0 a0 (by omega) rfl
theorem l_ask {m p d d2 : Nat} {a0 : Int32} (hR : RO R) (hr : RfI I F s) (hm : m < 2 ^ 31) (hd : d < 2 ^ 31) (hd2 : d2 < 2 ^ 31) (hQ : VV yX12_ask cX12_ask 7 (some .int) 8 Q b ad 126 [some (.ref (b + 157)), some (.int (nI m)), some (.int (nI p)), some (.int (nI d)), some (.int (nI d2)), some (.int (sui (pricef F m d d2) 0 (F 4) a0)), some (.int (nI (F 4)))] [] I L R) : VV yX12_ask cX12_ask 7 (some .int) 8 Q b ad 66 [some (.ref (b + 157)), some (.int (nI m)), some (.int (nI p)), some (.int (nI d)), some (.int (nI d2)), some (.int a0), some (.int (nI 0))] [] I L R := by
  have hO := hr.1.2.2.1
  have o2 := hO.2.2.1
  have o3 := hO.2.2.2.1
  have o4 := hO.2.2.2.2.1
  have o0 := hO.1
  have hF := hr.1.1.2
  have hK := hr.2.2
  have loop : ∀ (j i : Nat) (acc : Int32), i + j = F 4 → sui (pricef F m d d2) i j acc = sui (pricef F m d d2) 0 (F 4) a0 → VV yX12_ask cX12_ask 7 (some .int) 8 Q b ad 66 [some (.ref (b + 157)), some (.int (nI m)), some (.int (nI p)), some (.int (nI d)), some (.int (nI d2)), some (.int acc), some (.int (nI i))] [] I L R := by
    intro j
    induction j with
    | zero =>
      intro i acc hi he
      have hi : i = F 4 := hi
      have he : acc = _ := he
      subst he; subst hi
      refine v_iload_6 dX12_ask_66 ?_
      refine v_aload_0 dX12_ask_68 ?_
      refine u_getR dX12_ask_69 gf_X12_20 (by first | assumption | rfl | exact led_1 (by assumption) | exact led_2 (by assumption) | exact bk_m (by assumption) (by first | assumption | omega) | exact bk_p (by assumption) (by first | assumption | omega) | exact bk_o (by assumption) (by first | assumption | omega) | exact bk_s (by assumption) (by first | assumption | omega) | exact bk_1 (by assumption) | exact bk_2 (by assumption) | exact bk_3 (by assumption) | exact bk_4 (by assumption) | exact bk_5 (by assumption) | exact bk_6 (by assumption) | exact bk_7 (by assumption) | exact bk_8 (by assumption) | exact sh_ring _ (by first | assumption | omega) | exact sh_imgs _ (by first | assumption | omega)) (ro_X12_15 (by assumption)) ?_
      refine v_iconst (v := nI 4) dX12_ask_72 (by decide) ?_
      refine u_iald dX12_ask_73 (by first | assumption | rfl | exact led_1 (by assumption) | exact led_2 (by assumption) | exact bk_m (by assumption) (by first | assumption | omega) | exact bk_p (by assumption) (by first | assumption | omega) | exact bk_o (by assumption) (by first | assumption | omega) | exact bk_s (by assumption) (by first | assumption | omega) | exact bk_1 (by assumption) | exact bk_2 (by assumption) | exact bk_3 (by assumption) | exact bk_4 (by assumption) | exact bk_5 (by assumption) | exact bk_6 (by assumption) | exact bk_7 (by assumption) | exact bk_8 (by assumption) | exact sh_ring _ (by first | assumption | omega) | exact sh_imgs _ (by first | assumption | omega)) (by first | with_reducible rfl | (simp only [nlit, nI_add, pk_mul]; with_reducible rfl) | rfl) (by first | assumption | omega) (by first | assumption | decide) ?_
      rw [hF 4 (by decide)]
      refine v_icmp_ge (tgt := 126) dX12_ask_74 (by decide) (fun hc74 => ?_) (fun hc74 => ?_)
      · (try rw [nI_leI (by omega) (by omega)] at hc74)
        exact hQ
      · exact absurd (nI_le (by omega) (by omega)) hc74
    | succ j ih =>
      intro i acc hij he
      have hi : i < F 4 := by omega
      obtain ⟨y1, y2, y3, y4, y5, y6, y7⟩ := fk_o hO hi
      refine v_iload_6 dX12_ask_66 ?_
      refine v_aload_0 dX12_ask_68 ?_
      refine u_getR dX12_ask_69 gf_X12_20 (by first | assumption | rfl | exact led_1 (by assumption) | exact led_2 (by assumption) | exact bk_m (by assumption) (by first | assumption | omega) | exact bk_p (by assumption) (by first | assumption | omega) | exact bk_o (by assumption) (by first | assumption | omega) | exact bk_s (by assumption) (by first | assumption | omega) | exact bk_1 (by assumption) | exact bk_2 (by assumption) | exact bk_3 (by assumption) | exact bk_4 (by assumption) | exact bk_5 (by assumption) | exact bk_6 (by assumption) | exact bk_7 (by assumption) | exact bk_8 (by assumption) | exact sh_ring _ (by first | assumption | omega) | exact sh_imgs _ (by first | assumption | omega)) (ro_X12_15 (by assumption)) ?_
      refine v_iconst (v := nI 4) dX12_ask_72 (by decide) ?_
      refine u_iald dX12_ask_73 (by first | assumption | rfl | exact led_1 (by assumption) | exact led_2 (by assumption) | exact bk_m (by assumption) (by first | assumption | omega) | exact bk_p (by assumption) (by first | assumption | omega) | exact bk_o (by assumption) (by first | assumption | omega) | exact bk_s (by assumption) (by first | assumption | omega) | exact bk_1 (by assumption) | exact bk_2 (by assumption) | exact bk_3 (by assumption) | exact bk_4 (by assumption) | exact bk_5 (by assumption) | exact bk_6 (by assumption) | exact bk_7 (by assumption) | exact bk_8 (by assumption) | exact sh_ring _ (by first | assumption | omega) | exact sh_imgs _ (by first | assumption | omega)) (by first | with_reducible rfl | (simp only [nlit, nI_add, pk_mul]; with_reducible rfl) | rfl) (by first | assumption | omega) (by first | assumption | decide) ?_
      rw [hF 4 (by decide)]
      refine v_icmp_ge (tgt := 126) dX12_ask_74 (by decide) (fun hc74 => ?_) (fun hc74 => ?_)
      · exact absurd hc74 (nI_ge (by omega) (by omega))
      · (try rw [nI_leI (by omega) (by omega)] at hc74)
        refine v_iload_5 dX12_ask_77 ?_
        refine v_aload_0 dX12_ask_79 ?_
        refine v_iload_6 dX12_ask_80 ?_
        refine v_iconst (v := nI 0) dX12_ask_82 (by decide) ?_
        refine u_callV_2 dX12_ask_83 ml_X12_319 mv_X12_own (by first | assumption | rfl | exact led_1 (by assumption) | exact led_2 (by assumption) | exact bk_m (by assumption) (by first | assumption | omega) | exact bk_p (by assumption) (by first | assumption | omega) | exact bk_o (by assumption) (by first | assumption | omega) | exact bk_s (by assumption) (by first | assumption | omega) | exact bk_1 (by assumption) | exact bk_2 (by assumption) | exact bk_3 (by assumption) | exact bk_4 (by assumption) | exact bk_5 (by assumption) | exact bk_6 (by assumption) | exact bk_7 (by assumption) | exact bk_8 (by assumption) | exact sh_ring _ (by first | assumption | omega) | exact sh_imgs _ (by first | assumption | omega)) (by decide) rfl (by decide) (Nat.le_of_ble_eq_true rfl) (c_X12_own (k := 56 + 6 * i) hR hr.1.1 (by omega) (by decide) (by omega) ?_)
        refine v_iload_1 dX12_ask_86 ?_
        refine v_icmp_ne (tgt := 116) dX12_ask_87 (by decide) (fun hc87 => ?_) (fun hc87 => ?_)
        · (try rw [nI_eq (by omega) (by omega)] at hc87)
          refine v_iconst (v := nI 0) dX12_ask_116 (by decide) ?_
          refine v_iadd dX12_ask_117 ?_
          refine v_istore_5 rfl dX12_ask_118 ?_
          refine v_iinc_6 (v := 1) rfl dX12_ask_120 (by decide) ?_
          rw [show nI i + 1 = nI (i + 1) from nI_1 i]
          refine v_goto (tgt := 66) dX12_ask_123 (by decide) ?_
          refine ih (i + 1) _ (by omega) ?_
          rw [← he]
          show _ = sui (pricef F m d d2) (i + 1) j (acc + pricef F m d d2 i)
          congr 2
          unfold pricef
          first
            | (rw [if_neg hc87]; first | done | rfl)
            | (rw [Bool.and_eq_true, decide_eq_true_eq, decide_eq_true_eq, nI_leI (by omega) (by omega), nI_leI (by omega) (by omega)] at hc103; rw [if_pos hc87, if_pos hc103.1, if_pos hc103.2]; first | done | rfl)
            | (rw [if_pos hc87]; by_cases q1 : d ≤ F (58 + 6 * i)
               · rw [if_pos q1, if_neg]; first | done | rfl
                 intro q2; rw [decide_eq_true ((nI_leI (by omega) (by omega)).mpr q1), decide_eq_true ((nI_leI (by omega) (by omega)).mpr q2)] at hc103; cases hc103
               · rw [if_neg q1]; first | done | rfl)
        · (try rw [nI_eq (by omega) (by omega)] at hc87)
          refine v_aload_0 dX12_ask_90 ?_
          refine v_iload_6 dX12_ask_91 ?_
          refine v_iconst (v := nI 2) dX12_ask_93 (by decide) ?_
          refine u_callV_2 dX12_ask_94 ml_X12_319 mv_X12_own (by first | assumption | rfl | exact led_1 (by assumption) | exact led_2 (by assumption) | exact bk_m (by assumption) (by first | assumption | omega) | exact bk_p (by assumption) (by first | assumption | omega) | exact bk_o (by assumption) (by first | assumption | omega) | exact bk_s (by assumption) (by first | assumption | omega) | exact bk_1 (by assumption) | exact bk_2 (by assumption) | exact bk_3 (by assumption) | exact bk_4 (by assumption) | exact bk_5 (by assumption) | exact bk_6 (by assumption) | exact bk_7 (by assumption) | exact bk_8 (by assumption) | exact sh_ring _ (by first | assumption | omega) | exact sh_imgs _ (by first | assumption | omega)) (by decide) rfl (by decide) (Nat.le_of_ble_eq_true rfl) (c_X12_own (k := 58 + 6 * i) hR hr.1.1 (by omega) (by decide) (by omega) ?_)
          refine v_iload_3 dX12_ask_97 ?_
          refine v_iload_4 dX12_ask_98 ?_
          refine u_callS_3 dX12_ask_100 ml_X12_154 ms_X12_within (by decide) (Nat.le_of_ble_eq_true rfl) (c_X12_within ?_)
          refine v_if_eq (tgt := 116) dX12_ask_103 (by decide) (fun hc103 => ?_) (fun hc103 => ?_)
          · (first | rw [bI_0, Bool.not_eq_false] at hc103 | rw [bI_0] at hc103 | rw [show (0 : Int32) = nI 0 from rfl, nI_eq (by omega) (by omega)] at hc103 | skip)
            refine v_iconst (v := nI 0) dX12_ask_116 (by decide) ?_
            refine v_iadd dX12_ask_117 ?_
            refine v_istore_5 rfl dX12_ask_118 ?_
            refine v_iinc_6 (v := 1) rfl dX12_ask_120 (by decide) ?_
            rw [show nI i + 1 = nI (i + 1) from nI_1 i]
            refine v_goto (tgt := 66) dX12_ask_123 (by decide) ?_
            refine ih (i + 1) _ (by omega) ?_
            rw [← he]
            show _ = sui (pricef F m d d2) (i + 1) j (acc + pricef F m d d2 i)
            congr 2
            unfold pricef
            first
              | (rw [if_neg hc87]; first | done | rfl)
              | (rw [Bool.and_eq_true, decide_eq_true_eq, decide_eq_true_eq, nI_leI (by omega) (by omega), nI_leI (by omega) (by omega)] at hc103; rw [if_pos hc87, if_pos hc103.1, if_pos hc103.2]; first | done | rfl)
              | (rw [if_pos hc87]; by_cases q1 : d ≤ F (58 + 6 * i)
                 · rw [if_pos q1, if_neg]; first | done | rfl
                   intro q2; rw [decide_eq_true ((nI_leI (by omega) (by omega)).mpr q1), decide_eq_true ((nI_leI (by omega) (by omega)).mpr q2)] at hc103; cases hc103
                 · rw [if_neg q1]; first | done | rfl)
          · (first | rw [bI_0, Bool.not_eq_false] at hc103 | rw [bI_0] at hc103 | rw [show (0 : Int32) = nI 0 from rfl, nI_eq (by omega) (by omega)] at hc103 | skip)
            refine v_aload_0 dX12_ask_106 ?_
            refine v_iload_6 dX12_ask_107 ?_
            refine v_iconst (v := nI 4) dX12_ask_109 (by decide) ?_
            refine u_callV_2 dX12_ask_110 ml_X12_319 mv_X12_own (by first | assumption | rfl | exact led_1 (by assumption) | exact led_2 (by assumption) | exact bk_m (by assumption) (by first | assumption | omega) | exact bk_p (by assumption) (by first | assumption | omega) | exact bk_o (by assumption) (by first | assumption | omega) | exact bk_s (by assumption) (by first | assumption | omega) | exact bk_1 (by assumption) | exact bk_2 (by assumption) | exact bk_3 (by assumption) | exact bk_4 (by assumption) | exact bk_5 (by assumption) | exact bk_6 (by assumption) | exact bk_7 (by assumption) | exact bk_8 (by assumption) | exact sh_ring _ (by first | assumption | omega) | exact sh_imgs _ (by first | assumption | omega)) (by decide) rfl (by decide) (Nat.le_of_ble_eq_true rfl) (c_X12_own (k := 60 + 6 * i) hR hr.1.1 (by omega) (by decide) (by omega) ?_)
            refine v_goto (tgt := 117) dX12_ask_113 (by decide) ?_
            refine v_iadd dX12_ask_117 ?_
            refine v_istore_5 rfl dX12_ask_118 ?_
            refine v_iinc_6 (v := 1) rfl dX12_ask_120 (by decide) ?_
            rw [show nI i + 1 = nI (i + 1) from nI_1 i]
            refine v_goto (tgt := 66) dX12_ask_123 (by decide) ?_
            refine ih (i + 1) _ (by omega) ?_
            rw [← he]
            show _ = sui (pricef F m d d2) (i + 1) j (acc + pricef F m d d2 i)
            congr 2
            unfold pricef
            first
              | (rw [if_neg hc87]; first | done | rfl)
              | (rw [Bool.and_eq_true, decide_eq_true_eq, decide_eq_true_eq, nI_leI (by omega) (by omega), nI_leI (by omega) (by omega)] at hc103; rw [if_pos hc87, if_pos hc103.1, if_pos hc103.2]; first | done | rfl)
              | (rw [if_pos hc87]; by_cases q1 : d ≤ F (58 + 6 * i)
                 · rw [if_pos q1, if_neg]; first | done | rfl
                   intro q2; rw [decide_eq_true ((nI_leI (by omega) (by omega)).mpr q1), decide_eq_true ((nI_leI (by omega) (by omega)).mpr q2)] at hc103; cases hc103
                 · rw [if_neg q1]; first | done | rfl)
  exact loop (F 4) 0 a0 (by omega) rfl
end
section
variable {b : Nat} {ad : Nat → Nat} {I J : HI} {L M : HL} {R : HR} {Q : QT} {tp : Nat → Nat} {nt tr fa pl : Nat} {F : bkF} {S : Nat → LSt} {u r : Nat} {im : Nat → LSt} {ic : Nat}
theorem trc_3 (a c : Bool) : trc a c < 3 := by cases a <;> cases c <;> decide
theorem r_real {x : Int32} (hR : RO R) (h : RefB I tp nt tr fa pl F S u r im ic) (hQ : YQ I L R tp nt (t_real F (S 0) x) fa pl F S u r im ic (a_real F (S 0) x) Q) : KK 8 mX12_real b ad [.ref (b + 157), .int x] I L R Q := by
  have hO := h.2.2.1.1.2.2.1
  have o0 := hO.1
  have o1 := hO.2.1
  have o2 := hO.2.2.1
  have o3 := hO.2.2.2.1
  have o4 := hO.2.2.2.2.1
  have o5 := hO.2.2.2.2.2.1
  have o6 := hO.2.2.2.2.2.2.1
  have hK := h.2.2.1.2.2
  have hn20 := hK.1
  have hok : ∀ i, i < (S 0).1 → ok4 ((S 0).2.1 i) := fun i hi => (hK.2.1 i hi).1
  refine K.of (M := mX12_real) (lv := [some (.ref (b + 157)), some (.int x), none, none, none]) (by decide) (Nat.le_of_ble_eq_true rfl) rfl ?_
  refine v_aload_0 dX12_real_0 ?_
  refine u_callV_0 dX12_real_1 ml_X12_173 mv_X12_good (by first | assumption | rfl | exact led_1 (by assumption) | exact led_2 (by assumption) | exact bk_m (by assumption) (by first | assumption | omega) | exact bk_p (by assumption) (by first | assumption | omega) | exact bk_o (by assumption) (by first | assumption | omega) | exact bk_s (by assumption) (by first | assumption | omega) | exact bk_1 (by assumption) | exact bk_2 (by assumption) | exact bk_3 (by assumption) | exact bk_4 (by assumption) | exact bk_5 (by assumption) | exact bk_6 (by assumption) | exact bk_7 (by assumption) | exact bk_8 (by assumption) | exact sh_ring _ (by first | assumption | omega) | exact sh_imgs _ (by first | assumption | omega)) (by decide) rfl (by decide) (Nat.le_of_ble_eq_true rfl) (c_X12_good ?_)
  have h := rf_good h
  have hr : RfI _ F (S 0) := h.2.2.1
  have hS := hr.2.1
  have htr := trc_3 (decide (0 < F 0)) (ind x (F 0))
  refine v_aload_0 dX12_real_4 ?_
  refine v_iload_1 dX12_real_5 ?_
  refine u_callV_1 dX12_real_6 ml_X12_350 mv_X12_planWhy (by first | assumption | rfl | exact led_1 (by assumption) | exact led_2 (by assumption) | exact bk_m (by assumption) (by first | assumption | omega) | exact bk_p (by assumption) (by first | assumption | omega) | exact bk_o (by assumption) (by first | assumption | omega) | exact bk_s (by assumption) (by first | assumption | omega) | exact bk_1 (by assumption) | exact bk_2 (by assumption) | exact bk_3 (by assumption) | exact bk_4 (by assumption) | exact bk_5 (by assumption) | exact bk_6 (by assumption) | exact bk_7 (by assumption) | exact bk_8 (by assumption) | exact sh_ring _ (by first | assumption | omega) | exact sh_imgs _ (by first | assumption | omega)) (by decide) rfl (by decide) (Nat.le_of_ble_eq_true rfl) (c_X12_planWhy hR hr.1 ?_)
  refine v_istore_2 rfl dX12_real_9 ?_
  refine v_iload_2 dX12_real_10 ?_
  refine v_if_eq (tgt := 23) dX12_real_11 (by decide) (fun hc11 => ?_) (fun hc11 => ?_)
  · (first | rw [bI_0, Bool.not_eq_false] at hc11 | rw [bI_0] at hc11 | rw [show (0 : Int32) = nI 0 from rfl, nI_eq (by omega) (by omega)] at hc11 | skip)
    have hq : ((decide (0 < F 0)) && ind x (F 0)) = true := by
      cases hA : (decide (0 < F 0)) <;> cases hB : ind x (F 0)
      · rw [hA, hB] at hc11; cases hc11
      · rw [hA, hB] at hc11; cases hc11
      · rw [hA, hB] at hc11; cases hc11
      · rfl
    have hq2 := hq
    rw [Bool.and_eq_true] at hq2
    obtain ⟨d, rfl, hd1, hd⟩ := ind_ex (by omega) hq2.2
    have ed : tN (nI d) = d := tN_nI (by omega)
    refine v_iconst (v := nI 0) dX12_real_23 (by decide) ?_
    refine v_istore_3 rfl dX12_real_24 ?_
    refine v_iconst (v := nI 0) dX12_real_25 (by decide) ?_
    refine v_istore_4 rfl dX12_real_26 ?_
    refine l_real (s := S 0) hR hr (by omega) ?_
    refine v_iload_3 dX12_real_90 ?_
    refine v_iret dX12_real_91 rfl rfl rfl rfl ?_
    exact hQ.fin h (fun x hx => by simp only [ui_ne (show x ≠ 157 by omega)]) (fun _ _ => rfl) hc11.symm (by rw [a_real, if_pos hq, ed]; rfl)
  · (first | rw [bI_0, Bool.not_eq_false] at hc11 | rw [bI_0] at hc11 | rw [show (0 : Int32) = nI 0 from rfl, nI_eq (by omega) (by omega)] at hc11 | skip)
    refine v_aload_0 dX12_real_14 ?_
    refine v_iload_2 dX12_real_15 ?_
    refine v_sipush (v := -10000) dX12_real_16 (by decide) ?_
    refine u_callV_2 dX12_real_19 ml_X12_343 mv_X12_less (by first | assumption | rfl | exact led_1 (by assumption) | exact led_2 (by assumption) | exact bk_m (by assumption) (by first | assumption | omega) | exact bk_p (by assumption) (by first | assumption | omega) | exact bk_o (by assumption) (by first | assumption | omega) | exact bk_s (by assumption) (by first | assumption | omega) | exact bk_1 (by assumption) | exact bk_2 (by assumption) | exact bk_3 (by assumption) | exact bk_4 (by assumption) | exact bk_5 (by assumption) | exact bk_6 (by assumption) | exact bk_7 (by assumption) | exact bk_8 (by assumption) | exact sh_ring _ (by first | assumption | omega) | exact sh_imgs _ (by first | assumption | omega)) (by decide) rfl (by decide) (Nat.le_of_ble_eq_true rfl) (c_X12_less ?_)
    refine v_iret dX12_real_22 rfl rfl rfl rfl ?_
    exact hQ.fin (rf_tr h ⟨by omega, by omega⟩) (fun x hx => by simp only [ui_ne (show x ≠ 157 by omega)]) (fun _ _ => rfl) rfl (by simp only [a_real]; rw [if_neg]; intro q; rw [Bool.and_eq_true] at q; simp [trc, q.1, q.2] at hc11)
theorem r_gain {x : Int32} {y : Int32} (hR : RO R) (h : RefB I tp nt tr fa pl F S u r im ic) (hQ : YQ I L R tp nt (t_gain F (S 0) x y) fa pl F S u r im ic (a_gain F (S 0) x y) Q) : KK 8 mX12_gain b ad [.ref (b + 157), .int x, .int y] I L R Q := by
  have hO := h.2.2.1.1.2.2.1
  have o0 := hO.1
  have o1 := hO.2.1
  have o2 := hO.2.2.1
  have o3 := hO.2.2.2.1
  have o4 := hO.2.2.2.2.1
  have o5 := hO.2.2.2.2.2.1
  have o6 := hO.2.2.2.2.2.2.1
  have hK := h.2.2.1.2.2
  have hn20 := hK.1
  have hok : ∀ i, i < (S 0).1 → ok4 ((S 0).2.1 i) := fun i hi => (hK.2.1 i hi).1
  refine K.of (M := mX12_gain) (lv := [some (.ref (b + 157)), some (.int x), some (.int y), none, none]) (by decide) (Nat.le_of_ble_eq_true rfl) rfl ?_
  refine v_aload_0 dX12_gain_0 ?_
  refine u_callV_0 dX12_gain_1 ml_X12_173 mv_X12_good (by first | assumption | rfl | exact led_1 (by assumption) | exact led_2 (by assumption) | exact bk_m (by assumption) (by first | assumption | omega) | exact bk_p (by assumption) (by first | assumption | omega) | exact bk_o (by assumption) (by first | assumption | omega) | exact bk_s (by assumption) (by first | assumption | omega) | exact bk_1 (by assumption) | exact bk_2 (by assumption) | exact bk_3 (by assumption) | exact bk_4 (by assumption) | exact bk_5 (by assumption) | exact bk_6 (by assumption) | exact bk_7 (by assumption) | exact bk_8 (by assumption) | exact sh_ring _ (by first | assumption | omega) | exact sh_imgs _ (by first | assumption | omega)) (by decide) rfl (by decide) (Nat.le_of_ble_eq_true rfl) (c_X12_good ?_)
  have h := rf_good h
  have hr : RfI _ F (S 0) := h.2.2.1
  have hS := hr.2.1
  refine v_aload_0 dX12_gain_4 ?_
  refine v_iload_1 dX12_gain_5 ?_
  refine u_callV_1 dX12_gain_6 ml_X12_310 mv_X12_isPerson (by first | assumption | rfl | exact led_1 (by assumption) | exact led_2 (by assumption) | exact bk_m (by assumption) (by first | assumption | omega) | exact bk_p (by assumption) (by first | assumption | omega) | exact bk_o (by assumption) (by first | assumption | omega) | exact bk_s (by assumption) (by first | assumption | omega) | exact bk_1 (by assumption) | exact bk_2 (by assumption) | exact bk_3 (by assumption) | exact bk_4 (by assumption) | exact bk_5 (by assumption) | exact bk_6 (by assumption) | exact bk_7 (by assumption) | exact bk_8 (by assumption) | exact sh_ring _ (by first | assumption | omega) | exact sh_imgs _ (by first | assumption | omega)) (by decide) rfl (by decide) (Nat.le_of_ble_eq_true rfl) (c_X12_isPerson hR hr.1 ?_)
  refine v_if_ne (tgt := 21) dX12_gain_9 (by decide) (fun hc9 => ?_) (fun hc9 => ?_)
  · (first | rw [bI_0, Bool.not_eq_false] at hc9 | rw [bI_0] at hc9 | rw [show (0 : Int32) = nI 0 from rfl, nI_eq (by omega) (by omega)] at hc9 | skip)
    refine v_aload_0 dX12_gain_21 ?_
    refine v_iload_2 dX12_gain_22 ?_
    refine u_callV_1 dX12_gain_23 ml_X12_337 mv_X12_isDayOrNone (by first | assumption | rfl | exact led_1 (by assumption) | exact led_2 (by assumption) | exact bk_m (by assumption) (by first | assumption | omega) | exact bk_p (by assumption) (by first | assumption | omega) | exact bk_o (by assumption) (by first | assumption | omega) | exact bk_s (by assumption) (by first | assumption | omega) | exact bk_1 (by assumption) | exact bk_2 (by assumption) | exact bk_3 (by assumption) | exact bk_4 (by assumption) | exact bk_5 (by assumption) | exact bk_6 (by assumption) | exact bk_7 (by assumption) | exact bk_8 (by assumption) | exact sh_ring _ (by first | assumption | omega) | exact sh_imgs _ (by first | assumption | omega)) (by decide) rfl (by decide) (Nat.le_of_ble_eq_true rfl) (c_X12_isDayOrNone hR hr.1 ?_)
    refine v_if_ne (tgt := 38) dX12_gain_26 (by decide) (fun hc26 => ?_) (fun hc26 => ?_)
    · (first | rw [bI_0, Bool.not_eq_false] at hc26 | rw [bI_0] at hc26 | rw [show (0 : Int32) = nI 0 from rfl, nI_eq (by omega) (by omega)] at hc26 | skip)
      obtain ⟨p, rfl, hp⟩ := inb_ex (by omega) hc9
      have ep : tN (nI p) = p := tN_nI (by omega)
      obtain ⟨d, rfl, hd⟩ := indn_ex (by omega) hc26
      have ed : tN (nI d) = d := tN_nI (by omega)
      refine v_aload_0 dX12_gain_38 ?_
      refine v_iload_1 dX12_gain_39 ?_
      refine v_iload_2 dX12_gain_40 ?_
      refine u_callV_2 dX12_gain_41 ml_X12_340 mv_X12_debtOf (by first | assumption | rfl | exact led_1 (by assumption) | exact led_2 (by assumption) | exact bk_m (by assumption) (by first | assumption | omega) | exact bk_p (by assumption) (by first | assumption | omega) | exact bk_o (by assumption) (by first | assumption | omega) | exact bk_s (by assumption) (by first | assumption | omega) | exact bk_1 (by assumption) | exact bk_2 (by assumption) | exact bk_3 (by assumption) | exact bk_4 (by assumption) | exact bk_5 (by assumption) | exact bk_6 (by assumption) | exact bk_7 (by assumption) | exact bk_8 (by assumption) | exact sh_ring _ (by first | assumption | omega) | exact sh_imgs _ (by first | assumption | omega)) (by decide) rfl (by decide) (Nat.le_of_ble_eq_true rfl) (c_X12_debtOf (od := some p) hR hr (fun z e => by cases e; omega) (by omega) ?_)
      refine v_ineg dX12_gain_44 ?_
      refine v_istore_3 rfl dX12_gain_45 ?_
      refine v_iconst (v := nI 0) dX12_gain_46 (by decide) ?_
      refine v_istore_4 rfl dX12_gain_47 ?_
      refine l_gain (s := S 0) hR hr (by omega) (by omega) ?_
      refine v_iload_3 dX12_gain_118 ?_
      refine v_iret dX12_gain_119 rfl rfl rfl rfl ?_
      exact hQ.fin h (fun x hx => by simp only [ui_ne (show x ≠ 157 by omega)]) (fun _ _ => rfl) (by simp [t_gain, trc, hc9, hc26]) (by rw [a_gain, if_pos (by rw [hc9, hc26]; rfl), ep, ed, Int32.sub_eq_add_neg, ← sui_acc, Int32.zero_add])
    · (first | rw [bI_0, Bool.not_eq_false] at hc26 | rw [bI_0] at hc26 | rw [show (0 : Int32) = nI 0 from rfl, nI_eq (by omega) (by omega)] at hc26 | skip)
      refine v_aload_0 dX12_gain_29 ?_
      refine v_iconst (v := nI 2) dX12_gain_30 (by decide) ?_
      refine v_sipush (v := -10000) dX12_gain_31 (by decide) ?_
      refine u_callV_2 dX12_gain_34 ml_X12_343 mv_X12_less (by first | assumption | rfl | exact led_1 (by assumption) | exact led_2 (by assumption) | exact bk_m (by assumption) (by first | assumption | omega) | exact bk_p (by assumption) (by first | assumption | omega) | exact bk_o (by assumption) (by first | assumption | omega) | exact bk_s (by assumption) (by first | assumption | omega) | exact bk_1 (by assumption) | exact bk_2 (by assumption) | exact bk_3 (by assumption) | exact bk_4 (by assumption) | exact bk_5 (by assumption) | exact bk_6 (by assumption) | exact bk_7 (by assumption) | exact bk_8 (by assumption) | exact sh_ring _ (by first | assumption | omega) | exact sh_imgs _ (by first | assumption | omega)) (by decide) rfl (by decide) (Nat.le_of_ble_eq_true rfl) (c_X12_less (k := 2) ?_)
      refine v_iret dX12_gain_37 rfl rfl rfl rfl ?_
      first
        | exact hQ.fin h (fun x hx => by simp only [ui_ne (show x ≠ 157 by omega)]) (fun _ _ => rfl) (by simp [t_gain, trc, hc9, hc26, ep, ed] <;> rfl) (by simp [a_gain, hc9, hc26, ep, ed] <;> rfl)
        | exact hQ.fin (rf_tr h (by decide)) (fun x hx => by simp only [ui_ne (show x ≠ 157 by omega)]) (fun _ _ => rfl) (by simp [t_gain, trc, hc9, hc26] <;> rfl) (by simp [a_gain, hc9, hc26] <;> rfl)
  · (first | rw [bI_0, Bool.not_eq_false] at hc9 | rw [bI_0] at hc9 | rw [show (0 : Int32) = nI 0 from rfl, nI_eq (by omega) (by omega)] at hc9 | skip)
    refine v_aload_0 dX12_gain_12 ?_
    refine v_iconst (v := nI 1) dX12_gain_13 (by decide) ?_
    refine v_sipush (v := -10000) dX12_gain_14 (by decide) ?_
    refine u_callV_2 dX12_gain_17 ml_X12_343 mv_X12_less (by first | assumption | rfl | exact led_1 (by assumption) | exact led_2 (by assumption) | exact bk_m (by assumption) (by first | assumption | omega) | exact bk_p (by assumption) (by first | assumption | omega) | exact bk_o (by assumption) (by first | assumption | omega) | exact bk_s (by assumption) (by first | assumption | omega) | exact bk_1 (by assumption) | exact bk_2 (by assumption) | exact bk_3 (by assumption) | exact bk_4 (by assumption) | exact bk_5 (by assumption) | exact bk_6 (by assumption) | exact bk_7 (by assumption) | exact bk_8 (by assumption) | exact sh_ring _ (by first | assumption | omega) | exact sh_imgs _ (by first | assumption | omega)) (by decide) rfl (by decide) (Nat.le_of_ble_eq_true rfl) (c_X12_less (k := 1) ?_)
    refine v_iret dX12_gain_20 rfl rfl rfl rfl ?_
    first
      | exact hQ.fin h (fun x hx => by simp only [ui_ne (show x ≠ 157 by omega)]) (fun _ _ => rfl) (by simp [t_gain, trc, hc9, ep, ed] <;> rfl) (by simp [a_gain, hc9, ep, ed] <;> rfl)
      | exact hQ.fin (rf_tr h (by decide)) (fun x hx => by simp only [ui_ne (show x ≠ 157 by omega)]) (fun _ _ => rfl) (by simp [t_gain, trc, hc9] <;> rfl) (by simp [a_gain, hc9] <;> rfl)
theorem r_ask {x : Int32} {y : Int32} {z : Int32} {w : Int32} (hR : RO R) (h : RefB I tp nt tr fa pl F S u r im ic) (hQ : YQ I L R tp nt (t_ask F (S 0) x y z w) fa pl F S u r im ic (a_ask F (S 0) x y z w) Q) : KK 8 mX12_ask b ad [.ref (b + 157), .int x, .int y, .int z, .int w] I L R Q := by
  have hO := h.2.2.1.1.2.2.1
  have o0 := hO.1
  have o1 := hO.2.1
  have o2 := hO.2.2.1
  have o3 := hO.2.2.2.1
  have o4 := hO.2.2.2.2.1
  have o5 := hO.2.2.2.2.2.1
  have o6 := hO.2.2.2.2.2.2.1
  have hK := h.2.2.1.2.2
  have hn20 := hK.1
  have hok : ∀ i, i < (S 0).1 → ok4 ((S 0).2.1 i) := fun i hi => (hK.2.1 i hi).1
  refine K.of (M := mX12_ask) (lv := [some (.ref (b + 157)), some (.int x), some (.int y), some (.int z), some (.int w), none, none]) (by decide) (Nat.le_of_ble_eq_true rfl) rfl ?_
  refine v_aload_0 dX12_ask_0 ?_
  refine u_callV_0 dX12_ask_1 ml_X12_173 mv_X12_good (by first | assumption | rfl | exact led_1 (by assumption) | exact led_2 (by assumption) | exact bk_m (by assumption) (by first | assumption | omega) | exact bk_p (by assumption) (by first | assumption | omega) | exact bk_o (by assumption) (by first | assumption | omega) | exact bk_s (by assumption) (by first | assumption | omega) | exact bk_1 (by assumption) | exact bk_2 (by assumption) | exact bk_3 (by assumption) | exact bk_4 (by assumption) | exact bk_5 (by assumption) | exact bk_6 (by assumption) | exact bk_7 (by assumption) | exact bk_8 (by assumption) | exact sh_ring _ (by first | assumption | omega) | exact sh_imgs _ (by first | assumption | omega)) (by decide) rfl (by decide) (Nat.le_of_ble_eq_true rfl) (c_X12_good ?_)
  have h := rf_good h
  have hr : RfI _ F (S 0) := h.2.2.1
  have hS := hr.2.1
  refine v_aload_0 dX12_ask_4 ?_
  refine v_iload_1 dX12_ask_5 ?_
  refine u_callV_1 dX12_ask_6 ml_X12_307 mv_X12_isMask (by first | assumption | rfl | exact led_1 (by assumption) | exact led_2 (by assumption) | exact bk_m (by assumption) (by first | assumption | omega) | exact bk_p (by assumption) (by first | assumption | omega) | exact bk_o (by assumption) (by first | assumption | omega) | exact bk_s (by assumption) (by first | assumption | omega) | exact bk_1 (by assumption) | exact bk_2 (by assumption) | exact bk_3 (by assumption) | exact bk_4 (by assumption) | exact bk_5 (by assumption) | exact bk_6 (by assumption) | exact bk_7 (by assumption) | exact bk_8 (by assumption) | exact sh_ring _ (by first | assumption | omega) | exact sh_imgs _ (by first | assumption | omega)) (by decide) rfl (by decide) (Nat.le_of_ble_eq_true rfl) (c_X12_isMask hR hr.1 ?_)
  refine v_if_eq (tgt := 20) dX12_ask_9 (by decide) (fun hc9 => ?_) (fun hc9 => ?_)
  · (first | rw [bI_0, Bool.not_eq_false] at hc9 | rw [bI_0] at hc9 | rw [show (0 : Int32) = nI 0 from rfl, nI_eq (by omega) (by omega)] at hc9 | skip)
    refine v_aload_0 dX12_ask_20 ?_
    refine v_iconst (v := nI 1) dX12_ask_21 (by decide) ?_
    refine u_callV_1 dX12_ask_22 ml_X12_176 mv_X12_no (by first | assumption | rfl | exact led_1 (by assumption) | exact led_2 (by assumption) | exact bk_m (by assumption) (by first | assumption | omega) | exact bk_p (by assumption) (by first | assumption | omega) | exact bk_o (by assumption) (by first | assumption | omega) | exact bk_s (by assumption) (by first | assumption | omega) | exact bk_1 (by assumption) | exact bk_2 (by assumption) | exact bk_3 (by assumption) | exact bk_4 (by assumption) | exact bk_5 (by assumption) | exact bk_6 (by assumption) | exact bk_7 (by assumption) | exact bk_8 (by assumption) | exact sh_ring _ (by first | assumption | omega) | exact sh_imgs _ (by first | assumption | omega)) (by decide) rfl (by decide) (Nat.le_of_ble_eq_true rfl) (c_X12_no (k := 1) ?_)
    refine v_iret dX12_ask_25 rfl rfl rfl rfl ?_
    exact hQ.fin (rf_tr h (by decide)) (fun x hx => by simp only [ui_ne (show x ≠ 157 by omega)]) (fun _ _ => rfl) (by first | simp [t_ask, trc, hc9, hc17] | simp [t_ask, trc, hc9]) (by first | simp [a_ask, trc, hc9, hc17] | simp [a_ask, trc, hc9])
  · (first | rw [bI_0, Bool.not_eq_false] at hc9 | rw [bI_0] at hc9 | rw [show (0 : Int32) = nI 0 from rfl, nI_eq (by omega) (by omega)] at hc9 | skip)
    refine v_aload_0 dX12_ask_12 ?_
    refine v_iload_2 dX12_ask_13 ?_
    refine u_callV_1 dX12_ask_14 ml_X12_310 mv_X12_isPerson (by first | assumption | rfl | exact led_1 (by assumption) | exact led_2 (by assumption) | exact bk_m (by assumption) (by first | assumption | omega) | exact bk_p (by assumption) (by first | assumption | omega) | exact bk_o (by assumption) (by first | assumption | omega) | exact bk_s (by assumption) (by first | assumption | omega) | exact bk_1 (by assumption) | exact bk_2 (by assumption) | exact bk_3 (by assumption) | exact bk_4 (by assumption) | exact bk_5 (by assumption) | exact bk_6 (by assumption) | exact bk_7 (by assumption) | exact bk_8 (by assumption) | exact sh_ring _ (by first | assumption | omega) | exact sh_imgs _ (by first | assumption | omega)) (by decide) rfl (by decide) (Nat.le_of_ble_eq_true rfl) (c_X12_isPerson hR hr.1 ?_)
    refine v_if_ne (tgt := 26) dX12_ask_17 (by decide) (fun hc17 => ?_) (fun hc17 => ?_)
    · (first | rw [bI_0, Bool.not_eq_false] at hc17 | rw [bI_0] at hc17 | rw [show (0 : Int32) = nI 0 from rfl, nI_eq (by omega) (by omega)] at hc17 | skip)
      refine v_aload_0 dX12_ask_26 ?_
      refine v_iload_3 dX12_ask_27 ?_
      refine v_iload_4 dX12_ask_28 ?_
      refine u_callV_2 dX12_ask_30 ml_X12_357 mv_X12_areDays (by first | assumption | rfl | exact led_1 (by assumption) | exact led_2 (by assumption) | exact bk_m (by assumption) (by first | assumption | omega) | exact bk_p (by assumption) (by first | assumption | omega) | exact bk_o (by assumption) (by first | assumption | omega) | exact bk_s (by assumption) (by first | assumption | omega) | exact bk_1 (by assumption) | exact bk_2 (by assumption) | exact bk_3 (by assumption) | exact bk_4 (by assumption) | exact bk_5 (by assumption) | exact bk_6 (by assumption) | exact bk_7 (by assumption) | exact bk_8 (by assumption) | exact sh_ring _ (by first | assumption | omega) | exact sh_imgs _ (by first | assumption | omega)) (by decide) rfl (by decide) (Nat.le_of_ble_eq_true rfl) (c_X12_areDays hR hr.1 ?_)
      refine v_if_ne (tgt := 42) dX12_ask_33 (by decide) (fun hc33 => ?_) (fun hc33 => ?_)
      · (first | rw [bI_0, Bool.not_eq_false] at hc33 | rw [bI_0] at hc33 | rw [show (0 : Int32) = nI 0 from rfl, nI_eq (by omega) (by omega)] at hc33 | skip)
        obtain ⟨m, rfl, hm⟩ := inb_ex (by omega) hc9
        have em : tN (nI m) = m := tN_nI (by omega)
        obtain ⟨p, rfl, hp⟩ := inb_ex (by omega) hc17
        have ep : tN (nI p) = p := tN_nI (by omega)
        have hA := hc33
        rw [Bool.and_eq_true, Bool.and_eq_true, decide_eq_true_eq] at hA
        obtain ⟨⟨hz1, hw1⟩, hzw⟩ := hA
        obtain ⟨d, rfl, hd1, hd⟩ := ind_ex (by omega) hz1
        have ed : tN (nI d) = d := tN_nI (by omega)
        obtain ⟨d2, rfl, hd21, hd2⟩ := ind_ex (by omega) hw1
        have ed2 : tN (nI d2) = d2 := tN_nI (by omega)
        have hcc : ((inb (nI m) (F 2) && inb (nI p) (F 3)) && (ind (nI d) (F 0) && ind (nI d2) (F 0) && decide (nI d ≤ nI d2))) = true := by rw [hc9, hc17, hc33]; rfl
        refine v_aload_0 dX12_ask_42 ?_
        refine u_getR dX12_ask_43 gf_X12_20 (by first | assumption | rfl | exact led_1 (by assumption) | exact led_2 (by assumption) | exact bk_m (by assumption) (by first | assumption | omega) | exact bk_p (by assumption) (by first | assumption | omega) | exact bk_o (by assumption) (by first | assumption | omega) | exact bk_s (by assumption) (by first | assumption | omega) | exact bk_1 (by assumption) | exact bk_2 (by assumption) | exact bk_3 (by assumption) | exact bk_4 (by assumption) | exact bk_5 (by assumption) | exact bk_6 (by assumption) | exact bk_7 (by assumption) | exact bk_8 (by assumption) | exact sh_ring _ (by first | assumption | omega) | exact sh_imgs _ (by first | assumption | omega)) (ro_X12_15 (by assumption)) ?_
        refine v_iload_1 dX12_ask_46 ?_
        refine v_iload_2 dX12_ask_47 ?_
        refine u_callS_3 dX12_ask_48 ml_X12_296 ms_X12_doesFit (by decide) (Nat.le_of_ble_eq_true rfl) (c_X12_doesFit hr.1.1 hO hm hp ?_)
        refine v_if_ne (tgt := 60) dX12_ask_51 (by decide) (fun hc51 => ?_) (fun hc51 => ?_)
        · (first | rw [bI_0, Bool.not_eq_false] at hc51 | rw [bI_0] at hc51 | rw [show (0 : Int32) = nI 0 from rfl, nI_eq (by omega) (by omega)] at hc51 | skip)
          refine v_iconst (v := nI 0) dX12_ask_60 (by decide) ?_
          refine v_istore_5 rfl dX12_ask_61 ?_
          refine v_iconst (v := nI 0) dX12_ask_63 (by decide) ?_
          refine v_istore_6 rfl dX12_ask_64 ?_
          refine l_ask (s := S 0) hR hr (by omega) (by omega) (by omega) ?_
          refine v_iload_5 dX12_ask_126 ?_
          refine v_bipush (v := nI 100) dX12_ask_128 (by decide) ?_
          refine v_aload_0 dX12_ask_130 ?_
          refine u_getR dX12_ask_131 gf_X12_20 (by first | assumption | rfl | exact led_1 (by assumption) | exact led_2 (by assumption) | exact bk_m (by assumption) (by first | assumption | omega) | exact bk_p (by assumption) (by first | assumption | omega) | exact bk_o (by assumption) (by first | assumption | omega) | exact bk_s (by assumption) (by first | assumption | omega) | exact bk_1 (by assumption) | exact bk_2 (by assumption) | exact bk_3 (by assumption) | exact bk_4 (by assumption) | exact bk_5 (by assumption) | exact bk_6 (by assumption) | exact bk_7 (by assumption) | exact bk_8 (by assumption) | exact sh_ring _ (by first | assumption | omega) | exact sh_imgs _ (by first | assumption | omega)) (ro_X12_15 (by assumption)) ?_
          refine v_bipush (v := nI 32) dX12_ask_134 (by decide) ?_
          refine v_iload_2 dX12_ask_136 ?_
          refine v_iadd dX12_ask_137 ?_
          refine u_iald dX12_ask_138 (by first | assumption | rfl | exact led_1 (by assumption) | exact led_2 (by assumption) | exact bk_m (by assumption) (by first | assumption | omega) | exact bk_p (by assumption) (by first | assumption | omega) | exact bk_o (by assumption) (by first | assumption | omega) | exact bk_s (by assumption) (by first | assumption | omega) | exact bk_1 (by assumption) | exact bk_2 (by assumption) | exact bk_3 (by assumption) | exact bk_4 (by assumption) | exact bk_5 (by assumption) | exact bk_6 (by assumption) | exact bk_7 (by assumption) | exact bk_8 (by assumption) | exact sh_ring _ (by first | assumption | omega) | exact sh_imgs _ (by first | assumption | omega)) (by first | with_reducible rfl | (simp only [nlit, nI_add, pk_mul]; with_reducible rfl) | rfl) (by first | assumption | omega) (by first | assumption | decide) ?_
          rw [hr.1.1.2 _ (by omega)]
          refine v_isub dX12_ask_139 ?_
          refine v_imul dX12_ask_140 ?_
          refine v_bipush (v := nI 99) dX12_ask_141 (by decide) ?_
          refine v_iadd dX12_ask_143 ?_
          refine v_bipush (v := nI 100) dX12_ask_144 (by decide) ?_
          refine v_idiv dX12_ask_146 (by first | assumption | decide) ?_
          refine v_iret dX12_ask_147 rfl rfl rfl rfl ?_
          exact hQ.fin h (fun x hx => by simp only [ui_ne (show x ≠ 157 by omega)]) (fun _ _ => rfl) (by rw [t_ask, if_pos hcc, em, ep, if_pos hc51]) (by rw [a_ask, if_pos hcc, em, ep, ed, ed2, if_pos hc51]; rfl)
        · (first | rw [bI_0, Bool.not_eq_false] at hc51 | rw [bI_0] at hc51 | rw [show (0 : Int32) = nI 0 from rfl, nI_eq (by omega) (by omega)] at hc51 | skip)
          refine v_aload_0 dX12_ask_54 ?_
          refine v_iconst (v := nI 5) dX12_ask_55 (by decide) ?_
          refine u_callV_1 dX12_ask_56 ml_X12_176 mv_X12_no (by first | assumption | rfl | exact led_1 (by assumption) | exact led_2 (by assumption) | exact bk_m (by assumption) (by first | assumption | omega) | exact bk_p (by assumption) (by first | assumption | omega) | exact bk_o (by assumption) (by first | assumption | omega) | exact bk_s (by assumption) (by first | assumption | omega) | exact bk_1 (by assumption) | exact bk_2 (by assumption) | exact bk_3 (by assumption) | exact bk_4 (by assumption) | exact bk_5 (by assumption) | exact bk_6 (by assumption) | exact bk_7 (by assumption) | exact bk_8 (by assumption) | exact sh_ring _ (by first | assumption | omega) | exact sh_imgs _ (by first | assumption | omega)) (by decide) rfl (by decide) (Nat.le_of_ble_eq_true rfl) (c_X12_no (k := 5) ?_)
          refine v_iret dX12_ask_59 rfl rfl rfl rfl ?_
          exact hQ.fin (rf_tr h (by decide)) (fun x hx => by simp only [ui_ne (show x ≠ 157 by omega)]) (fun _ _ => rfl) (by rw [t_ask, if_pos hcc, em, ep, hc51]; rfl) (by rw [a_ask, if_pos hcc, em, ep, hc51]; rfl)
      · (first | rw [bI_0, Bool.not_eq_false] at hc33 | rw [bI_0] at hc33 | rw [show (0 : Int32) = nI 0 from rfl, nI_eq (by omega) (by omega)] at hc33 | skip)
        refine v_aload_0 dX12_ask_36 ?_
        refine v_iconst (v := nI 2) dX12_ask_37 (by decide) ?_
        refine u_callV_1 dX12_ask_38 ml_X12_176 mv_X12_no (by first | assumption | rfl | exact led_1 (by assumption) | exact led_2 (by assumption) | exact bk_m (by assumption) (by first | assumption | omega) | exact bk_p (by assumption) (by first | assumption | omega) | exact bk_o (by assumption) (by first | assumption | omega) | exact bk_s (by assumption) (by first | assumption | omega) | exact bk_1 (by assumption) | exact bk_2 (by assumption) | exact bk_3 (by assumption) | exact bk_4 (by assumption) | exact bk_5 (by assumption) | exact bk_6 (by assumption) | exact bk_7 (by assumption) | exact bk_8 (by assumption) | exact sh_ring _ (by first | assumption | omega) | exact sh_imgs _ (by first | assumption | omega)) (by decide) rfl (by decide) (Nat.le_of_ble_eq_true rfl) (c_X12_no (k := 2) ?_)
        refine v_iret dX12_ask_41 rfl rfl rfl rfl ?_
        exact hQ.fin (rf_tr h (by decide)) (fun x hx => by simp only [ui_ne (show x ≠ 157 by omega)]) (fun _ _ => rfl) (by rw [t_ask, hc9, hc17, hc33]; rfl) (by rw [a_ask, hc9, hc17, hc33]; rfl)
    · (first | rw [bI_0, Bool.not_eq_false] at hc17 | rw [bI_0] at hc17 | rw [show (0 : Int32) = nI 0 from rfl, nI_eq (by omega) (by omega)] at hc17 | skip)
      refine v_aload_0 dX12_ask_20 ?_
      refine v_iconst (v := nI 1) dX12_ask_21 (by decide) ?_
      refine u_callV_1 dX12_ask_22 ml_X12_176 mv_X12_no (by first | assumption | rfl | exact led_1 (by assumption) | exact led_2 (by assumption) | exact bk_m (by assumption) (by first | assumption | omega) | exact bk_p (by assumption) (by first | assumption | omega) | exact bk_o (by assumption) (by first | assumption | omega) | exact bk_s (by assumption) (by first | assumption | omega) | exact bk_1 (by assumption) | exact bk_2 (by assumption) | exact bk_3 (by assumption) | exact bk_4 (by assumption) | exact bk_5 (by assumption) | exact bk_6 (by assumption) | exact bk_7 (by assumption) | exact bk_8 (by assumption) | exact sh_ring _ (by first | assumption | omega) | exact sh_imgs _ (by first | assumption | omega)) (by decide) rfl (by decide) (Nat.le_of_ble_eq_true rfl) (c_X12_no (k := 1) ?_)
      refine v_iret dX12_ask_25 rfl rfl rfl rfl ?_
      exact hQ.fin (rf_tr h (by decide)) (fun x hx => by simp only [ui_ne (show x ≠ 157 by omega)]) (fun _ _ => rfl) (by first | simp [t_ask, trc, hc9, hc17] | simp [t_ask, trc, hc9]) (by first | simp [a_ask, trc, hc9, hc17] | simp [a_ask, trc, hc9])
theorem r_agrees {x : Int32} {y : Int32} (hR : RO R) (h : RefB I tp nt tr fa pl F S u r im ic) (hQ : YQ I L R tp nt (t_agrees F (S 0) x y) fa pl F S u r im ic (a_agrees F (S 0) x y) Q) : KK 8 mX12_agrees b ad [.ref (b + 157), .int x, .int y] I L R Q := by
  have hO := h.2.2.1.1.2.2.1
  have o0 := hO.1
  have o1 := hO.2.1
  have o2 := hO.2.2.1
  have o3 := hO.2.2.2.1
  have o4 := hO.2.2.2.2.1
  have o5 := hO.2.2.2.2.2.1
  have o6 := hO.2.2.2.2.2.2.1
  have hK := h.2.2.1.2.2
  have hn20 := hK.1
  have hok : ∀ i, i < (S 0).1 → ok4 ((S 0).2.1 i) := fun i hi => (hK.2.1 i hi).1
  refine K.of (M := mX12_agrees) (lv := [some (.ref (b + 157)), some (.int x), some (.int y)]) (by decide) (Nat.le_of_ble_eq_true rfl) rfl ?_
  refine v_aload_0 dX12_agrees_0 ?_
  refine u_callV_0 dX12_agrees_1 ml_X12_173 mv_X12_good (by first | assumption | rfl | exact led_1 (by assumption) | exact led_2 (by assumption) | exact bk_m (by assumption) (by first | assumption | omega) | exact bk_p (by assumption) (by first | assumption | omega) | exact bk_o (by assumption) (by first | assumption | omega) | exact bk_s (by assumption) (by first | assumption | omega) | exact bk_1 (by assumption) | exact bk_2 (by assumption) | exact bk_3 (by assumption) | exact bk_4 (by assumption) | exact bk_5 (by assumption) | exact bk_6 (by assumption) | exact bk_7 (by assumption) | exact bk_8 (by assumption) | exact sh_ring _ (by first | assumption | omega) | exact sh_imgs _ (by first | assumption | omega)) (by decide) rfl (by decide) (Nat.le_of_ble_eq_true rfl) (c_X12_good ?_)
  have h := rf_good h
  have hr : RfI _ F (S 0) := h.2.2.1
  have hS := hr.2.1
  refine v_aload_0 dX12_agrees_4 ?_
  refine v_iload_2 dX12_agrees_5 ?_
  refine u_callV_1 dX12_agrees_6 ml_X12_310 mv_X12_isPerson (by first | assumption | rfl | exact led_1 (by assumption) | exact led_2 (by assumption) | exact bk_m (by assumption) (by first | assumption | omega) | exact bk_p (by assumption) (by first | assumption | omega) | exact bk_o (by assumption) (by first | assumption | omega) | exact bk_s (by assumption) (by first | assumption | omega) | exact bk_1 (by assumption) | exact bk_2 (by assumption) | exact bk_3 (by assumption) | exact bk_4 (by assumption) | exact bk_5 (by assumption) | exact bk_6 (by assumption) | exact bk_7 (by assumption) | exact bk_8 (by assumption) | exact sh_ring _ (by first | assumption | omega) | exact sh_imgs _ (by first | assumption | omega)) (by decide) rfl (by decide) (Nat.le_of_ble_eq_true rfl) (c_X12_isPerson hR hr.1 ?_)
  refine v_if_eq (tgt := 28) dX12_agrees_9 (by decide) (fun hc9 => ?_) (fun hc9 => ?_)
  · (first | rw [bI_0, Bool.not_eq_false] at hc9 | rw [bI_0] at hc9 | rw [show (0 : Int32) = nI 0 from rfl, nI_eq (by omega) (by omega)] at hc9 | skip)
    refine v_aload_0 dX12_agrees_28 ?_
    refine v_iconst (v := nI 1) dX12_agrees_29 (by decide) ?_
    refine u_callV_1 dX12_agrees_30 ml_X12_176 mv_X12_no (by first | assumption | rfl | exact led_1 (by assumption) | exact led_2 (by assumption) | exact bk_m (by assumption) (by first | assumption | omega) | exact bk_p (by assumption) (by first | assumption | omega) | exact bk_o (by assumption) (by first | assumption | omega) | exact bk_s (by assumption) (by first | assumption | omega) | exact bk_1 (by assumption) | exact bk_2 (by assumption) | exact bk_3 (by assumption) | exact bk_4 (by assumption) | exact bk_5 (by assumption) | exact bk_6 (by assumption) | exact bk_7 (by assumption) | exact bk_8 (by assumption) | exact sh_ring _ (by first | assumption | omega) | exact sh_imgs _ (by first | assumption | omega)) (by decide) rfl (by decide) (Nat.le_of_ble_eq_true rfl) (c_X12_no (k := 1) ?_)
    refine v_iret dX12_agrees_33 rfl rfl rfl rfl ?_
    exact hQ.fin (rf_tr h (by decide)) (fun x hx => by simp only [ui_ne (show x ≠ 157 by omega)]) (fun _ _ => rfl) (by first | simp [t_agrees, trc, hc9, hc25] | simp [t_agrees, trc, hc9]) (by first | simp [a_agrees, hc9, hc25] | simp [a_agrees, hc9])
  · (first | rw [bI_0, Bool.not_eq_false] at hc9 | rw [bI_0] at hc9 | rw [show (0 : Int32) = nI 0 from rfl, nI_eq (by omega) (by omega)] at hc9 | skip)
    refine v_iload_1 dX12_agrees_12 ?_
    refine v_iconst (v := nI 0) dX12_agrees_13 (by decide) ?_
    refine v_aload_0 dX12_agrees_14 ?_
    refine u_getR dX12_agrees_15 gf_X12_20 (by first | assumption | rfl | exact led_1 (by assumption) | exact led_2 (by assumption) | exact bk_m (by assumption) (by first | assumption | omega) | exact bk_p (by assumption) (by first | assumption | omega) | exact bk_o (by assumption) (by first | assumption | omega) | exact bk_s (by assumption) (by first | assumption | omega) | exact bk_1 (by assumption) | exact bk_2 (by assumption) | exact bk_3 (by assumption) | exact bk_4 (by assumption) | exact bk_5 (by assumption) | exact bk_6 (by assumption) | exact bk_7 (by assumption) | exact bk_8 (by assumption) | exact sh_ring _ (by first | assumption | omega) | exact sh_imgs _ (by first | assumption | omega)) (ro_X12_15 (by assumption)) ?_
    refine v_iconst (v := nI 5) dX12_agrees_18 (by decide) ?_
    refine u_iald dX12_agrees_19 (by first | assumption | rfl | exact led_1 (by assumption) | exact led_2 (by assumption) | exact bk_m (by assumption) (by first | assumption | omega) | exact bk_p (by assumption) (by first | assumption | omega) | exact bk_o (by assumption) (by first | assumption | omega) | exact bk_s (by assumption) (by first | assumption | omega) | exact bk_1 (by assumption) | exact bk_2 (by assumption) | exact bk_3 (by assumption) | exact bk_4 (by assumption) | exact bk_5 (by assumption) | exact bk_6 (by assumption) | exact bk_7 (by assumption) | exact bk_8 (by assumption) | exact sh_ring _ (by first | assumption | omega) | exact sh_imgs _ (by first | assumption | omega)) (by first | with_reducible rfl | (simp only [nlit, nI_add, pk_mul]; with_reducible rfl) | rfl) (by first | assumption | omega) (by first | assumption | decide) ?_
    rw [hr.1.1.2 5 (by decide)]
    refine v_iconst (v := nI 1) dX12_agrees_20 (by decide) ?_
    refine v_isub dX12_agrees_21 ?_
    refine u_callS_3 dX12_agrees_22 ml_X12_154 ms_X12_within (by decide) (Nat.le_of_ble_eq_true rfl) (c_X12_within ?_)
    rw [← inbw (by omega)]
    refine v_if_ne (tgt := 34) dX12_agrees_25 (by decide) (fun hc25 => ?_) (fun hc25 => ?_)
    · (first | rw [bI_0, Bool.not_eq_false] at hc25 | rw [bI_0] at hc25 | rw [show (0 : Int32) = nI 0 from rfl, nI_eq (by omega) (by omega)] at hc25 | skip)
      obtain ⟨p, rfl, hp⟩ := inb_ex (by omega) hc9
      have ep : tN (nI p) = p := tN_nI (by omega)
      obtain ⟨v, rfl, hv⟩ := inb_ex (by omega) hc25
      have ev : tN (nI v) = v := tN_nI (by omega)
      obtain ⟨y1, y2, y3, y4, y5, y6⟩ := fk_s hO hv
      refine v_aload_0 dX12_agrees_34 ?_
      refine u_getR dX12_agrees_35 gf_X12_20 (by first | assumption | rfl | exact led_1 (by assumption) | exact led_2 (by assumption) | exact bk_m (by assumption) (by first | assumption | omega) | exact bk_p (by assumption) (by first | assumption | omega) | exact bk_o (by assumption) (by first | assumption | omega) | exact bk_s (by assumption) (by first | assumption | omega) | exact bk_1 (by assumption) | exact bk_2 (by assumption) | exact bk_3 (by assumption) | exact bk_4 (by assumption) | exact bk_5 (by assumption) | exact bk_6 (by assumption) | exact bk_7 (by assumption) | exact bk_8 (by assumption) | exact sh_ring _ (by first | assumption | omega) | exact sh_imgs _ (by first | assumption | omega)) (ro_X12_15 (by assumption)) ?_
      refine v_aload_0 dX12_agrees_38 ?_
      refine v_iload_1 dX12_agrees_39 ?_
      refine v_iconst (v := nI 0) dX12_agrees_40 (by decide) ?_
      refine u_callV_2 dX12_agrees_41 ml_X12_360 mv_X12_seen (by first | assumption | rfl | exact led_1 (by assumption) | exact led_2 (by assumption) | exact bk_m (by assumption) (by first | assumption | omega) | exact bk_p (by assumption) (by first | assumption | omega) | exact bk_o (by assumption) (by first | assumption | omega) | exact bk_s (by assumption) (by first | assumption | omega) | exact bk_1 (by assumption) | exact bk_2 (by assumption) | exact bk_3 (by assumption) | exact bk_4 (by assumption) | exact bk_5 (by assumption) | exact bk_6 (by assumption) | exact bk_7 (by assumption) | exact bk_8 (by assumption) | exact sh_ring _ (by first | assumption | omega) | exact sh_imgs _ (by first | assumption | omega)) (by decide) rfl (by decide) (Nat.le_of_ble_eq_true rfl) (c_X12_seen (k := 128 + 5 * v) hR hr.1.1 (by omega) (by decide) (by omega) ?_)
      refine v_iload_2 dX12_agrees_44 ?_
      refine u_callS_3 dX12_agrees_45 ml_X12_296 ms_X12_doesFit (by decide) (Nat.le_of_ble_eq_true rfl) (c_X12_doesFit hr.1.1 hO y1 hp ?_)
      refine v_if_eq (tgt := 64) dX12_agrees_48 (by decide) (fun hc48 => ?_) (fun hc48 => ?_)
      · (first | rw [bI_0, Bool.not_eq_false] at hc48 | rw [bI_0] at hc48 | rw [show (0 : Int32) = nI 0 from rfl, nI_eq (by omega) (by omega)] at hc48 | skip)
        refine v_iconst (v := nI 0) dX12_agrees_64 (by decide) ?_
        refine v_iret dX12_agrees_65 rfl rfl rfl rfl ?_
        exact hQ.fin h (fun x hx => by simp only [ui_ne (show x ≠ 157 by omega)]) (fun _ _ => rfl) (by rw [t_agrees, hc9, hc25]; rfl) (by rw [a_agrees, hc9, hc25, if_pos (show (true && true && true) = true from rfl), ep, ev]; first | (rw [hc48, hc57]; rfl) | (rw [hc48, Bool.false_and]; rfl))
      · (first | rw [bI_0, Bool.not_eq_false] at hc48 | rw [bI_0] at hc48 | rw [show (0 : Int32) = nI 0 from rfl, nI_eq (by omega) (by omega)] at hc48 | skip)
        refine v_aload_0 dX12_agrees_51 ?_
        refine v_iload_1 dX12_agrees_52 ?_
        refine v_iload_2 dX12_agrees_53 ?_
        refine u_callV_2 dX12_agrees_54 ml_X12_362 mv_X12_doesAgree (by first | assumption | rfl | exact led_1 (by assumption) | exact led_2 (by assumption) | exact bk_m (by assumption) (by first | assumption | omega) | exact bk_p (by assumption) (by first | assumption | omega) | exact bk_o (by assumption) (by first | assumption | omega) | exact bk_s (by assumption) (by first | assumption | omega) | exact bk_1 (by assumption) | exact bk_2 (by assumption) | exact bk_3 (by assumption) | exact bk_4 (by assumption) | exact bk_5 (by assumption) | exact bk_6 (by assumption) | exact bk_7 (by assumption) | exact bk_8 (by assumption) | exact sh_ring _ (by first | assumption | omega) | exact sh_imgs _ (by first | assumption | omega)) (by decide) rfl (by decide) (Nat.le_of_ble_eq_true rfl) (c_X12_doesAgree hR hr hv hp ?_)
        refine v_if_eq (tgt := 64) dX12_agrees_57 (by decide) (fun hc57 => ?_) (fun hc57 => ?_)
        · (first | rw [bI_0, Bool.not_eq_false] at hc57 | rw [bI_0] at hc57 | rw [show (0 : Int32) = nI 0 from rfl, nI_eq (by omega) (by omega)] at hc57 | skip)
          refine v_iconst (v := nI 0) dX12_agrees_64 (by decide) ?_
          refine v_iret dX12_agrees_65 rfl rfl rfl rfl ?_
          exact hQ.fin h (fun x hx => by simp only [ui_ne (show x ≠ 157 by omega)]) (fun _ _ => rfl) (by rw [t_agrees, hc9, hc25]; rfl) (by rw [a_agrees, hc9, hc25, if_pos (show (true && true && true) = true from rfl), ep, ev]; first | (rw [hc48, hc57]; rfl) | (rw [hc48, Bool.false_and]; rfl))
        · (first | rw [bI_0, Bool.not_eq_false] at hc57 | rw [bI_0] at hc57 | rw [show (0 : Int32) = nI 0 from rfl, nI_eq (by omega) (by omega)] at hc57 | skip)
          refine v_iconst (v := nI 1) dX12_agrees_60 (by decide) ?_
          refine v_goto (tgt := 65) dX12_agrees_61 (by decide) ?_
          refine v_iret dX12_agrees_65 rfl rfl rfl rfl ?_
          exact hQ.fin h (fun x hx => by simp only [ui_ne (show x ≠ 157 by omega)]) (fun _ _ => rfl) (by rw [t_agrees, hc9, hc25]; rfl) (by rw [a_agrees, hc9, hc25, if_pos (show (true && true && true) = true from rfl), ep, ev]; first | (rw [hc48, hc57]; rfl) | (rw [hc48, Bool.false_and]; rfl))
    · (first | rw [bI_0, Bool.not_eq_false] at hc25 | rw [bI_0] at hc25 | rw [show (0 : Int32) = nI 0 from rfl, nI_eq (by omega) (by omega)] at hc25 | skip)
      refine v_aload_0 dX12_agrees_28 ?_
      refine v_iconst (v := nI 1) dX12_agrees_29 (by decide) ?_
      refine u_callV_1 dX12_agrees_30 ml_X12_176 mv_X12_no (by first | assumption | rfl | exact led_1 (by assumption) | exact led_2 (by assumption) | exact bk_m (by assumption) (by first | assumption | omega) | exact bk_p (by assumption) (by first | assumption | omega) | exact bk_o (by assumption) (by first | assumption | omega) | exact bk_s (by assumption) (by first | assumption | omega) | exact bk_1 (by assumption) | exact bk_2 (by assumption) | exact bk_3 (by assumption) | exact bk_4 (by assumption) | exact bk_5 (by assumption) | exact bk_6 (by assumption) | exact bk_7 (by assumption) | exact bk_8 (by assumption) | exact sh_ring _ (by first | assumption | omega) | exact sh_imgs _ (by first | assumption | omega)) (by decide) rfl (by decide) (Nat.le_of_ble_eq_true rfl) (c_X12_no (k := 1) ?_)
      refine v_iret dX12_agrees_33 rfl rfl rfl rfl ?_
      exact hQ.fin (rf_tr h (by decide)) (fun x hx => by simp only [ui_ne (show x ≠ 157 by omega)]) (fun _ _ => rfl) (by first | simp [t_agrees, trc, hc9, hc25] | simp [t_agrees, trc, hc9]) (by first | simp [a_agrees, hc9, hc25] | simp [a_agrees, hc9])
end
