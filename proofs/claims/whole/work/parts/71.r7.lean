theorem dX7_readPromise_0 : decode cX7_readPromise 0 = .ok (.aload_n 0, 1) := by decide +kernel
theorem dX7_readPromise_1 : decode cX7_readPromise 1 = .ok (.aload_n 0, 1) := by decide +kernel
theorem dX7_readPromise_2 : decode cX7_readPromise 2 = .ok (.getfield 73, 3) := by decide +kernel
theorem dX7_readPromise_5 : decode cX7_readPromise 5 = .ok (.getfield 217, 3) := by decide +kernel
theorem dX7_readPromise_8 : decode cX7_readPromise 8 = .ok (.bipush 12, 2) := by decide +kernel
theorem dX7_readPromise_10 : decode cX7_readPromise 10 = .ok (.invokevirtual 220, 3) := by decide +kernel
theorem dX7_readPromise_13 : decode cX7_readPromise 13 = .ok (.ifCond .eq 11, 3) := by decide +kernel
theorem dX7_readPromise_16 : decode cX7_readPromise 16 = .ok (.aload_n 0, 1) := by decide +kernel
theorem dX7_readPromise_17 : decode cX7_readPromise 17 = .ok (.iconst 1, 1) := by decide +kernel
theorem dX7_readPromise_18 : decode cX7_readPromise 18 = .ok (.invokevirtual 211, 3) := by decide +kernel
theorem dX7_readPromise_21 : decode cX7_readPromise 21 = .ok (.ifCond .ne 5, 3) := by decide +kernel
theorem dX7_readPromise_24 : decode cX7_readPromise 24 = .ok (.iconst 0, 1) := by decide +kernel
theorem dX7_readPromise_25 : decode cX7_readPromise 25 = .ok (.ireturn, 1) := by decide +kernel
theorem dX7_readPromise_26 : decode cX7_readPromise 26 = .ok (.aload_n 0, 1) := by decide +kernel
theorem dX7_readPromise_27 : decode cX7_readPromise 27 = .ok (.getfield 73, 3) := by decide +kernel
theorem dX7_readPromise_30 : decode cX7_readPromise 30 = .ok (.getfield 223, 3) := by decide +kernel
theorem dX7_readPromise_33 : decode cX7_readPromise 33 = .ok (.aload_n 0, 1) := by decide +kernel
theorem dX7_readPromise_34 : decode cX7_readPromise 34 = .ok (.getfield 73, 3) := by decide +kernel
theorem dX7_readPromise_37 : decode cX7_readPromise 37 = .ok (.getfield 217, 3) := by decide +kernel
theorem dX7_readPromise_40 : decode cX7_readPromise 40 = .ok (.aaload, 1) := by decide +kernel
theorem dX7_readPromise_41 : decode cX7_readPromise 41 = .ok (.astore_n 1, 1) := by decide +kernel
theorem dX7_readPromise_42 : decode cX7_readPromise 42 = .ok (.aload_n 1, 1) := by decide +kernel
theorem dX7_readPromise_43 : decode cX7_readPromise 43 = .ok (.aload_n 0, 1) := by decide +kernel
theorem dX7_readPromise_44 : decode cX7_readPromise 44 = .ok (.getfield 154, 3) := by decide +kernel
theorem dX7_readPromise_47 : decode cX7_readPromise 47 = .ok (.putfield 227, 3) := by decide +kernel
theorem dX7_readPromise_50 : decode cX7_readPromise 50 = .ok (.aload_n 0, 1) := by decide +kernel
theorem dX7_readPromise_51 : decode cX7_readPromise 51 = .ok (.iconst 0, 1) := by decide +kernel
theorem dX7_readPromise_52 : decode cX7_readPromise 52 = .ok (.invokevirtual 211, 3) := by decide +kernel
theorem dX7_readPromise_55 : decode cX7_readPromise 55 = .ok (.ifCond .ne 5, 3) := by decide +kernel
theorem dX7_readPromise_58 : decode cX7_readPromise 58 = .ok (.iconst 0, 1) := by decide +kernel
theorem dX7_readPromise_59 : decode cX7_readPromise 59 = .ok (.ireturn, 1) := by decide +kernel
theorem dX7_readPromise_60 : decode cX7_readPromise 60 = .ok (.aload_n 1, 1) := by decide +kernel
theorem dX7_readPromise_61 : decode cX7_readPromise 61 = .ok (.aload_n 0, 1) := by decide +kernel
theorem dX7_readPromise_62 : decode cX7_readPromise 62 = .ok (.getfield 154, 3) := by decide +kernel
theorem dX7_readPromise_65 : decode cX7_readPromise 65 = .ok (.putfield 231, 3) := by decide +kernel
theorem dX7_readPromise_68 : decode cX7_readPromise 68 = .ok (.aload_n 0, 1) := by decide +kernel
theorem dX7_readPromise_69 : decode cX7_readPromise 69 = .ok (.ldc 233, 2) := by decide +kernel
theorem dX7_readPromise_71 : decode cX7_readPromise 71 = .ok (.iconst 1, 1) := by decide +kernel
theorem dX7_readPromise_72 : decode cX7_readPromise 72 = .ok (.aload_n 0, 1) := by decide +kernel
theorem dX7_readPromise_73 : decode cX7_readPromise 73 = .ok (.getfield 73, 3) := by decide +kernel
theorem dX7_readPromise_76 : decode cX7_readPromise 76 = .ok (.getfield 106, 3) := by decide +kernel
theorem dX7_readPromise_79 : decode cX7_readPromise 79 = .ok (.invokevirtual 150, 3) := by decide +kernel
theorem dX7_readPromise_82 : decode cX7_readPromise 82 = .ok (.ifCond .ne 5, 3) := by decide +kernel
theorem dX7_readPromise_85 : decode cX7_readPromise 85 = .ok (.iconst 0, 1) := by decide +kernel
theorem dX7_readPromise_86 : decode cX7_readPromise 86 = .ok (.ireturn, 1) := by decide +kernel
theorem dX7_readPromise_87 : decode cX7_readPromise 87 = .ok (.aload_n 1, 1) := by decide +kernel
theorem dX7_readPromise_88 : decode cX7_readPromise 88 = .ok (.aload_n 0, 1) := by decide +kernel
theorem dX7_readPromise_89 : decode cX7_readPromise 89 = .ok (.getfield 154, 3) := by decide +kernel
theorem dX7_readPromise_92 : decode cX7_readPromise 92 = .ok (.putfield 235, 3) := by decide +kernel
theorem dX7_readPromise_95 : decode cX7_readPromise 95 = .ok (.aload_n 0, 1) := by decide +kernel
theorem dX7_readPromise_96 : decode cX7_readPromise 96 = .ok (.ldc 238, 2) := by decide +kernel
theorem dX7_readPromise_98 : decode cX7_readPromise 98 = .ok (.iconst 0, 1) := by decide +kernel
theorem dX7_readPromise_99 : decode cX7_readPromise 99 = .ok (.bipush 99, 2) := by decide +kernel
theorem dX7_readPromise_101 : decode cX7_readPromise 101 = .ok (.invokevirtual 150, 3) := by decide +kernel
theorem dX7_readPromise_104 : decode cX7_readPromise 104 = .ok (.ifCond .ne 5, 3) := by decide +kernel
theorem dX7_readPromise_107 : decode cX7_readPromise 107 = .ok (.iconst 0, 1) := by decide +kernel
theorem dX7_readPromise_108 : decode cX7_readPromise 108 = .ok (.ireturn, 1) := by decide +kernel
theorem dX7_readPromise_109 : decode cX7_readPromise 109 = .ok (.aload_n 1, 1) := by decide +kernel
theorem dX7_readPromise_110 : decode cX7_readPromise 110 = .ok (.aload_n 0, 1) := by decide +kernel
theorem dX7_readPromise_111 : decode cX7_readPromise 111 = .ok (.getfield 154, 3) := by decide +kernel
theorem dX7_readPromise_114 : decode cX7_readPromise 114 = .ok (.putfield 240, 3) := by decide +kernel
theorem dX7_readPromise_117 : decode cX7_readPromise 117 = .ok (.aload_n 0, 1) := by decide +kernel
theorem dX7_readPromise_118 : decode cX7_readPromise 118 = .ok (.ldc 242, 2) := by decide +kernel
theorem dX7_readPromise_120 : decode cX7_readPromise 120 = .ok (.iconst 0, 1) := by decide +kernel
theorem dX7_readPromise_121 : decode cX7_readPromise 121 = .ok (.bipush 99, 2) := by decide +kernel
theorem dX7_readPromise_123 : decode cX7_readPromise 123 = .ok (.invokevirtual 150, 3) := by decide +kernel
theorem dX7_readPromise_126 : decode cX7_readPromise 126 = .ok (.ifCond .ne 5, 3) := by decide +kernel
theorem dX7_readPromise_129 : decode cX7_readPromise 129 = .ok (.iconst 0, 1) := by decide +kernel
theorem dX7_readPromise_130 : decode cX7_readPromise 130 = .ok (.ireturn, 1) := by decide +kernel
theorem dX7_readPromise_131 : decode cX7_readPromise 131 = .ok (.aload_n 1, 1) := by decide +kernel
theorem dX7_readPromise_132 : decode cX7_readPromise 132 = .ok (.aload_n 0, 1) := by decide +kernel
theorem dX7_readPromise_133 : decode cX7_readPromise 133 = .ok (.getfield 154, 3) := by decide +kernel
theorem dX7_readPromise_136 : decode cX7_readPromise 136 = .ok (.putfield 244, 3) := by decide +kernel
theorem dX7_readPromise_139 : decode cX7_readPromise 139 = .ok (.aload_n 0, 1) := by decide +kernel
theorem dX7_readPromise_140 : decode cX7_readPromise 140 = .ok (.ldc 246, 2) := by decide +kernel
theorem dX7_readPromise_142 : decode cX7_readPromise 142 = .ok (.iconst 0, 1) := by decide +kernel
theorem dX7_readPromise_143 : decode cX7_readPromise 143 = .ok (.bipush 99, 2) := by decide +kernel
theorem dX7_readPromise_145 : decode cX7_readPromise 145 = .ok (.invokevirtual 150, 3) := by decide +kernel
theorem dX7_readPromise_148 : decode cX7_readPromise 148 = .ok (.ifCond .ne 5, 3) := by decide +kernel
theorem dX7_readPromise_151 : decode cX7_readPromise 151 = .ok (.iconst 0, 1) := by decide +kernel
theorem dX7_readPromise_152 : decode cX7_readPromise 152 = .ok (.ireturn, 1) := by decide +kernel
theorem dX7_readPromise_153 : decode cX7_readPromise 153 = .ok (.aload_n 1, 1) := by decide +kernel
theorem dX7_readPromise_154 : decode cX7_readPromise 154 = .ok (.aload_n 0, 1) := by decide +kernel
theorem dX7_readPromise_155 : decode cX7_readPromise 155 = .ok (.getfield 154, 3) := by decide +kernel
theorem dX7_readPromise_158 : decode cX7_readPromise 158 = .ok (.putfield 248, 3) := by decide +kernel
theorem dX7_readPromise_161 : decode cX7_readPromise 161 = .ok (.aload_n 0, 1) := by decide +kernel
theorem dX7_readPromise_162 : decode cX7_readPromise 162 = .ok (.getfield 73, 3) := by decide +kernel
theorem dX7_readPromise_165 : decode cX7_readPromise 165 = .ok (.dup, 1) := by decide +kernel
theorem dX7_readPromise_166 : decode cX7_readPromise 166 = .ok (.getfield 217, 3) := by decide +kernel
theorem dX7_readPromise_169 : decode cX7_readPromise 169 = .ok (.iconst 1, 1) := by decide +kernel
theorem dX7_readPromise_170 : decode cX7_readPromise 170 = .ok (.iadd, 1) := by decide +kernel
theorem dX7_readPromise_171 : decode cX7_readPromise 171 = .ok (.putfield 217, 3) := by decide +kernel
theorem dX7_readPromise_174 : decode cX7_readPromise 174 = .ok (.iconst 1, 1) := by decide +kernel
theorem dX7_readPromise_175 : decode cX7_readPromise 175 = .ok (.ireturn, 1) := by decide +kernel
theorem dX7_readLent_0 : decode cX7_readLent 0 = .ok (.aload_n 0, 1) := by decide +kernel
theorem dX7_readLent_1 : decode cX7_readLent 1 = .ok (.aload_n 0, 1) := by decide +kernel
theorem dX7_readLent_2 : decode cX7_readLent 2 = .ok (.getfield 73, 3) := by decide +kernel
theorem dX7_readLent_5 : decode cX7_readLent 5 = .ok (.getfield 250, 3) := by decide +kernel
theorem dX7_readLent_8 : decode cX7_readLent 8 = .ok (.getfield 254, 3) := by decide +kernel
theorem dX7_readLent_11 : decode cX7_readLent 11 = .ok (.bipush 12, 2) := by decide +kernel
theorem dX7_readLent_13 : decode cX7_readLent 13 = .ok (.invokevirtual 220, 3) := by decide +kernel
theorem dX7_readLent_16 : decode cX7_readLent 16 = .ok (.ifCond .eq 11, 3) := by decide +kernel
theorem dX7_readLent_19 : decode cX7_readLent 19 = .ok (.aload_n 0, 1) := by decide +kernel
theorem dX7_readLent_20 : decode cX7_readLent 20 = .ok (.iconst 1, 1) := by decide +kernel
theorem dX7_readLent_21 : decode cX7_readLent 21 = .ok (.invokevirtual 211, 3) := by decide +kernel
theorem dX7_readLent_24 : decode cX7_readLent 24 = .ok (.ifCond .ne 5, 3) := by decide +kernel
theorem dX7_readLent_27 : decode cX7_readLent 27 = .ok (.iconst 0, 1) := by decide +kernel
theorem dX7_readLent_28 : decode cX7_readLent 28 = .ok (.ireturn, 1) := by decide +kernel
theorem dX7_readLent_29 : decode cX7_readLent 29 = .ok (.aload_n 0, 1) := by decide +kernel
theorem dX7_readLent_30 : decode cX7_readLent 30 = .ok (.getfield 154, 3) := by decide +kernel
theorem dX7_readLent_33 : decode cX7_readLent 33 = .ok (.istore_n 1, 1) := by decide +kernel
theorem dX7_readLent_34 : decode cX7_readLent 34 = .ok (.aload_n 0, 1) := by decide +kernel
theorem dX7_readLent_35 : decode cX7_readLent 35 = .ok (.ldc_w 259, 3) := by decide +kernel
theorem dX7_readLent_38 : decode cX7_readLent 38 = .ok (.invokevirtual 261, 3) := by decide +kernel
theorem dX7_readLent_41 : decode cX7_readLent 41 = .ok (.ifCond .eq 11, 3) := by decide +kernel
theorem dX7_readLent_44 : decode cX7_readLent 44 = .ok (.aload_n 0, 1) := by decide +kernel
theorem dX7_readLent_45 : decode cX7_readLent 45 = .ok (.iconst 2, 1) := by decide +kernel
theorem dX7_readLent_46 : decode cX7_readLent 46 = .ok (.invokevirtual 211, 3) := by decide +kernel
theorem dX7_readLent_49 : decode cX7_readLent 49 = .ok (.ifCond .ne 5, 3) := by decide +kernel
theorem dX7_readLent_52 : decode cX7_readLent 52 = .ok (.iconst 0, 1) := by decide +kernel
theorem dX7_readLent_53 : decode cX7_readLent 53 = .ok (.ireturn, 1) := by decide +kernel
theorem dX7_readLent_54 : decode cX7_readLent 54 = .ok (.aload_n 0, 1) := by decide +kernel
theorem dX7_readLent_55 : decode cX7_readLent 55 = .ok (.getfield 154, 3) := by decide +kernel
theorem dX7_readLent_58 : decode cX7_readLent 58 = .ok (.istore_n 2, 1) := by decide +kernel
theorem dX7_readLent_59 : decode cX7_readLent 59 = .ok (.aload_n 0, 1) := by decide +kernel
theorem dX7_readLent_60 : decode cX7_readLent 60 = .ok (.ldc_w 264, 3) := by decide +kernel
theorem dX7_readLent_63 : decode cX7_readLent 63 = .ok (.iconst 1, 1) := by decide +kernel
theorem dX7_readLent_64 : decode cX7_readLent 64 = .ok (.aload_n 0, 1) := by decide +kernel
theorem dX7_readLent_65 : decode cX7_readLent 65 = .ok (.getfield 73, 3) := by decide +kernel
theorem dX7_readLent_68 : decode cX7_readLent 68 = .ok (.getfield 106, 3) := by decide +kernel
theorem dX7_readLent_71 : decode cX7_readLent 71 = .ok (.invokevirtual 150, 3) := by decide +kernel
theorem dX7_readLent_74 : decode cX7_readLent 74 = .ok (.ifCond .ne 5, 3) := by decide +kernel
theorem dX7_readLent_77 : decode cX7_readLent 77 = .ok (.iconst 0, 1) := by decide +kernel
theorem dX7_readLent_78 : decode cX7_readLent 78 = .ok (.ireturn, 1) := by decide +kernel
theorem dX7_readLent_79 : decode cX7_readLent 79 = .ok (.aload_n 0, 1) := by decide +kernel
theorem dX7_readLent_80 : decode cX7_readLent 80 = .ok (.getfield 154, 3) := by decide +kernel
theorem dX7_readLent_83 : decode cX7_readLent 83 = .ok (.istore_n 3, 1) := by decide +kernel
theorem dX7_readLent_84 : decode cX7_readLent 84 = .ok (.aload_n 0, 1) := by decide +kernel
theorem dX7_readLent_85 : decode cX7_readLent 85 = .ok (.ldc_w 266, 3) := by decide +kernel
theorem dX7_readLent_88 : decode cX7_readLent 88 = .ok (.iload_n 3, 1) := by decide +kernel
theorem dX7_readLent_89 : decode cX7_readLent 89 = .ok (.aload_n 0, 1) := by decide +kernel
theorem dX7_readLent_90 : decode cX7_readLent 90 = .ok (.getfield 73, 3) := by decide +kernel
theorem dX7_readLent_93 : decode cX7_readLent 93 = .ok (.getfield 106, 3) := by decide +kernel
theorem dX7_readLent_96 : decode cX7_readLent 96 = .ok (.invokevirtual 150, 3) := by decide +kernel
theorem dX7_readLent_99 : decode cX7_readLent 99 = .ok (.ifCond .ne 5, 3) := by decide +kernel
theorem dX7_readLent_102 : decode cX7_readLent 102 = .ok (.iconst 0, 1) := by decide +kernel
theorem dX7_readLent_103 : decode cX7_readLent 103 = .ok (.ireturn, 1) := by decide +kernel
theorem dX7_readLent_104 : decode cX7_readLent 104 = .ok (.aload_n 0, 1) := by decide +kernel
theorem dX7_readLent_105 : decode cX7_readLent 105 = .ok (.getfield 73, 3) := by decide +kernel
theorem dX7_readLent_108 : decode cX7_readLent 108 = .ok (.iload_n 1, 1) := by decide +kernel
theorem dX7_readLent_109 : decode cX7_readLent 109 = .ok (.iload_n 2, 1) := by decide +kernel
theorem dX7_readLent_110 : decode cX7_readLent 110 = .ok (.iload_n 3, 1) := by decide +kernel
theorem dX7_readLent_111 : decode cX7_readLent 111 = .ok (.aload_n 0, 1) := by decide +kernel
theorem dX7_readLent_112 : decode cX7_readLent 112 = .ok (.getfield 154, 3) := by decide +kernel
theorem dX7_readLent_115 : decode cX7_readLent 115 = .ok (.aload_n 0, 1) := by decide +kernel
theorem dX7_readLent_116 : decode cX7_readLent 116 = .ok (.getfield 73, 3) := by decide +kernel
theorem dX7_readLent_119 : decode cX7_readLent 119 = .ok (.getfield 250, 3) := by decide +kernel
theorem dX7_readLent_122 : decode cX7_readLent 122 = .ok (.invokevirtual 268, 3) := by decide +kernel
theorem dX7_readLent_125 : decode cX7_readLent 125 = .ok (.ifCond .ne 10, 3) := by decide +kernel
theorem dX7_readLent_128 : decode cX7_readLent 128 = .ok (.aload_n 0, 1) := by decide +kernel
theorem dX7_readLent_129 : decode cX7_readLent 129 = .ok (.bipush 7, 2) := by decide +kernel
theorem dX7_readLent_131 : decode cX7_readLent 131 = .ok (.invokevirtual 146, 3) := by decide +kernel
theorem dX7_readLent_134 : decode cX7_readLent 134 = .ok (.ireturn, 1) := by decide +kernel
theorem dX7_readLent_135 : decode cX7_readLent 135 = .ok (.aload_n 0, 1) := by decide +kernel
theorem dX7_readLent_136 : decode cX7_readLent 136 = .ok (.getfield 73, 3) := by decide +kernel
theorem dX7_readLent_139 : decode cX7_readLent 139 = .ok (.getfield 250, 3) := by decide +kernel
theorem dX7_readLent_142 : decode cX7_readLent 142 = .ok (.iload_n 1, 1) := by decide +kernel
theorem dX7_readLent_143 : decode cX7_readLent 143 = .ok (.iload_n 2, 1) := by decide +kernel
theorem dX7_readLent_144 : decode cX7_readLent 144 = .ok (.iload_n 3, 1) := by decide +kernel
theorem dX7_readLent_145 : decode cX7_readLent 145 = .ok (.aload_n 0, 1) := by decide +kernel
theorem dX7_readLent_146 : decode cX7_readLent 146 = .ok (.getfield 154, 3) := by decide +kernel
theorem dX7_readLent_149 : decode cX7_readLent 149 = .ok (.invokevirtual 272, 3) := by decide +kernel
theorem dX7_readLent_152 : decode cX7_readLent 152 = .ok (.iconst 1, 1) := by decide +kernel
theorem dX7_readLent_153 : decode cX7_readLent 153 = .ok (.ireturn, 1) := by decide +kernel
theorem dX7_readSeen_0 : decode cX7_readSeen 0 = .ok (.aload_n 0, 1) := by decide +kernel
theorem dX7_readSeen_1 : decode cX7_readSeen 1 = .ok (.aload_n 0, 1) := by decide +kernel
theorem dX7_readSeen_2 : decode cX7_readSeen 2 = .ok (.getfield 73, 3) := by decide +kernel
theorem dX7_readSeen_5 : decode cX7_readSeen 5 = .ok (.getfield 276, 3) := by decide +kernel
theorem dX7_readSeen_8 : decode cX7_readSeen 8 = .ok (.bipush 8, 2) := by decide +kernel
theorem dX7_readSeen_10 : decode cX7_readSeen 10 = .ok (.invokevirtual 220, 3) := by decide +kernel
theorem dX7_readSeen_13 : decode cX7_readSeen 13 = .ok (.ifCond .eq 11, 3) := by decide +kernel
theorem dX7_readSeen_16 : decode cX7_readSeen 16 = .ok (.aload_n 0, 1) := by decide +kernel
theorem dX7_readSeen_17 : decode cX7_readSeen 17 = .ok (.iconst 1, 1) := by decide +kernel
theorem dX7_readSeen_18 : decode cX7_readSeen 18 = .ok (.invokevirtual 211, 3) := by decide +kernel
theorem dX7_readSeen_21 : decode cX7_readSeen 21 = .ok (.ifCond .ne 5, 3) := by decide +kernel
theorem dX7_readSeen_24 : decode cX7_readSeen 24 = .ok (.iconst 0, 1) := by decide +kernel
theorem dX7_readSeen_25 : decode cX7_readSeen 25 = .ok (.ireturn, 1) := by decide +kernel
theorem dX7_readSeen_26 : decode cX7_readSeen 26 = .ok (.aload_n 0, 1) := by decide +kernel
theorem dX7_readSeen_27 : decode cX7_readSeen 27 = .ok (.getfield 73, 3) := by decide +kernel
theorem dX7_readSeen_30 : decode cX7_readSeen 30 = .ok (.getfield 279, 3) := by decide +kernel
theorem dX7_readSeen_33 : decode cX7_readSeen 33 = .ok (.aload_n 0, 1) := by decide +kernel
theorem dX7_readSeen_34 : decode cX7_readSeen 34 = .ok (.getfield 73, 3) := by decide +kernel
theorem dX7_readSeen_37 : decode cX7_readSeen 37 = .ok (.getfield 276, 3) := by decide +kernel
theorem dX7_readSeen_40 : decode cX7_readSeen 40 = .ok (.aaload, 1) := by decide +kernel
theorem dX7_readSeen_41 : decode cX7_readSeen 41 = .ok (.astore_n 1, 1) := by decide +kernel
theorem dX7_readSeen_42 : decode cX7_readSeen 42 = .ok (.aload_n 1, 1) := by decide +kernel
theorem dX7_readSeen_43 : decode cX7_readSeen 43 = .ok (.aload_n 0, 1) := by decide +kernel
theorem dX7_readSeen_44 : decode cX7_readSeen 44 = .ok (.getfield 154, 3) := by decide +kernel
theorem dX7_readSeen_47 : decode cX7_readSeen 47 = .ok (.putfield 283, 3) := by decide +kernel
theorem dX7_readSeen_50 : decode cX7_readSeen 50 = .ok (.aload_n 0, 1) := by decide +kernel
theorem dX7_readSeen_51 : decode cX7_readSeen 51 = .ok (.ldc 233, 2) := by decide +kernel
theorem dX7_readSeen_53 : decode cX7_readSeen 53 = .ok (.iconst 1, 1) := by decide +kernel
theorem dX7_readSeen_54 : decode cX7_readSeen 54 = .ok (.aload_n 0, 1) := by decide +kernel
theorem dX7_readSeen_55 : decode cX7_readSeen 55 = .ok (.getfield 73, 3) := by decide +kernel
theorem dX7_readSeen_58 : decode cX7_readSeen 58 = .ok (.getfield 106, 3) := by decide +kernel
theorem dX7_readSeen_61 : decode cX7_readSeen 61 = .ok (.invokevirtual 150, 3) := by decide +kernel
theorem dX7_readSeen_64 : decode cX7_readSeen 64 = .ok (.ifCond .ne 5, 3) := by decide +kernel
theorem dX7_readSeen_67 : decode cX7_readSeen 67 = .ok (.iconst 0, 1) := by decide +kernel
theorem dX7_readSeen_68 : decode cX7_readSeen 68 = .ok (.ireturn, 1) := by decide +kernel
theorem dX7_readSeen_69 : decode cX7_readSeen 69 = .ok (.aload_n 1, 1) := by decide +kernel
theorem dX7_readSeen_70 : decode cX7_readSeen 70 = .ok (.aload_n 0, 1) := by decide +kernel
theorem dX7_readSeen_71 : decode cX7_readSeen 71 = .ok (.getfield 154, 3) := by decide +kernel
theorem dX7_readSeen_74 : decode cX7_readSeen 74 = .ok (.putfield 286, 3) := by decide +kernel
theorem dX7_readSeen_77 : decode cX7_readSeen 77 = .ok (.aload_n 0, 1) := by decide +kernel
theorem dX7_readSeen_78 : decode cX7_readSeen 78 = .ok (.ldc_w 287, 3) := by decide +kernel
theorem dX7_readSeen_81 : decode cX7_readSeen 81 = .ok (.iconst 0, 1) := by decide +kernel
theorem dX7_readSeen_82 : decode cX7_readSeen 82 = .ok (.bipush 23, 2) := by decide +kernel
theorem dX7_readSeen_84 : decode cX7_readSeen 84 = .ok (.invokevirtual 150, 3) := by decide +kernel
theorem dX7_readSeen_87 : decode cX7_readSeen 87 = .ok (.ifCond .ne 5, 3) := by decide +kernel
theorem dX7_readSeen_90 : decode cX7_readSeen 90 = .ok (.iconst 0, 1) := by decide +kernel
theorem dX7_readSeen_91 : decode cX7_readSeen 91 = .ok (.ireturn, 1) := by decide +kernel
theorem dX7_readSeen_92 : decode cX7_readSeen 92 = .ok (.aload_n 1, 1) := by decide +kernel
theorem dX7_readSeen_93 : decode cX7_readSeen 93 = .ok (.aload_n 0, 1) := by decide +kernel
theorem dX7_readSeen_94 : decode cX7_readSeen 94 = .ok (.getfield 154, 3) := by decide +kernel
theorem dX7_readSeen_97 : decode cX7_readSeen 97 = .ok (.putfield 289, 3) := by decide +kernel
theorem dX7_readSeen_100 : decode cX7_readSeen 100 = .ok (.aload_n 0, 1) := by decide +kernel
theorem dX7_readSeen_101 : decode cX7_readSeen 101 = .ok (.ldc 57, 2) := by decide +kernel
theorem dX7_readSeen_103 : decode cX7_readSeen 103 = .ok (.iconst 1, 1) := by decide +kernel
theorem dX7_readSeen_104 : decode cX7_readSeen 104 = .ok (.bipush 9, 2) := by decide +kernel
theorem dX7_readSeen_106 : decode cX7_readSeen 106 = .ok (.invokevirtual 150, 3) := by decide +kernel
theorem dX7_readSeen_109 : decode cX7_readSeen 109 = .ok (.ifCond .ne 5, 3) := by decide +kernel
theorem dX7_readSeen_112 : decode cX7_readSeen 112 = .ok (.iconst 0, 1) := by decide +kernel
theorem dX7_readSeen_113 : decode cX7_readSeen 113 = .ok (.ireturn, 1) := by decide +kernel
theorem dX7_readSeen_114 : decode cX7_readSeen 114 = .ok (.aload_n 1, 1) := by decide +kernel
theorem dX7_readSeen_115 : decode cX7_readSeen 115 = .ok (.aload_n 0, 1) := by decide +kernel
theorem dX7_readSeen_116 : decode cX7_readSeen 116 = .ok (.getfield 154, 3) := by decide +kernel
theorem dX7_readSeen_119 : decode cX7_readSeen 119 = .ok (.putfield 291, 3) := by decide +kernel
theorem dX7_readSeen_122 : decode cX7_readSeen 122 = .ok (.aload_n 0, 1) := by decide +kernel
theorem dX7_readSeen_123 : decode cX7_readSeen 123 = .ok (.iconst 0, 1) := by decide +kernel
theorem dX7_readSeen_124 : decode cX7_readSeen 124 = .ok (.putfield 154, 3) := by decide +kernel
theorem dX7_readSeen_127 : decode cX7_readSeen 127 = .ok (.aload_n 0, 1) := by decide +kernel
theorem dX7_readSeen_128 : decode cX7_readSeen 128 = .ok (.getfield 14, 3) := by decide +kernel
theorem dX7_readSeen_131 : decode cX7_readSeen 131 = .ok (.ldc 53, 2) := by decide +kernel
theorem dX7_readSeen_133 : decode cX7_readSeen 133 = .ok (.invokevirtual 199, 3) := by decide +kernel
theorem dX7_readSeen_136 : decode cX7_readSeen 136 = .ok (.ifCond .eq 16, 3) := by decide +kernel
theorem dX7_readSeen_139 : decode cX7_readSeen 139 = .ok (.aload_n 0, 1) := by decide +kernel
theorem dX7_readSeen_140 : decode cX7_readSeen 140 = .ok (.ldc 53, 2) := by decide +kernel
theorem dX7_readSeen_142 : decode cX7_readSeen 142 = .ok (.iconst 1, 1) := by decide +kernel
theorem dX7_readSeen_143 : decode cX7_readSeen 143 = .ok (.iconst 4, 1) := by decide +kernel
theorem dX7_readSeen_144 : decode cX7_readSeen 144 = .ok (.invokevirtual 150, 3) := by decide +kernel
theorem dX7_readSeen_147 : decode cX7_readSeen 147 = .ok (.ifCond .ne 5, 3) := by decide +kernel
theorem dX7_readSeen_150 : decode cX7_readSeen 150 = .ok (.iconst 0, 1) := by decide +kernel
theorem dX7_readSeen_151 : decode cX7_readSeen 151 = .ok (.ireturn, 1) := by decide +kernel
theorem dX7_readSeen_152 : decode cX7_readSeen 152 = .ok (.aload_n 1, 1) := by decide +kernel
theorem dX7_readSeen_153 : decode cX7_readSeen 153 = .ok (.aload_n 0, 1) := by decide +kernel
theorem dX7_readSeen_154 : decode cX7_readSeen 154 = .ok (.getfield 154, 3) := by decide +kernel
theorem dX7_readSeen_157 : decode cX7_readSeen 157 = .ok (.putfield 292, 3) := by decide +kernel
theorem dX7_readSeen_160 : decode cX7_readSeen 160 = .ok (.aload_n 0, 1) := by decide +kernel
theorem dX7_readSeen_161 : decode cX7_readSeen 161 = .ok (.getfield 73, 3) := by decide +kernel
theorem dX7_readSeen_164 : decode cX7_readSeen 164 = .ok (.dup, 1) := by decide +kernel
theorem dX7_readSeen_165 : decode cX7_readSeen 165 = .ok (.getfield 276, 3) := by decide +kernel
theorem dX7_readSeen_168 : decode cX7_readSeen 168 = .ok (.iconst 1, 1) := by decide +kernel
theorem dX7_readSeen_169 : decode cX7_readSeen 169 = .ok (.iadd, 1) := by decide +kernel
theorem dX7_readSeen_170 : decode cX7_readSeen 170 = .ok (.putfield 276, 3) := by decide +kernel
theorem dX7_readSeen_173 : decode cX7_readSeen 173 = .ok (.iconst 1, 1) := by decide +kernel
theorem dX7_readSeen_174 : decode cX7_readSeen 174 = .ok (.ireturn, 1) := by decide +kernel
theorem dX7_readLetter_0 : decode cX7_readLetter 0 = .ok (.aload_n 0, 1) := by decide +kernel
theorem dX7_readLetter_1 : decode cX7_readLetter 1 = .ok (.aload_n 0, 1) := by decide +kernel
theorem dX7_readLetter_2 : decode cX7_readLetter 2 = .ok (.getfield 73, 3) := by decide +kernel
theorem dX7_readLetter_5 : decode cX7_readLetter 5 = .ok (.getfield 293, 3) := by decide +kernel
theorem dX7_readLetter_8 : decode cX7_readLetter 8 = .ok (.bipush 8, 2) := by decide +kernel
theorem dX7_readLetter_10 : decode cX7_readLetter 10 = .ok (.invokevirtual 220, 3) := by decide +kernel
theorem dX7_readLetter_13 : decode cX7_readLetter 13 = .ok (.ifCond .eq 11, 3) := by decide +kernel
theorem dX7_readLetter_16 : decode cX7_readLetter 16 = .ok (.aload_n 0, 1) := by decide +kernel
theorem dX7_readLetter_17 : decode cX7_readLetter 17 = .ok (.iconst 1, 1) := by decide +kernel
theorem dX7_readLetter_18 : decode cX7_readLetter 18 = .ok (.invokevirtual 211, 3) := by decide +kernel
theorem dX7_readLetter_21 : decode cX7_readLetter 21 = .ok (.ifCond .ne 5, 3) := by decide +kernel
theorem dX7_readLetter_24 : decode cX7_readLetter 24 = .ok (.iconst 0, 1) := by decide +kernel
theorem dX7_readLetter_25 : decode cX7_readLetter 25 = .ok (.ireturn, 1) := by decide +kernel
theorem dX7_readLetter_26 : decode cX7_readLetter 26 = .ok (.aload_n 0, 1) := by decide +kernel
theorem dX7_readLetter_27 : decode cX7_readLetter 27 = .ok (.getfield 154, 3) := by decide +kernel
theorem dX7_readLetter_30 : decode cX7_readLetter 30 = .ok (.istore_n 1, 1) := by decide +kernel
theorem dX7_readLetter_31 : decode cX7_readLetter 31 = .ok (.aload_n 0, 1) := by decide +kernel
theorem dX7_readLetter_32 : decode cX7_readLetter 32 = .ok (.ldc_w 259, 3) := by decide +kernel
theorem dX7_readLetter_35 : decode cX7_readLetter 35 = .ok (.invokevirtual 261, 3) := by decide +kernel
theorem dX7_readLetter_38 : decode cX7_readLetter 38 = .ok (.ifCond .eq 11, 3) := by decide +kernel
theorem dX7_readLetter_41 : decode cX7_readLetter 41 = .ok (.aload_n 0, 1) := by decide +kernel
theorem dX7_readLetter_42 : decode cX7_readLetter 42 = .ok (.iconst 1, 1) := by decide +kernel
theorem dX7_readLetter_43 : decode cX7_readLetter 43 = .ok (.invokevirtual 211, 3) := by decide +kernel
theorem dX7_readLetter_46 : decode cX7_readLetter 46 = .ok (.ifCond .ne 5, 3) := by decide +kernel
theorem dX7_readLetter_49 : decode cX7_readLetter 49 = .ok (.iconst 0, 1) := by decide +kernel
theorem dX7_readLetter_50 : decode cX7_readLetter 50 = .ok (.ireturn, 1) := by decide +kernel
theorem dX7_readLetter_51 : decode cX7_readLetter 51 = .ok (.aload_n 0, 1) := by decide +kernel
theorem dX7_readLetter_52 : decode cX7_readLetter 52 = .ok (.getfield 154, 3) := by decide +kernel
theorem dX7_readLetter_55 : decode cX7_readLetter 55 = .ok (.iload_n 1, 1) := by decide +kernel
theorem dX7_readLetter_56 : decode cX7_readLetter 56 = .ok (.if_icmp .ne 9, 3) := by decide +kernel
theorem dX7_readLetter_59 : decode cX7_readLetter 59 = .ok (.aload_n 0, 1) := by decide +kernel
theorem dX7_readLetter_60 : decode cX7_readLetter 60 = .ok (.iconst 3, 1) := by decide +kernel
theorem dX7_readLetter_61 : decode cX7_readLetter 61 = .ok (.invokevirtual 146, 3) := by decide +kernel
theorem dX7_readLetter_64 : decode cX7_readLetter 64 = .ok (.ireturn, 1) := by decide +kernel
theorem dX7_readLetter_65 : decode cX7_readLetter 65 = .ok (.aload_n 0, 1) := by decide +kernel
theorem dX7_readLetter_66 : decode cX7_readLetter 66 = .ok (.getfield 154, 3) := by decide +kernel
theorem dX7_readLetter_69 : decode cX7_readLetter 69 = .ok (.istore_n 2, 1) := by decide +kernel
theorem dX7_readLetter_70 : decode cX7_readLetter 70 = .ok (.aload_n 0, 1) := by decide +kernel
theorem dX7_readLetter_71 : decode cX7_readLetter 71 = .ok (.ldc 233, 2) := by decide +kernel
theorem dX7_readLetter_73 : decode cX7_readLetter 73 = .ok (.iconst 1, 1) := by decide +kernel
theorem dX7_readLetter_74 : decode cX7_readLetter 74 = .ok (.aload_n 0, 1) := by decide +kernel
theorem dX7_readLetter_75 : decode cX7_readLetter 75 = .ok (.getfield 73, 3) := by decide +kernel
theorem dX7_readLetter_78 : decode cX7_readLetter 78 = .ok (.getfield 106, 3) := by decide +kernel
theorem dX7_readLetter_81 : decode cX7_readLetter 81 = .ok (.invokevirtual 150, 3) := by decide +kernel
theorem dX7_readLetter_84 : decode cX7_readLetter 84 = .ok (.ifCond .ne 5, 3) := by decide +kernel
theorem dX7_readLetter_87 : decode cX7_readLetter 87 = .ok (.iconst 0, 1) := by decide +kernel
theorem dX7_readLetter_88 : decode cX7_readLetter 88 = .ok (.ireturn, 1) := by decide +kernel
theorem dX7_readLetter_89 : decode cX7_readLetter 89 = .ok (.aload_n 0, 1) := by decide +kernel
theorem dX7_readLetter_90 : decode cX7_readLetter 90 = .ok (.getfield 73, 3) := by decide +kernel
theorem dX7_readLetter_93 : decode cX7_readLetter 93 = .ok (.getfield 296, 3) := by decide +kernel
theorem dX7_readLetter_96 : decode cX7_readLetter 96 = .ok (.aload_n 0, 1) := by decide +kernel
theorem dX7_readLetter_97 : decode cX7_readLetter 97 = .ok (.getfield 73, 3) := by decide +kernel
theorem dX7_readLetter_100 : decode cX7_readLetter 100 = .ok (.getfield 293, 3) := by decide +kernel
theorem dX7_readLetter_103 : decode cX7_readLetter 103 = .ok (.iload_n 1, 1) := by decide +kernel
theorem dX7_readLetter_104 : decode cX7_readLetter 104 = .ok (.iastore, 1) := by decide +kernel
theorem dX7_readLetter_105 : decode cX7_readLetter 105 = .ok (.aload_n 0, 1) := by decide +kernel
theorem dX7_readLetter_106 : decode cX7_readLetter 106 = .ok (.getfield 73, 3) := by decide +kernel
theorem dX7_readLetter_109 : decode cX7_readLetter 109 = .ok (.getfield 299, 3) := by decide +kernel
theorem dX7_readLetter_112 : decode cX7_readLetter 112 = .ok (.aload_n 0, 1) := by decide +kernel
theorem dX7_readLetter_113 : decode cX7_readLetter 113 = .ok (.getfield 73, 3) := by decide +kernel
theorem dX7_readLetter_116 : decode cX7_readLetter 116 = .ok (.getfield 293, 3) := by decide +kernel
theorem dX7_readLetter_119 : decode cX7_readLetter 119 = .ok (.iload_n 2, 1) := by decide +kernel
theorem dX7_readLetter_120 : decode cX7_readLetter 120 = .ok (.iastore, 1) := by decide +kernel
theorem dX7_readLetter_121 : decode cX7_readLetter 121 = .ok (.aload_n 0, 1) := by decide +kernel
theorem dX7_readLetter_122 : decode cX7_readLetter 122 = .ok (.getfield 73, 3) := by decide +kernel
theorem dX7_readLetter_125 : decode cX7_readLetter 125 = .ok (.getfield 302, 3) := by decide +kernel
theorem dX7_readLetter_128 : decode cX7_readLetter 128 = .ok (.aload_n 0, 1) := by decide +kernel
theorem dX7_readLetter_129 : decode cX7_readLetter 129 = .ok (.getfield 73, 3) := by decide +kernel
theorem dX7_readLetter_132 : decode cX7_readLetter 132 = .ok (.getfield 293, 3) := by decide +kernel
theorem dX7_readLetter_135 : decode cX7_readLetter 135 = .ok (.aload_n 0, 1) := by decide +kernel
theorem dX7_readLetter_136 : decode cX7_readLetter 136 = .ok (.getfield 154, 3) := by decide +kernel
theorem dX7_readLetter_139 : decode cX7_readLetter 139 = .ok (.iastore, 1) := by decide +kernel
theorem dX7_readLetter_140 : decode cX7_readLetter 140 = .ok (.aload_n 0, 1) := by decide +kernel
theorem dX7_readLetter_141 : decode cX7_readLetter 141 = .ok (.getfield 73, 3) := by decide +kernel
theorem dX7_readLetter_144 : decode cX7_readLetter 144 = .ok (.dup, 1) := by decide +kernel
theorem dX7_readLetter_145 : decode cX7_readLetter 145 = .ok (.getfield 293, 3) := by decide +kernel
theorem dX7_readLetter_148 : decode cX7_readLetter 148 = .ok (.iconst 1, 1) := by decide +kernel
theorem dX7_readLetter_149 : decode cX7_readLetter 149 = .ok (.iadd, 1) := by decide +kernel
theorem dX7_readLetter_150 : decode cX7_readLetter 150 = .ok (.putfield 293, 3) := by decide +kernel
theorem dX7_readLetter_153 : decode cX7_readLetter 153 = .ok (.iconst 1, 1) := by decide +kernel
theorem dX7_readLetter_154 : decode cX7_readLetter 154 = .ok (.ireturn, 1) := by decide +kernel
theorem dX7_readBreak_0 : decode cX7_readBreak 0 = .ok (.aload_n 0, 1) := by decide +kernel
theorem dX7_readBreak_1 : decode cX7_readBreak 1 = .ok (.aload_n 0, 1) := by decide +kernel
theorem dX7_readBreak_2 : decode cX7_readBreak 2 = .ok (.getfield 82, 3) := by decide +kernel
theorem dX7_readBreak_5 : decode cX7_readBreak 5 = .ok (.bipush 8, 2) := by decide +kernel
theorem dX7_readBreak_7 : decode cX7_readBreak 7 = .ok (.invokevirtual 220, 3) := by decide +kernel
theorem dX7_readBreak_10 : decode cX7_readBreak 10 = .ok (.ifCond .eq 11, 3) := by decide +kernel
theorem dX7_readBreak_13 : decode cX7_readBreak 13 = .ok (.aload_n 0, 1) := by decide +kernel
theorem dX7_readBreak_14 : decode cX7_readBreak 14 = .ok (.iconst 2, 1) := by decide +kernel
theorem dX7_readBreak_15 : decode cX7_readBreak 15 = .ok (.invokevirtual 211, 3) := by decide +kernel
theorem dX7_readBreak_18 : decode cX7_readBreak 18 = .ok (.ifCond .ne 5, 3) := by decide +kernel
theorem dX7_readBreak_21 : decode cX7_readBreak 21 = .ok (.iconst 0, 1) := by decide +kernel
theorem dX7_readBreak_22 : decode cX7_readBreak 22 = .ok (.ireturn, 1) := by decide +kernel
theorem dX7_readBreak_23 : decode cX7_readBreak 23 = .ok (.aload_n 0, 1) := by decide +kernel
theorem dX7_readBreak_24 : decode cX7_readBreak 24 = .ok (.getfield 154, 3) := by decide +kernel
theorem dX7_readBreak_27 : decode cX7_readBreak 27 = .ok (.istore_n 1, 1) := by decide +kernel
theorem dX7_readBreak_28 : decode cX7_readBreak 28 = .ok (.aload_n 0, 1) := by decide +kernel
theorem dX7_readBreak_29 : decode cX7_readBreak 29 = .ok (.ldc 233, 2) := by decide +kernel
theorem dX7_readBreak_31 : decode cX7_readBreak 31 = .ok (.iconst 1, 1) := by decide +kernel
theorem dX7_readBreak_32 : decode cX7_readBreak 32 = .ok (.aload_n 0, 1) := by decide +kernel
theorem dX7_readBreak_33 : decode cX7_readBreak 33 = .ok (.getfield 73, 3) := by decide +kernel
theorem dX7_readBreak_36 : decode cX7_readBreak 36 = .ok (.getfield 106, 3) := by decide +kernel
theorem dX7_readBreak_39 : decode cX7_readBreak 39 = .ok (.invokevirtual 150, 3) := by decide +kernel
theorem dX7_readBreak_42 : decode cX7_readBreak 42 = .ok (.ifCond .ne 5, 3) := by decide +kernel
theorem dX7_readBreak_45 : decode cX7_readBreak 45 = .ok (.iconst 0, 1) := by decide +kernel
theorem dX7_readBreak_46 : decode cX7_readBreak 46 = .ok (.ireturn, 1) := by decide +kernel
theorem dX7_readBreak_47 : decode cX7_readBreak 47 = .ok (.aload_n 0, 1) := by decide +kernel
theorem dX7_readBreak_48 : decode cX7_readBreak 48 = .ok (.getfield 73, 3) := by decide +kernel
theorem dX7_readBreak_51 : decode cX7_readBreak 51 = .ok (.getfield 250, 3) := by decide +kernel
theorem dX7_readBreak_54 : decode cX7_readBreak 54 = .ok (.iload_n 1, 1) := by decide +kernel
theorem dX7_readBreak_55 : decode cX7_readBreak 55 = .ok (.aload_n 0, 1) := by decide +kernel
theorem dX7_readBreak_56 : decode cX7_readBreak 56 = .ok (.getfield 154, 3) := by decide +kernel
theorem dX7_readBreak_59 : decode cX7_readBreak 59 = .ok (.invokevirtual 305, 3) := by decide +kernel
theorem dX7_readBreak_62 : decode cX7_readBreak 62 = .ok (.ifCond .eq 9, 3) := by decide +kernel
theorem dX7_readBreak_65 : decode cX7_readBreak 65 = .ok (.aload_n 0, 1) := by decide +kernel
theorem dX7_readBreak_66 : decode cX7_readBreak 66 = .ok (.iconst 3, 1) := by decide +kernel
theorem dX7_readBreak_67 : decode cX7_readBreak 67 = .ok (.invokevirtual 146, 3) := by decide +kernel
theorem dX7_readBreak_70 : decode cX7_readBreak 70 = .ok (.ireturn, 1) := by decide +kernel
theorem dX7_readBreak_71 : decode cX7_readBreak 71 = .ok (.aload_n 0, 1) := by decide +kernel
theorem dX7_readBreak_72 : decode cX7_readBreak 72 = .ok (.getfield 73, 3) := by decide +kernel
theorem dX7_readBreak_75 : decode cX7_readBreak 75 = .ok (.getfield 250, 3) := by decide +kernel
theorem dX7_readBreak_78 : decode cX7_readBreak 78 = .ok (.iload_n 1, 1) := by decide +kernel
theorem dX7_readBreak_79 : decode cX7_readBreak 79 = .ok (.aload_n 0, 1) := by decide +kernel
theorem dX7_readBreak_80 : decode cX7_readBreak 80 = .ok (.getfield 154, 3) := by decide +kernel
theorem dX7_readBreak_83 : decode cX7_readBreak 83 = .ok (.invokevirtual 308, 3) := by decide +kernel
theorem dX7_readBreak_86 : decode cX7_readBreak 86 = .ok (.aload_n 0, 1) := by decide +kernel
theorem dX7_readBreak_87 : decode cX7_readBreak 87 = .ok (.dup, 1) := by decide +kernel
theorem dX7_readBreak_88 : decode cX7_readBreak 88 = .ok (.getfield 82, 3) := by decide +kernel
theorem dX7_readBreak_91 : decode cX7_readBreak 91 = .ok (.iconst 1, 1) := by decide +kernel
theorem dX7_readBreak_92 : decode cX7_readBreak 92 = .ok (.iadd, 1) := by decide +kernel
theorem dX7_readBreak_93 : decode cX7_readBreak 93 = .ok (.putfield 82, 3) := by decide +kernel
theorem dX7_readBreak_96 : decode cX7_readBreak 96 = .ok (.iconst 1, 1) := by decide +kernel
theorem dX7_readBreak_97 : decode cX7_readBreak 97 = .ok (.ireturn, 1) := by decide +kernel
theorem pr_facts {F : bkF} {a b c d e g : Nat} : prF F a b c d e g 4 = F 4 + 1 ∧ (∀ x, x ≠ 4 → x ≠ 56 + 6 * F 4 → x ≠ 57 + 6 * F 4 → x ≠ 58 + 6 * F 4 → x ≠ 59 + 6 * F 4 → x ≠ 60 + 6 * F 4 → x ≠ 61 + 6 * F 4 → prF F a b c d e g x = F x) ∧ prF F a b c d e g (56 + 6 * F 4) = a ∧ prF F a b c d e g (57 + 6 * F 4) = b ∧ prF F a b c d e g (58 + 6 * F 4) = c ∧ prF F a b c d e g (59 + 6 * F 4) = d ∧ prF F a b c d e g (60 + 6 * F 4) = e ∧ prF F a b c d e g (61 + 6 * F 4) = g := by
  unfold prF
  refine ⟨setF_s _ _ _, fun x q p0 p1 p2 p3 p4 p5 => by rw [setF_n q, setF_n p5, setF_n p4, setF_n p3, setF_n p2, setF_n p1, setF_n p0], ?_, ?_, ?_, ?_, ?_, ?_⟩
  · rw [setF_n (by omega), setF_n (by omega), setF_n (by omega), setF_n (by omega), setF_n (by omega), setF_n (by omega)]; exact setF_s _ _ _
  · rw [setF_n (by omega), setF_n (by omega), setF_n (by omega), setF_n (by omega), setF_n (by omega)]; exact setF_s _ _ _
  · rw [setF_n (by omega), setF_n (by omega), setF_n (by omega), setF_n (by omega)]; exact setF_s _ _ _
  · rw [setF_n (by omega), setF_n (by omega), setF_n (by omega)]; exact setF_s _ _ _
  · rw [setF_n (by omega), setF_n (by omega)]; exact setF_s _ _ _
  · rw [setF_n (by omega)]; exact setF_s _ _ _
theorem sg_facts {F : bkF} {a b c d e : Nat} : sgF F a b c d e 5 = F 5 + 1 ∧ (∀ x, x ≠ 5 → x ≠ 128 + 5 * F 5 → x ≠ 129 + 5 * F 5 → x ≠ 130 + 5 * F 5 → x ≠ 131 + 5 * F 5 → x ≠ 132 + 5 * F 5 → sgF F a b c d e x = F x) ∧ sgF F a b c d e (128 + 5 * F 5) = a ∧ sgF F a b c d e (129 + 5 * F 5) = b ∧ sgF F a b c d e (130 + 5 * F 5) = c ∧ sgF F a b c d e (131 + 5 * F 5) = d ∧ sgF F a b c d e (132 + 5 * F 5) = e := by
  unfold sgF
  refine ⟨setF_s _ _ _, fun x q p0 p1 p2 p3 p4 => by rw [setF_n q, setF_n p4, setF_n p3, setF_n p2, setF_n p1, setF_n p0], ?_, ?_, ?_, ?_, ?_⟩
  · rw [setF_n (by omega), setF_n (by omega), setF_n (by omega), setF_n (by omega), setF_n (by omega)]; exact setF_s _ _ _
  · rw [setF_n (by omega), setF_n (by omega), setF_n (by omega), setF_n (by omega)]; exact setF_s _ _ _
  · rw [setF_n (by omega), setF_n (by omega), setF_n (by omega)]; exact setF_s _ _ _
  · rw [setF_n (by omega), setF_n (by omega)]; exact setF_s _ _ _
  · rw [setF_n (by omega)]; exact setF_s _ _ _
theorem lt_facts {F : bkF} {a b c : Nat} : ltF F a b c 6 = F 6 + 1 ∧ (∀ x, x ≠ 6 → x ≠ 168 + 3 * F 6 → x ≠ 169 + 3 * F 6 → x ≠ 170 + 3 * F 6 → ltF F a b c x = F x) ∧ ltF F a b c (168 + 3 * F 6) = a ∧ ltF F a b c (169 + 3 * F 6) = b ∧ ltF F a b c (170 + 3 * F 6) = c := by
  unfold ltF
  refine ⟨setF_s _ _ _, fun x q p0 p1 p2 => by rw [setF_n q, setF_n p2, setF_n p1, setF_n p0], ?_, ?_, ?_⟩
  · rw [setF_n (by omega), setF_n (by omega), setF_n (by omega)]; exact setF_s _ _ _
  · rw [setF_n (by omega), setF_n (by omega)]; exact setF_s _ _ _
  · rw [setF_n (by omega)]; exact setF_s _ _ _
section
variable {b : Nat} {ad : Nat → Nat} {I J : HI} {L M : HL} {R : HR} {Q : QT} {tp : Nat → Nat} {sz k e bf B : Nat} {s : PS} {F : bkF} {cnt : Nat} {sl : Nat → Nat}
theorem qWhole_l {w : List Nat} {lo hi : Nat} {x : Nat × Nat} (h : qWhole tp sz w lo hi s = .inl x) : qWord tp sz w s = .inl x ∨ (qWord tp sz w s = .inr (nx tp sz s) ∧ qNum tp sz lo hi (nx tp sz s) = .inl x) := by
  unfold qWhole at h
  cases q : qWord tp sz w s with
  | inl y => rw [bnd_l q] at h; cases h; exact Or.inl rfl
  | inr u =>
    obtain ⟨rfl, -⟩ := qWord_i q
    rw [bnd_r q] at h
    exact Or.inr ⟨rfl, h⟩
theorem qWhole_r {w : List Nat} {lo hi : Nat} {v : Nat × PS} (h : qWhole tp sz w lo hi s = .inr v) : qWord tp sz w s = .inr (nx tp sz s) ∧ qNum tp sz lo hi (nx tp sz s) = .inr v := by
  obtain ⟨u, h1, h2⟩ := bnd_i h
  obtain ⟨rfl, -⟩ := qWord_i h1
  exact ⟨h1, h2⟩
theorem bk_brk {v : Nat} (h : BkI I B F) : BkI I B (setF F 7 v) := by
  have g : ∀ x, x ≠ 7 → setF F 7 v x = F x := fun x hx => setF_n hx
  obtain ⟨b0, b1, b2, b3, b4, b5⟩ := h
  refine ⟨fun j hj => ?_, fun m q j hj => ?_, fun m q j hj => ?_, fun m q j hj => ?_, fun m q j hj => ?_, fun m q => ?_⟩
  · rw [g j (by omega)]; exact b0 j hj
  · rw [g 2 (by decide)] at q; rw [g _ (by omega)]; exact b1 m q j hj
  · rw [g 3 (by decide)] at q; rw [g _ (by omega)]; exact b2 m q j hj
  · rw [g 4 (by decide)] at q; rw [g _ (by omega)]; exact b3 m q j hj
  · rw [g 5 (by decide)] at q; rw [g _ (by omega)]; exact b4 m q j hj
  · rw [g 6 (by decide)] at q; rw [g (168 + 3 * m) (by omega), g (169 + 3 * m) (by omega), g (170 + 3 * m) (by omega)]; exact b5 m q
theorem c_X7_readPromise (h : RdC I L R B tp sz s bf) (hQ : LQ I L R B tp sz (if s.2.1 0 = 0 then .inl (6, bf) else if s.2.1 4 < 12 then lPromise tp sz s else .inl (5, bf)) Q) : KK 7 mX7_readPromise b ad [.ref (b + 88)] I L R Q := by
  obtain ⟨hM, hPI, cnt, sl, hN, hC⟩ := h
  have hR := hM.1
  have hb2 := hM.2.1
  have hB := hM.2.2.1
  have hT := hM.2.2.2.1
  have hF := hM.2.2.2.2.1
  have hby := hT.by
  have hO := hPI.2.1
  have hK := hPI.2.2.2.2.2.2.1
  have h7 := hPI.2.2.1
  have o0 := hO.1
  have o1 := hO.2.1
  have o2 := hO.2.2.1
  have o3 := hO.2.2.2.1
  have o4 := hO.2.2.2.2.1
  have o5 := hO.2.2.2.2.2.1
  have o6 := hO.2.2.2.2.2.2.1
  have hbb := shB hB
  have hfr : FrB B I I L L := FrB.refl
  refine K.of (M := mX7_readPromise) (lv := [some (.ref (b + 88)), none]) (by decide) (Nat.le_of_ble_eq_true rfl) rfl ?_
  refine v_aload_0 dX7_readPromise_0 ?_
  refine v_aload_0 dX7_readPromise_1 ?_
  refine u_getR dX7_readPromise_2 gf_X7_73 (by first | assumption | rfl | exact led_1 (by assumption) | exact led_2 (by assumption) | exact bk_m (by assumption) (by first | assumption | omega) | exact bk_p (by assumption) (by first | assumption | omega) | exact bk_o (by assumption) (by first | assumption | omega) | exact bk_s (by assumption) (by first | assumption | omega) | exact bk_1 (by assumption) | exact bk_2 (by assumption) | exact bk_3 (by assumption) | exact bk_4 (by assumption) | exact bk_5 (by assumption) | exact bk_6 (by assumption) | exact bk_7 (by assumption) | exact bk_8 (by assumption) | exact sh_ring _ (by first | assumption | omega) | exact sh_imgs _ (by first | assumption | omega)) (by assumption) ?_
  refine u_getI dX7_readPromise_5 gf_X7_217 (by first | assumption | rfl | exact led_1 (by assumption) | exact led_2 (by assumption) | exact bk_m (by assumption) (by first | assumption | omega) | exact bk_p (by assumption) (by first | assumption | omega) | exact bk_o (by assumption) (by first | assumption | omega) | exact bk_s (by assumption) (by first | assumption | omega) | exact bk_1 (by assumption) | exact bk_2 (by assumption) | exact bk_3 (by assumption) | exact bk_4 (by assumption) | exact bk_5 (by assumption) | exact bk_6 (by assumption) | exact bk_7 (by assumption) | exact bk_8 (by assumption) | exact sh_ring _ (by first | assumption | omega) | exact sh_imgs _ (by first | assumption | omega)) ?_
  (try rw [bx4 hF])
  refine v_bipush (v := nI 12) dX7_readPromise_8 (by decide) ?_
  refine u_callV_2 dX7_readPromise_10 ml_X7_220 mv_X7_needRoom (by first | assumption | rfl | exact led_1 (by assumption) | exact led_2 (by assumption) | exact bk_m (by assumption) (by first | assumption | omega) | exact bk_p (by assumption) (by first | assumption | omega) | exact bk_o (by assumption) (by first | assumption | omega) | exact bk_s (by assumption) (by first | assumption | omega) | exact bk_1 (by assumption) | exact bk_2 (by assumption) | exact bk_3 (by assumption) | exact bk_4 (by assumption) | exact bk_5 (by assumption) | exact bk_6 (by assumption) | exact bk_7 (by assumption) | exact bk_8 (by assumption) | exact sh_ring _ (by first | assumption | omega) | exact sh_imgs _ (by first | assumption | omega)) (by decide) rfl (by decide) (Nat.le_of_ble_eq_true rfl) (c_X7_needRoom (n := s.2.1 4) (most := 12) (d := s.2.1 0) hR hb2 hB (bx0 hF) (by omega) (by omega) (by omega) hT (fun q0 J p1 p2 p3 => ?_) (fun q0 q9 J p1 p2 p3 => ?_) (fun q0 q9 => ?_))
  · refine v_if_eq (tgt := 24) dX7_readPromise_13 (by decide) (fun hc13 => ?_) (fun hc13 => ?_)
    · (first | rw [bI_0, Bool.not_eq_false] at hc13 | rw [bI_0] at hc13 | rw [show (0 : Int32) = nI 0 from rfl, nI_eq (by omega) (by omega)] at hc13 | skip)
      refine v_iconst (v := nI 0) dX7_readPromise_24 (by decide) ?_
      refine v_zret dX7_readPromise_25 (by first | rfl | exact bI_n _) rfl rfl rfl rfl ?_
      exact hQ.1 6 _ (if_pos q0) _ _ p1 p2 (hfr.fr9 p3)
    · exact absurd rfl hc13
  · refine v_if_eq (tgt := 24) dX7_readPromise_13 (by decide) (fun hc13 => ?_) (fun hc13 => ?_)
    · (first | rw [bI_0, Bool.not_eq_false] at hc13 | rw [bI_0] at hc13 | rw [show (0 : Int32) = nI 0 from rfl, nI_eq (by omega) (by omega)] at hc13 | skip)
      refine v_iconst (v := nI 0) dX7_readPromise_24 (by decide) ?_
      refine v_zret dX7_readPromise_25 (by first | rfl | exact bI_n _) rfl rfl rfl rfl ?_
      exact hQ.1 5 _ (by rw [if_neg q0, if_neg q9]) _ _ p1 p2 (hfr.fr9 p3)
    · exact absurd rfl hc13
  · rw [if_neg q0, if_pos q9] at hQ
    refine v_if_eq (tgt := 24) dX7_readPromise_13 (by decide) (fun hc13 => ?_) (fun hc13 => ?_)
    · exact absurd hc13 (by decide)
    · (first | rw [bI_0, Bool.not_eq_false] at hc13 | rw [bI_0] at hc13 | rw [show (0 : Int32) = nI 0 from rfl, nI_eq (by omega) (by omega)] at hc13 | skip)
      refine v_aload_0 dX7_readPromise_16 ?_
      refine v_iconst (v := nI 1) dX7_readPromise_17 (by decide) ?_
      refine u_callV_1 dX7_readPromise_18 ml_X7_211 mv_X7_needTold (by first | assumption | rfl | exact led_1 (by assumption) | exact led_2 (by assumption) | exact bk_m (by assumption) (by first | assumption | omega) | exact bk_p (by assumption) (by first | assumption | omega) | exact bk_o (by assumption) (by first | assumption | omega) | exact bk_s (by assumption) (by first | assumption | omega) | exact bk_1 (by assumption) | exact bk_2 (by assumption) | exact bk_3 (by assumption) | exact bk_4 (by assumption) | exact bk_5 (by assumption) | exact bk_6 (by assumption) | exact bk_7 (by assumption) | exact bk_8 (by assumption) | exact sh_ring _ (by first | assumption | omega) | exact sh_imgs _ (by first | assumption | omega)) (by decide) rfl (by decide) (Nat.le_of_ble_eq_true rfl) (c_X7_needTold (t := 1) (s := s) (by decide) hR hN hC hK hT (fun f p q J M p1 p2 p3 => ?_) (fun v1 u1 q1 e1 l1 J1 M1 r1 n1 f1 => ?_))
      · refine v_if_ne (tgt := 26) dX7_readPromise_21 (by decide) (fun hc21 => ?_) (fun hc21 => ?_)
        · exact absurd rfl hc21
        · (first | rw [bI_0, Bool.not_eq_false] at hc21 | rw [bI_0] at hc21 | rw [show (0 : Int32) = nI 0 from rfl, nI_eq (by omega) (by omega)] at hc21 | skip)
          refine v_iconst (v := nI 0) dX7_readPromise_24 (by decide) ?_
          refine v_zret dX7_readPromise_25 (by first | rfl | exact bI_n _) rfl rfl rfl rfl ?_
          exact hQ.1 f p (by rw [lPromise, bnd_l q]) _ _ p1 p2 (hfr.fr9 p3)
      · subst e1
        have hM := hM.fr9 hO f1 r1
        have hN := hN.fr9 f1
        have hfr := hfr.fr9 f1
        have hT := hM.2.2.2.1
        have hF := hM.2.2.2.2.1
        have hc : J1 (B + 23 + s.2.1 4) = J1 (B + 23 + s.2.1 4) := rfl
        have t1 : v1 < s.2.1 2 := told_lt hPI (by decide) q1
        refine v_if_ne (tgt := 26) dX7_readPromise_21 (by decide) (fun hc21 => ?_) (fun hc21 => ?_)
        · (first | rw [bI_0, Bool.not_eq_false] at hc21 | rw [bI_0] at hc21 | rw [show (0 : Int32) = nI 0 from rfl, nI_eq (by omega) (by omega)] at hc21 | skip)
          refine v_aload_0 dX7_readPromise_26 ?_
          refine u_getR dX7_readPromise_27 gf_X7_73 (by first | assumption | rfl | exact led_1 (by assumption) | exact led_2 (by assumption) | exact bk_m (by assumption) (by first | assumption | omega) | exact bk_p (by assumption) (by first | assumption | omega) | exact bk_o (by assumption) (by first | assumption | omega) | exact bk_s (by assumption) (by first | assumption | omega) | exact bk_1 (by assumption) | exact bk_2 (by assumption) | exact bk_3 (by assumption) | exact bk_4 (by assumption) | exact bk_5 (by assumption) | exact bk_6 (by assumption) | exact bk_7 (by assumption) | exact bk_8 (by assumption) | exact sh_ring _ (by first | assumption | omega) | exact sh_imgs _ (by first | assumption | omega)) (by assumption) ?_
          refine u_getR dX7_readPromise_30 gf_X7_223 (by first | assumption | rfl | exact led_1 (by assumption) | exact led_2 (by assumption) | exact bk_m (by assumption) (by first | assumption | omega) | exact bk_p (by assumption) (by first | assumption | omega) | exact bk_o (by assumption) (by first | assumption | omega) | exact bk_s (by assumption) (by first | assumption | omega) | exact bk_1 (by assumption) | exact bk_2 (by assumption) | exact bk_3 (by assumption) | exact bk_4 (by assumption) | exact bk_5 (by assumption) | exact bk_6 (by assumption) | exact bk_7 (by assumption) | exact bk_8 (by assumption) | exact sh_ring _ (by first | assumption | omega) | exact sh_imgs _ (by first | assumption | omega)) (ro_X0_9 (by assumption) (by assumption)) ?_
          refine v_aload_0 dX7_readPromise_33 ?_
          refine u_getR dX7_readPromise_34 gf_X7_73 (by first | assumption | rfl | exact led_1 (by assumption) | exact led_2 (by assumption) | exact bk_m (by assumption) (by first | assumption | omega) | exact bk_p (by assumption) (by first | assumption | omega) | exact bk_o (by assumption) (by first | assumption | omega) | exact bk_s (by assumption) (by first | assumption | omega) | exact bk_1 (by assumption) | exact bk_2 (by assumption) | exact bk_3 (by assumption) | exact bk_4 (by assumption) | exact bk_5 (by assumption) | exact bk_6 (by assumption) | exact bk_7 (by assumption) | exact bk_8 (by assumption) | exact sh_ring _ (by first | assumption | omega) | exact sh_imgs _ (by first | assumption | omega)) (by assumption) ?_
          refine u_getI dX7_readPromise_37 gf_X7_217 (by first | assumption | rfl | exact led_1 (by assumption) | exact led_2 (by assumption) | exact bk_m (by assumption) (by first | assumption | omega) | exact bk_p (by assumption) (by first | assumption | omega) | exact bk_o (by assumption) (by first | assumption | omega) | exact bk_s (by assumption) (by first | assumption | omega) | exact bk_1 (by assumption) | exact bk_2 (by assumption) | exact bk_3 (by assumption) | exact bk_4 (by assumption) | exact bk_5 (by assumption) | exact bk_6 (by assumption) | exact bk_7 (by assumption) | exact bk_8 (by assumption) | exact sh_ring _ (by first | assumption | omega) | exact sh_imgs _ (by first | assumption | omega)) ?_
          (try rw [bx4 hF])
          refine u_aald dX7_readPromise_40 (by first | assumption | rfl | exact led_1 (by assumption) | exact led_2 (by assumption) | exact bk_m (by assumption) (by first | assumption | omega) | exact bk_p (by assumption) (by first | assumption | omega) | exact bk_o (by assumption) (by first | assumption | omega) | exact bk_s (by assumption) (by first | assumption | omega) | exact bk_1 (by assumption) | exact bk_2 (by assumption) | exact bk_3 (by assumption) | exact bk_4 (by assumption) | exact bk_5 (by assumption) | exact bk_6 (by assumption) | exact bk_7 (by assumption) | exact bk_8 (by assumption) | exact sh_ring _ (by first | assumption | omega) | exact sh_imgs _ (by first | assumption | omega)) (by decide) (by decide) rfl (by first | with_reducible rfl | (simp only [nlit, nI_add, pk_mul]; with_reducible rfl) | rfl) (by first | assumption | omega) (by decide) (by first | exact ro_m (by assumption) (by assumption) (by first | assumption | omega) | exact ro_p (by assumption) (by assumption) (by first | assumption | omega) | exact ro_o (by assumption) (by assumption) (by first | assumption | omega) | exact ro_s (by assumption) (by assumption) (by first | assumption | omega) | exact ro_ring (by assumption) (by first | assumption | omega) | exact ro_imgs (by assumption) (by first | assumption | omega)) ?_
          refine v_astore_1 rfl dX7_readPromise_41 ?_
          refine v_aload_1 dX7_readPromise_42 ?_
          refine v_aload_0 dX7_readPromise_43 ?_
          refine u_getI dX7_readPromise_44 gf_X7_154 (by first | assumption | rfl | exact led_1 (by assumption) | exact led_2 (by assumption) | exact bk_m (by assumption) (by first | assumption | omega) | exact bk_p (by assumption) (by first | assumption | omega) | exact bk_o (by assumption) (by first | assumption | omega) | exact bk_s (by assumption) (by first | assumption | omega) | exact bk_1 (by assumption) | exact bk_2 (by assumption) | exact bk_3 (by assumption) | exact bk_4 (by assumption) | exact bk_5 (by assumption) | exact bk_6 (by assumption) | exact bk_7 (by assumption) | exact bk_8 (by assumption) | exact sh_ring _ (by first | assumption | omega) | exact sh_imgs _ (by first | assumption | omega)) ?_
          rw [n1]
          refine u_putI dX7_readPromise_47 gf_X7_227 (by first | assumption | rfl | exact led_1 (by assumption) | exact led_2 (by assumption) | exact bk_m (by assumption) (by first | assumption | omega) | exact bk_p (by assumption) (by first | assumption | omega) | exact bk_o (by assumption) (by first | assumption | omega) | exact bk_s (by assumption) (by first | assumption | omega) | exact bk_1 (by assumption) | exact bk_2 (by assumption) | exact bk_3 (by assumption) | exact bk_4 (by assumption) | exact bk_5 (by assumption) | exact bk_6 (by assumption) | exact bk_7 (by assumption) | exact bk_8 (by assumption) | exact sh_ring _ (by first | assumption | omega) | exact sh_imgs _ (by first | assumption | omega)) rfl rfl rfl ?_
          have hM := hM.cell hO (x := B + 23 + s.2.1 4) (j := 0) (v := nI v1) (Or.inr (Or.inr (Or.inl ⟨by omega, by omega⟩)))
          have hN := hN.up (x := B + 23 + s.2.1 4) (j := 0) (v := nI v1) (Or.inl (by omega))
          have hfr := hfr.up (x := B + 23 + s.2.1 4) (j := 0) (v := nI v1) (Or.inl ⟨by omega, by omega⟩) hB
          have hT := hM.2.2.2.1
          have hF := hM.2.2.2.2.1
          have hc := ui_row (j := 0) (v := nI v1) hc
          refine v_aload_0 dX7_readPromise_50 ?_
          refine v_iconst (v := nI 0) dX7_readPromise_51 (by decide) ?_
          refine u_callV_1 dX7_readPromise_52 ml_X7_211 mv_X7_needTold (by first | assumption | rfl | exact led_1 (by assumption) | exact led_2 (by assumption) | exact bk_m (by assumption) (by first | assumption | omega) | exact bk_p (by assumption) (by first | assumption | omega) | exact bk_o (by assumption) (by first | assumption | omega) | exact bk_s (by assumption) (by first | assumption | omega) | exact bk_1 (by assumption) | exact bk_2 (by assumption) | exact bk_3 (by assumption) | exact bk_4 (by assumption) | exact bk_5 (by assumption) | exact bk_6 (by assumption) | exact bk_7 (by assumption) | exact bk_8 (by assumption) | exact sh_ring _ (by first | assumption | omega) | exact sh_imgs _ (by first | assumption | omega)) (by decide) rfl (by decide) (Nat.le_of_ble_eq_true rfl) (c_X7_needTold (t := 0) (s := (nx tp sz s)) (by decide) hR hN hC hK hT (fun f p q J M p1 p2 p3 => ?_) (fun v2 u2 q2 e2 l2 J2 M2 r2 n2 f2 => ?_))
          · refine v_if_ne (tgt := 60) dX7_readPromise_55 (by decide) (fun hc55 => ?_) (fun hc55 => ?_)
            · exact absurd rfl hc55
            · (first | rw [bI_0, Bool.not_eq_false] at hc55 | rw [bI_0] at hc55 | rw [show (0 : Int32) = nI 0 from rfl, nI_eq (by omega) (by omega)] at hc55 | skip)
              refine v_iconst (v := nI 0) dX7_readPromise_58 (by decide) ?_
              refine v_zret dX7_readPromise_59 (by first | rfl | exact bI_n _) rfl rfl rfl rfl ?_
              exact hQ.1 f p (by rw [lPromise, bnd_r q1, bnd_l q]) _ _ p1 p2 (hfr.fr9 p3)
          · subst e2
            have hM := hM.fr9 hO f2 r2
            have hN := hN.fr9 f2
            have hfr := hfr.fr9 f2
            have hT := hM.2.2.2.1
            have hF := hM.2.2.2.2.1
            have hc := (f2.1 (B + 23 + s.2.1 4) (by omega) (by omega)).trans hc
            have t2 : v2 < s.2.1 1 := told_lt (hPI.ad (ad_nx hby hPI.1)) (by decide) q2
            refine v_if_ne (tgt := 60) dX7_readPromise_55 (by decide) (fun hc55 => ?_) (fun hc55 => ?_)
            · (first | rw [bI_0, Bool.not_eq_false] at hc55 | rw [bI_0] at hc55 | rw [show (0 : Int32) = nI 0 from rfl, nI_eq (by omega) (by omega)] at hc55 | skip)
              refine v_aload_1 dX7_readPromise_60 ?_
              refine v_aload_0 dX7_readPromise_61 ?_
              refine u_getI dX7_readPromise_62 gf_X7_154 (by first | assumption | rfl | exact led_1 (by assumption) | exact led_2 (by assumption) | exact bk_m (by assumption) (by first | assumption | omega) | exact bk_p (by assumption) (by first | assumption | omega) | exact bk_o (by assumption) (by first | assumption | omega) | exact bk_s (by assumption) (by first | assumption | omega) | exact bk_1 (by assumption) | exact bk_2 (by assumption) | exact bk_3 (by assumption) | exact bk_4 (by assumption) | exact bk_5 (by assumption) | exact bk_6 (by assumption) | exact bk_7 (by assumption) | exact bk_8 (by assumption) | exact sh_ring _ (by first | assumption | omega) | exact sh_imgs _ (by first | assumption | omega)) ?_
              rw [n2]
              refine u_putI dX7_readPromise_65 gf_X7_231 (by first | assumption | rfl | exact led_1 (by assumption) | exact led_2 (by assumption) | exact bk_m (by assumption) (by first | assumption | omega) | exact bk_p (by assumption) (by first | assumption | omega) | exact bk_o (by assumption) (by first | assumption | omega) | exact bk_s (by assumption) (by first | assumption | omega) | exact bk_1 (by assumption) | exact bk_2 (by assumption) | exact bk_3 (by assumption) | exact bk_4 (by assumption) | exact bk_5 (by assumption) | exact bk_6 (by assumption) | exact bk_7 (by assumption) | exact bk_8 (by assumption) | exact sh_ring _ (by first | assumption | omega) | exact sh_imgs _ (by first | assumption | omega)) rfl rfl rfl ?_
              have hM := hM.cell hO (x := B + 23 + s.2.1 4) (j := 1) (v := nI v2) (Or.inr (Or.inr (Or.inl ⟨by omega, by omega⟩)))
              have hN := hN.up (x := B + 23 + s.2.1 4) (j := 1) (v := nI v2) (Or.inl (by omega))
              have hfr := hfr.up (x := B + 23 + s.2.1 4) (j := 1) (v := nI v2) (Or.inl ⟨by omega, by omega⟩) hB
              have hT := hM.2.2.2.1
              have hF := hM.2.2.2.2.1
              have hc := ui_row (j := 1) (v := nI v2) hc
              refine v_aload_0 dX7_readPromise_68 ?_
              refine v_ldcS (i := 20) dX7_readPromise_69 (by decide) rfl rfl ?_
              refine v_iconst (v := nI 1) dX7_readPromise_71 (by decide) ?_
              refine v_aload_0 dX7_readPromise_72 ?_
              refine u_getR dX7_readPromise_73 gf_X7_73 (by first | assumption | rfl | exact led_1 (by assumption) | exact led_2 (by assumption) | exact bk_m (by assumption) (by first | assumption | omega) | exact bk_p (by assumption) (by first | assumption | omega) | exact bk_o (by assumption) (by first | assumption | omega) | exact bk_s (by assumption) (by first | assumption | omega) | exact bk_1 (by assumption) | exact bk_2 (by assumption) | exact bk_3 (by assumption) | exact bk_4 (by assumption) | exact bk_5 (by assumption) | exact bk_6 (by assumption) | exact bk_7 (by assumption) | exact bk_8 (by assumption) | exact sh_ring _ (by first | assumption | omega) | exact sh_imgs _ (by first | assumption | omega)) (by assumption) ?_
              refine u_getI dX7_readPromise_76 gf_X7_106 (by first | assumption | rfl | exact led_1 (by assumption) | exact led_2 (by assumption) | exact bk_m (by assumption) (by first | assumption | omega) | exact bk_p (by assumption) (by first | assumption | omega) | exact bk_o (by assumption) (by first | assumption | omega) | exact bk_s (by assumption) (by first | assumption | omega) | exact bk_1 (by assumption) | exact bk_2 (by assumption) | exact bk_3 (by assumption) | exact bk_4 (by assumption) | exact bk_5 (by assumption) | exact bk_6 (by assumption) | exact bk_7 (by assumption) | exact bk_8 (by assumption) | exact sh_ring _ (by first | assumption | omega) | exact sh_imgs _ (by first | assumption | omega)) ?_
              (try rw [bx0 hF])
              refine u_callV_3 dX7_readPromise_79 ml_X7_150 mv_X7_needWhole (by first | assumption | rfl | exact led_1 (by assumption) | exact led_2 (by assumption) | exact bk_m (by assumption) (by first | assumption | omega) | exact bk_p (by assumption) (by first | assumption | omega) | exact bk_o (by assumption) (by first | assumption | omega) | exact bk_s (by assumption) (by first | assumption | omega) | exact bk_1 (by assumption) | exact bk_2 (by assumption) | exact bk_3 (by assumption) | exact bk_4 (by assumption) | exact bk_5 (by assumption) | exact bk_6 (by assumption) | exact bk_7 (by assumption) | exact bk_8 (by assumption) | exact sh_ring _ (by first | assumption | omega) | exact sh_imgs _ (by first | assumption | omega)) (by decide) rfl (by decide) (Nat.le_of_ble_eq_true rfl) (c_X7_needWhole (i := 20) (lo := 1) (hi' := s.2.1 0) (s := (nx tp sz (nx tp sz s))) (by decide) (by omega) (by omega) hR hT (fun f p q J M p1 p2 p3 => ?_) (fun v3 u3 q3 e3 l3 h3 J3 M3 r3 n3 f3 => ?_))
              · refine v_if_ne (tgt := 87) dX7_readPromise_82 (by decide) (fun hc82 => ?_) (fun hc82 => ?_)
                · exact absurd rfl hc82
                · (first | rw [bI_0, Bool.not_eq_false] at hc82 | rw [bI_0] at hc82 | rw [show (0 : Int32) = nI 0 from rfl, nI_eq (by omega) (by omega)] at hc82 | skip)
                  refine v_iconst (v := nI 0) dX7_readPromise_85 (by decide) ?_
                  refine v_zret dX7_readPromise_86 (by first | rfl | exact bI_n _) rfl rfl rfl rfl ?_
                  exact hQ.1 f p (by rw [lPromise, bnd_r q1, bnd_r q2, bnd_l q]) _ _ p1 p2 (hfr.fr9 p3)
              · subst e3
                have hM := hM.fr9 hO f3 r3
                have hN := hN.fr9 f3
                have hfr := hfr.fr9 f3
                have hT := hM.2.2.2.1
                have hF := hM.2.2.2.2.1
                have hc := (f3.1 (B + 23 + s.2.1 4) (by omega) (by omega)).trans hc
                refine v_if_ne (tgt := 87) dX7_readPromise_82 (by decide) (fun hc82 => ?_) (fun hc82 => ?_)
                · (first | rw [bI_0, Bool.not_eq_false] at hc82 | rw [bI_0] at hc82 | rw [show (0 : Int32) = nI 0 from rfl, nI_eq (by omega) (by omega)] at hc82 | skip)
                  refine v_aload_1 dX7_readPromise_87 ?_
                  refine v_aload_0 dX7_readPromise_88 ?_
                  refine u_getI dX7_readPromise_89 gf_X7_154 (by first | assumption | rfl | exact led_1 (by assumption) | exact led_2 (by assumption) | exact bk_m (by assumption) (by first | assumption | omega) | exact bk_p (by assumption) (by first | assumption | omega) | exact bk_o (by assumption) (by first | assumption | omega) | exact bk_s (by assumption) (by first | assumption | omega) | exact bk_1 (by assumption) | exact bk_2 (by assumption) | exact bk_3 (by assumption) | exact bk_4 (by assumption) | exact bk_5 (by assumption) | exact bk_6 (by assumption) | exact bk_7 (by assumption) | exact bk_8 (by assumption) | exact sh_ring _ (by first | assumption | omega) | exact sh_imgs _ (by first | assumption | omega)) ?_
                  rw [n3]
                  refine u_putI dX7_readPromise_92 gf_X7_235 (by first | assumption | rfl | exact led_1 (by assumption) | exact led_2 (by assumption) | exact bk_m (by assumption) (by first | assumption | omega) | exact bk_p (by assumption) (by first | assumption | omega) | exact bk_o (by assumption) (by first | assumption | omega) | exact bk_s (by assumption) (by first | assumption | omega) | exact bk_1 (by assumption) | exact bk_2 (by assumption) | exact bk_3 (by assumption) | exact bk_4 (by assumption) | exact bk_5 (by assumption) | exact bk_6 (by assumption) | exact bk_7 (by assumption) | exact bk_8 (by assumption) | exact sh_ring _ (by first | assumption | omega) | exact sh_imgs _ (by first | assumption | omega)) rfl rfl rfl ?_
                  have hM := hM.cell hO (x := B + 23 + s.2.1 4) (j := 2) (v := nI v3) (Or.inr (Or.inr (Or.inl ⟨by omega, by omega⟩)))
                  have hN := hN.up (x := B + 23 + s.2.1 4) (j := 2) (v := nI v3) (Or.inl (by omega))
                  have hfr := hfr.up (x := B + 23 + s.2.1 4) (j := 2) (v := nI v3) (Or.inl ⟨by omega, by omega⟩) hB
                  have hT := hM.2.2.2.1
                  have hF := hM.2.2.2.2.1
                  have hc := ui_row (j := 2) (v := nI v3) hc
                  refine v_aload_0 dX7_readPromise_95 ?_
                  refine v_ldcS (i := 21) dX7_readPromise_96 (by decide) rfl rfl ?_
                  refine v_iconst (v := nI 0) dX7_readPromise_98 (by decide) ?_
                  refine v_bipush (v := nI 99) dX7_readPromise_99 (by decide) ?_
                  refine u_callV_3 dX7_readPromise_101 ml_X7_150 mv_X7_needWhole (by first | assumption | rfl | exact led_1 (by assumption) | exact led_2 (by assumption) | exact bk_m (by assumption) (by first | assumption | omega) | exact bk_p (by assumption) (by first | assumption | omega) | exact bk_o (by assumption) (by first | assumption | omega) | exact bk_s (by assumption) (by first | assumption | omega) | exact bk_1 (by assumption) | exact bk_2 (by assumption) | exact bk_3 (by assumption) | exact bk_4 (by assumption) | exact bk_5 (by assumption) | exact bk_6 (by assumption) | exact bk_7 (by assumption) | exact bk_8 (by assumption) | exact sh_ring _ (by first | assumption | omega) | exact sh_imgs _ (by first | assumption | omega)) (by decide) rfl (by decide) (Nat.le_of_ble_eq_true rfl) (c_X7_needWhole (i := 21) (lo := 0) (hi' := 99) (s := (nx tp sz (nx tp sz (nx tp sz (nx tp sz s))))) (by decide) (by omega) (by omega) hR hT (fun f p q J M p1 p2 p3 => ?_) (fun v4 u4 q4 e4 l4 h4 J4 M4 r4 n4 f4 => ?_))
                  · refine v_if_ne (tgt := 109) dX7_readPromise_104 (by decide) (fun hc104 => ?_) (fun hc104 => ?_)
                    · exact absurd rfl hc104
                    · (first | rw [bI_0, Bool.not_eq_false] at hc104 | rw [bI_0] at hc104 | rw [show (0 : Int32) = nI 0 from rfl, nI_eq (by omega) (by omega)] at hc104 | skip)
                      refine v_iconst (v := nI 0) dX7_readPromise_107 (by decide) ?_
                      refine v_zret dX7_readPromise_108 (by first | rfl | exact bI_n _) rfl rfl rfl rfl ?_
                      exact hQ.1 f p (by rw [lPromise, bnd_r q1, bnd_r q2, bnd_r q3, bnd_l q]) _ _ p1 p2 (hfr.fr9 p3)
                  · subst e4
                    have hM := hM.fr9 hO f4 r4
                    have hN := hN.fr9 f4
                    have hfr := hfr.fr9 f4
                    have hT := hM.2.2.2.1
                    have hF := hM.2.2.2.2.1
                    have hc := (f4.1 (B + 23 + s.2.1 4) (by omega) (by omega)).trans hc
                    refine v_if_ne (tgt := 109) dX7_readPromise_104 (by decide) (fun hc104 => ?_) (fun hc104 => ?_)
                    · (first | rw [bI_0, Bool.not_eq_false] at hc104 | rw [bI_0] at hc104 | rw [show (0 : Int32) = nI 0 from rfl, nI_eq (by omega) (by omega)] at hc104 | skip)
                      refine v_aload_1 dX7_readPromise_109 ?_
                      refine v_aload_0 dX7_readPromise_110 ?_
                      refine u_getI dX7_readPromise_111 gf_X7_154 (by first | assumption | rfl | exact led_1 (by assumption) | exact led_2 (by assumption) | exact bk_m (by assumption) (by first | assumption | omega) | exact bk_p (by assumption) (by first | assumption | omega) | exact bk_o (by assumption) (by first | assumption | omega) | exact bk_s (by assumption) (by first | assumption | omega) | exact bk_1 (by assumption) | exact bk_2 (by assumption) | exact bk_3 (by assumption) | exact bk_4 (by assumption) | exact bk_5 (by assumption) | exact bk_6 (by assumption) | exact bk_7 (by assumption) | exact bk_8 (by assumption) | exact sh_ring _ (by first | assumption | omega) | exact sh_imgs _ (by first | assumption | omega)) ?_
                      rw [n4]
                      refine u_putI dX7_readPromise_114 gf_X7_240 (by first | assumption | rfl | exact led_1 (by assumption) | exact led_2 (by assumption) | exact bk_m (by assumption) (by first | assumption | omega) | exact bk_p (by assumption) (by first | assumption | omega) | exact bk_o (by assumption) (by first | assumption | omega) | exact bk_s (by assumption) (by first | assumption | omega) | exact bk_1 (by assumption) | exact bk_2 (by assumption) | exact bk_3 (by assumption) | exact bk_4 (by assumption) | exact bk_5 (by assumption) | exact bk_6 (by assumption) | exact bk_7 (by assumption) | exact bk_8 (by assumption) | exact sh_ring _ (by first | assumption | omega) | exact sh_imgs _ (by first | assumption | omega)) rfl rfl rfl ?_
                      have hM := hM.cell hO (x := B + 23 + s.2.1 4) (j := 3) (v := nI v4) (Or.inr (Or.inr (Or.inl ⟨by omega, by omega⟩)))
                      have hN := hN.up (x := B + 23 + s.2.1 4) (j := 3) (v := nI v4) (Or.inl (by omega))
                      have hfr := hfr.up (x := B + 23 + s.2.1 4) (j := 3) (v := nI v4) (Or.inl ⟨by omega, by omega⟩) hB
                      have hT := hM.2.2.2.1
                      have hF := hM.2.2.2.2.1
                      have hc := ui_row (j := 3) (v := nI v4) hc
                      refine v_aload_0 dX7_readPromise_117 ?_
                      refine v_ldcS (i := 22) dX7_readPromise_118 (by decide) rfl rfl ?_
                      refine v_iconst (v := nI 0) dX7_readPromise_120 (by decide) ?_
                      refine v_bipush (v := nI 99) dX7_readPromise_121 (by decide) ?_
                      refine u_callV_3 dX7_readPromise_123 ml_X7_150 mv_X7_needWhole (by first | assumption | rfl | exact led_1 (by assumption) | exact led_2 (by assumption) | exact bk_m (by assumption) (by first | assumption | omega) | exact bk_p (by assumption) (by first | assumption | omega) | exact bk_o (by assumption) (by first | assumption | omega) | exact bk_s (by assumption) (by first | assumption | omega) | exact bk_1 (by assumption) | exact bk_2 (by assumption) | exact bk_3 (by assumption) | exact bk_4 (by assumption) | exact bk_5 (by assumption) | exact bk_6 (by assumption) | exact bk_7 (by assumption) | exact bk_8 (by assumption) | exact sh_ring _ (by first | assumption | omega) | exact sh_imgs _ (by first | assumption | omega)) (by decide) rfl (by decide) (Nat.le_of_ble_eq_true rfl) (c_X7_needWhole (i := 22) (lo := 0) (hi' := 99) (s := (nx tp sz (nx tp sz (nx tp sz (nx tp sz (nx tp sz (nx tp sz s))))))) (by decide) (by omega) (by omega) hR hT (fun f p q J M p1 p2 p3 => ?_) (fun v5 u5 q5 e5 l5 h5 J5 M5 r5 n5 f5 => ?_))
                      · refine v_if_ne (tgt := 131) dX7_readPromise_126 (by decide) (fun hc126 => ?_) (fun hc126 => ?_)
                        · exact absurd rfl hc126
                        · (first | rw [bI_0, Bool.not_eq_false] at hc126 | rw [bI_0] at hc126 | rw [show (0 : Int32) = nI 0 from rfl, nI_eq (by omega) (by omega)] at hc126 | skip)
                          refine v_iconst (v := nI 0) dX7_readPromise_129 (by decide) ?_
                          refine v_zret dX7_readPromise_130 (by first | rfl | exact bI_n _) rfl rfl rfl rfl ?_
                          exact hQ.1 f p (by rw [lPromise, bnd_r q1, bnd_r q2, bnd_r q3, bnd_r q4, bnd_l q]) _ _ p1 p2 (hfr.fr9 p3)
                      · subst e5
                        have hM := hM.fr9 hO f5 r5
                        have hN := hN.fr9 f5
                        have hfr := hfr.fr9 f5
                        have hT := hM.2.2.2.1
                        have hF := hM.2.2.2.2.1
                        have hc := (f5.1 (B + 23 + s.2.1 4) (by omega) (by omega)).trans hc
                        refine v_if_ne (tgt := 131) dX7_readPromise_126 (by decide) (fun hc126 => ?_) (fun hc126 => ?_)
                        · (first | rw [bI_0, Bool.not_eq_false] at hc126 | rw [bI_0] at hc126 | rw [show (0 : Int32) = nI 0 from rfl, nI_eq (by omega) (by omega)] at hc126 | skip)
                          refine v_aload_1 dX7_readPromise_131 ?_
                          refine v_aload_0 dX7_readPromise_132 ?_
                          refine u_getI dX7_readPromise_133 gf_X7_154 (by first | assumption | rfl | exact led_1 (by assumption) | exact led_2 (by assumption) | exact bk_m (by assumption) (by first | assumption | omega) | exact bk_p (by assumption) (by first | assumption | omega) | exact bk_o (by assumption) (by first | assumption | omega) | exact bk_s (by assumption) (by first | assumption | omega) | exact bk_1 (by assumption) | exact bk_2 (by assumption) | exact bk_3 (by assumption) | exact bk_4 (by assumption) | exact bk_5 (by assumption) | exact bk_6 (by assumption) | exact bk_7 (by assumption) | exact bk_8 (by assumption) | exact sh_ring _ (by first | assumption | omega) | exact sh_imgs _ (by first | assumption | omega)) ?_
                          rw [n5]
                          refine u_putI dX7_readPromise_136 gf_X7_244 (by first | assumption | rfl | exact led_1 (by assumption) | exact led_2 (by assumption) | exact bk_m (by assumption) (by first | assumption | omega) | exact bk_p (by assumption) (by first | assumption | omega) | exact bk_o (by assumption) (by first | assumption | omega) | exact bk_s (by assumption) (by first | assumption | omega) | exact bk_1 (by assumption) | exact bk_2 (by assumption) | exact bk_3 (by assumption) | exact bk_4 (by assumption) | exact bk_5 (by assumption) | exact bk_6 (by assumption) | exact bk_7 (by assumption) | exact bk_8 (by assumption) | exact sh_ring _ (by first | assumption | omega) | exact sh_imgs _ (by first | assumption | omega)) rfl rfl rfl ?_
                          have hM := hM.cell hO (x := B + 23 + s.2.1 4) (j := 4) (v := nI v5) (Or.inr (Or.inr (Or.inl ⟨by omega, by omega⟩)))
                          have hN := hN.up (x := B + 23 + s.2.1 4) (j := 4) (v := nI v5) (Or.inl (by omega))
                          have hfr := hfr.up (x := B + 23 + s.2.1 4) (j := 4) (v := nI v5) (Or.inl ⟨by omega, by omega⟩) hB
                          have hT := hM.2.2.2.1
                          have hF := hM.2.2.2.2.1
                          have hc := ui_row (j := 4) (v := nI v5) hc
                          refine v_aload_0 dX7_readPromise_139 ?_
                          refine v_ldcS (i := 23) dX7_readPromise_140 (by decide) rfl rfl ?_
                          refine v_iconst (v := nI 0) dX7_readPromise_142 (by decide) ?_
                          refine v_bipush (v := nI 99) dX7_readPromise_143 (by decide) ?_
                          refine u_callV_3 dX7_readPromise_145 ml_X7_150 mv_X7_needWhole (by first | assumption | rfl | exact led_1 (by assumption) | exact led_2 (by assumption) | exact bk_m (by assumption) (by first | assumption | omega) | exact bk_p (by assumption) (by first | assumption | omega) | exact bk_o (by assumption) (by first | assumption | omega) | exact bk_s (by assumption) (by first | assumption | omega) | exact bk_1 (by assumption) | exact bk_2 (by assumption) | exact bk_3 (by assumption) | exact bk_4 (by assumption) | exact bk_5 (by assumption) | exact bk_6 (by assumption) | exact bk_7 (by assumption) | exact bk_8 (by assumption) | exact sh_ring _ (by first | assumption | omega) | exact sh_imgs _ (by first | assumption | omega)) (by decide) rfl (by decide) (Nat.le_of_ble_eq_true rfl) (c_X7_needWhole (i := 23) (lo := 0) (hi' := 99) (s := (nx tp sz (nx tp sz (nx tp sz (nx tp sz (nx tp sz (nx tp sz (nx tp sz (nx tp sz s))))))))) (by decide) (by omega) (by omega) hR hT (fun f p q J M p1 p2 p3 => ?_) (fun v6 u6 q6 e6 l6 h6 J6 M6 r6 n6 f6 => ?_))
                          · refine v_if_ne (tgt := 153) dX7_readPromise_148 (by decide) (fun hc148 => ?_) (fun hc148 => ?_)
                            · exact absurd rfl hc148
                            · (first | rw [bI_0, Bool.not_eq_false] at hc148 | rw [bI_0] at hc148 | rw [show (0 : Int32) = nI 0 from rfl, nI_eq (by omega) (by omega)] at hc148 | skip)
                              refine v_iconst (v := nI 0) dX7_readPromise_151 (by decide) ?_
                              refine v_zret dX7_readPromise_152 (by first | rfl | exact bI_n _) rfl rfl rfl rfl ?_
                              exact hQ.1 f p (by rw [lPromise, bnd_r q1, bnd_r q2, bnd_r q3, bnd_r q4, bnd_r q5, bnd_l q]) _ _ p1 p2 (hfr.fr9 p3)
                          · subst e6
                            have hM := hM.fr9 hO f6 r6
                            have hN := hN.fr9 f6
                            have hfr := hfr.fr9 f6
                            have hT := hM.2.2.2.1
                            have hF := hM.2.2.2.2.1
                            have hc := (f6.1 (B + 23 + s.2.1 4) (by omega) (by omega)).trans hc
                            refine v_if_ne (tgt := 153) dX7_readPromise_148 (by decide) (fun hc148 => ?_) (fun hc148 => ?_)
                            · (first | rw [bI_0, Bool.not_eq_false] at hc148 | rw [bI_0] at hc148 | rw [show (0 : Int32) = nI 0 from rfl, nI_eq (by omega) (by omega)] at hc148 | skip)
                              refine v_aload_1 dX7_readPromise_153 ?_
                              refine v_aload_0 dX7_readPromise_154 ?_
                              refine u_getI dX7_readPromise_155 gf_X7_154 (by first | assumption | rfl | exact led_1 (by assumption) | exact led_2 (by assumption) | exact bk_m (by assumption) (by first | assumption | omega) | exact bk_p (by assumption) (by first | assumption | omega) | exact bk_o (by assumption) (by first | assumption | omega) | exact bk_s (by assumption) (by first | assumption | omega) | exact bk_1 (by assumption) | exact bk_2 (by assumption) | exact bk_3 (by assumption) | exact bk_4 (by assumption) | exact bk_5 (by assumption) | exact bk_6 (by assumption) | exact bk_7 (by assumption) | exact bk_8 (by assumption) | exact sh_ring _ (by first | assumption | omega) | exact sh_imgs _ (by first | assumption | omega)) ?_
                              rw [n6]
                              refine u_putI dX7_readPromise_158 gf_X7_248 (by first | assumption | rfl | exact led_1 (by assumption) | exact led_2 (by assumption) | exact bk_m (by assumption) (by first | assumption | omega) | exact bk_p (by assumption) (by first | assumption | omega) | exact bk_o (by assumption) (by first | assumption | omega) | exact bk_s (by assumption) (by first | assumption | omega) | exact bk_1 (by assumption) | exact bk_2 (by assumption) | exact bk_3 (by assumption) | exact bk_4 (by assumption) | exact bk_5 (by assumption) | exact bk_6 (by assumption) | exact bk_7 (by assumption) | exact bk_8 (by assumption) | exact sh_ring _ (by first | assumption | omega) | exact sh_imgs _ (by first | assumption | omega)) rfl rfl rfl ?_
                              have hM := hM.cell hO (x := B + 23 + s.2.1 4) (j := 5) (v := nI v6) (Or.inr (Or.inr (Or.inl ⟨by omega, by omega⟩)))
                              have hN := hN.up (x := B + 23 + s.2.1 4) (j := 5) (v := nI v6) (Or.inl (by omega))
                              have hfr := hfr.up (x := B + 23 + s.2.1 4) (j := 5) (v := nI v6) (Or.inl ⟨by omega, by omega⟩) hB
                              have hT := hM.2.2.2.1
                              have hF := hM.2.2.2.2.1
                              have hc := ui_row (j := 5) (v := nI v6) hc
                              refine v_aload_0 dX7_readPromise_161 ?_
                              refine u_getR dX7_readPromise_162 gf_X7_73 (by first | assumption | rfl | exact led_1 (by assumption) | exact led_2 (by assumption) | exact bk_m (by assumption) (by first | assumption | omega) | exact bk_p (by assumption) (by first | assumption | omega) | exact bk_o (by assumption) (by first | assumption | omega) | exact bk_s (by assumption) (by first | assumption | omega) | exact bk_1 (by assumption) | exact bk_2 (by assumption) | exact bk_3 (by assumption) | exact bk_4 (by assumption) | exact bk_5 (by assumption) | exact bk_6 (by assumption) | exact bk_7 (by assumption) | exact bk_8 (by assumption) | exact sh_ring _ (by first | assumption | omega) | exact sh_imgs _ (by first | assumption | omega)) (by assumption) ?_
                              refine v_dup dX7_readPromise_165 rfl ?_
                              refine u_getI dX7_readPromise_166 gf_X7_217 (by first | assumption | rfl | exact led_1 (by assumption) | exact led_2 (by assumption) | exact bk_m (by assumption) (by first | assumption | omega) | exact bk_p (by assumption) (by first | assumption | omega) | exact bk_o (by assumption) (by first | assumption | omega) | exact bk_s (by assumption) (by first | assumption | omega) | exact bk_1 (by assumption) | exact bk_2 (by assumption) | exact bk_3 (by assumption) | exact bk_4 (by assumption) | exact bk_5 (by assumption) | exact bk_6 (by assumption) | exact bk_7 (by assumption) | exact bk_8 (by assumption) | exact sh_ring _ (by first | assumption | omega) | exact sh_imgs _ (by first | assumption | omega)) ?_
                              (try rw [bx4 hF])
                              refine v_iconst (v := nI 1) dX7_readPromise_169 (by decide) ?_
                              refine v_iadd dX7_readPromise_170 ?_
                              rw [nI_add]
                              refine u_putI dX7_readPromise_171 gf_X7_217 (by first | assumption | rfl | exact led_1 (by assumption) | exact led_2 (by assumption) | exact bk_m (by assumption) (by first | assumption | omega) | exact bk_p (by assumption) (by first | assumption | omega) | exact bk_o (by assumption) (by first | assumption | omega) | exact bk_s (by assumption) (by first | assumption | omega) | exact bk_1 (by assumption) | exact bk_2 (by assumption) | exact bk_3 (by assumption) | exact bk_4 (by assumption) | exact bk_5 (by assumption) | exact bk_6 (by assumption) | exact bk_7 (by assumption) | exact bk_8 (by assumption) | exact sh_ring _ (by first | assumption | omega) | exact sh_imgs _ (by first | assumption | omega)) rfl rfl rfl ?_
                              refine v_iconst (v := nI 1) dX7_readPromise_174 (by decide) ?_
                              refine v_zret dX7_readPromise_175 (by first | rfl | exact bI_n _) rfl rfl rfl rfl ?_
                              have hl : lPromise tp sz s = .inr (setS (nx tp sz (nx tp sz (nx tp sz (nx tp sz (nx tp sz (nx tp sz (nx tp sz (nx tp sz (nx tp sz (nx tp sz s)))))))))) (prF s.2.1 v1 v2 v3 v4 v5 v6)) := by
                                rw [lPromise, bnd_r q1, bnd_r q2, bnd_r q3, bnd_r q4, bnd_r q5, bnd_r q6]
                                first | done | rfl
                              have hI := inv_promise hby hPI q0 q9 hl
                              obtain ⟨gc, ge, k0, k1, k2, k3, k4, k5⟩ := pr_facts (F := s.2.1) (a := v1) (b := v2) (c := v3) (d := v4) (e := v5) (g := v6)
                              generalize prF s.2.1 v1 v2 v3 v4 v5 v6 = G at hl hI gc ge k0 k1 k2 k3 k4 k5
                              have g1 := ge 1 (by omega) (by omega) (by omega) (by omega) (by omega) (by omega) (by omega)
                              have g2 := ge 2 (by omega) (by omega) (by omega) (by omega) (by omega) (by omega) (by omega)
                              have g3 := ge 3 (by omega) (by omega) (by omega) (by omega) (by omega) (by omega) (by omega)
                              have g7 := ge 7 (by omega) (by omega) (by omega) (by omega) (by omega) (by omega) (by omega)
                              refine hQ.2 _ hl _ _ _ ⟨⟨hR, hb2, hB, hT.fr (ui_ne (by omega)) (ui_ne (by omega)) rfl, ?_, ?_, ?_⟩, hI.1, cnt, sl, (hN.up (Or.inl (by omega))).cong (fun x hx => ge x (by omega) (by omega) (by omega) (by omega) (by omega) (by omega) (by omega)), hC.cong g1 g2 g3⟩ (hfr.up (Or.inl ⟨by omega, by omega⟩) hB)
                              · refine bk_promise hF hO q9 gc (fun x _ => ge x) (ui_s _ _ _ _) (fun j hj => ui_o hj) (fun j hj => ?_) (fun x a1 _ _ _ => ui_ne a1)
                                rw [ui_ne (by omega), hc]
                                show _ = nI (G (56 + 6 * s.2.1 4 + j))
                                match j, hj with
                                | 0, _ => rw [upd_o (by decide), upd_o (by decide), upd_o (by decide), upd_o (by decide), upd_o (by decide), upd_s, show 56 + 6 * s.2.1 4 + 0 = 56 + 6 * s.2.1 4 by omega, k0]
                                | 1, _ => rw [upd_o (by decide), upd_o (by decide), upd_o (by decide), upd_o (by decide), upd_s, show 56 + 6 * s.2.1 4 + 1 = 57 + 6 * s.2.1 4 by omega, k1]
                                | 2, _ => rw [upd_o (by decide), upd_o (by decide), upd_o (by decide), upd_s, show 56 + 6 * s.2.1 4 + 2 = 58 + 6 * s.2.1 4 by omega, k2]
                                | 3, _ => rw [upd_o (by decide), upd_o (by decide), upd_s, show 56 + 6 * s.2.1 4 + 3 = 59 + 6 * s.2.1 4 by omega, k3]
                                | 4, _ => rw [upd_o (by decide), upd_s, show 56 + 6 * s.2.1 4 + 4 = 60 + 6 * s.2.1 4 by omega, k4]
                                | 5, _ => rw [upd_s, show 56 + 6 * s.2.1 4 + 5 = 61 + 6 * s.2.1 4 by omega, k5]
                              · exact hM.2.2.2.2.2.1.same (ui_ne (by omega)) (ui_ne (by omega)) (ui_ne (by omega))
                              · show _ = nI (G 7) ∧ _
                                rw [ui_ne (by omega), g7]; exact hM.2.2.2.2.2.2
                            · exact absurd hc148 (by decide)
                        · exact absurd hc126 (by decide)
                    · exact absurd hc104 (by decide)
                · exact absurd hc82 (by decide)
            · exact absurd hc55 (by decide)
        · exact absurd hc21 (by decide)
theorem c_X7_readSeen (h : RdC I L R B tp sz s bf) (hQ : LQ I L R B tp sz (if s.2.1 0 = 0 then .inl (6, bf) else if s.2.1 5 < 8 then lSeen tp sz s else .inl (5, bf)) Q) : KK 7 mX7_readSeen b ad [.ref (b + 88)] I L R Q := by
  obtain ⟨hM, hPI, cnt, sl, hN, hC⟩ := h
  have hR := hM.1
  have hb2 := hM.2.1
  have hB := hM.2.2.1
  have hT := hM.2.2.2.1
  have hF := hM.2.2.2.2.1
  have hby := hT.by
  have hO := hPI.2.1
  have hK := hPI.2.2.2.2.2.2.1
  have h7 := hPI.2.2.1
  have o0 := hO.1
  have o1 := hO.2.1
  have o2 := hO.2.2.1
  have o3 := hO.2.2.2.1
  have o4 := hO.2.2.2.2.1
  have o5 := hO.2.2.2.2.2.1
  have o6 := hO.2.2.2.2.2.2.1
  have hbb := shB hB
  have hfr : FrB B I I L L := FrB.refl
  refine K.of (M := mX7_readSeen) (lv := [some (.ref (b + 88)), none]) (by decide) (Nat.le_of_ble_eq_true rfl) rfl ?_
  refine v_aload_0 dX7_readSeen_0 ?_
  refine v_aload_0 dX7_readSeen_1 ?_
  refine u_getR dX7_readSeen_2 gf_X7_73 (by first | assumption | rfl | exact led_1 (by assumption) | exact led_2 (by assumption) | exact bk_m (by assumption) (by first | assumption | omega) | exact bk_p (by assumption) (by first | assumption | omega) | exact bk_o (by assumption) (by first | assumption | omega) | exact bk_s (by assumption) (by first | assumption | omega) | exact bk_1 (by assumption) | exact bk_2 (by assumption) | exact bk_3 (by assumption) | exact bk_4 (by assumption) | exact bk_5 (by assumption) | exact bk_6 (by assumption) | exact bk_7 (by assumption) | exact bk_8 (by assumption) | exact sh_ring _ (by first | assumption | omega) | exact sh_imgs _ (by first | assumption | omega)) (by assumption) ?_
  refine u_getI dX7_readSeen_5 gf_X7_276 (by first | assumption | rfl | exact led_1 (by assumption) | exact led_2 (by assumption) | exact bk_m (by assumption) (by first | assumption | omega) | exact bk_p (by assumption) (by first | assumption | omega) | exact bk_o (by assumption) (by first | assumption | omega) | exact bk_s (by assumption) (by first | assumption | omega) | exact bk_1 (by assumption) | exact bk_2 (by assumption) | exact bk_3 (by assumption) | exact bk_4 (by assumption) | exact bk_5 (by assumption) | exact bk_6 (by assumption) | exact bk_7 (by assumption) | exact bk_8 (by assumption) | exact sh_ring _ (by first | assumption | omega) | exact sh_imgs _ (by first | assumption | omega)) ?_
  (try rw [bx5 hF])
  refine v_bipush (v := nI 8) dX7_readSeen_8 (by decide) ?_
  refine u_callV_2 dX7_readSeen_10 ml_X7_220 mv_X7_needRoom (by first | assumption | rfl | exact led_1 (by assumption) | exact led_2 (by assumption) | exact bk_m (by assumption) (by first | assumption | omega) | exact bk_p (by assumption) (by first | assumption | omega) | exact bk_o (by assumption) (by first | assumption | omega) | exact bk_s (by assumption) (by first | assumption | omega) | exact bk_1 (by assumption) | exact bk_2 (by assumption) | exact bk_3 (by assumption) | exact bk_4 (by assumption) | exact bk_5 (by assumption) | exact bk_6 (by assumption) | exact bk_7 (by assumption) | exact bk_8 (by assumption) | exact sh_ring _ (by first | assumption | omega) | exact sh_imgs _ (by first | assumption | omega)) (by decide) rfl (by decide) (Nat.le_of_ble_eq_true rfl) (c_X7_needRoom (n := s.2.1 5) (most := 8) (d := s.2.1 0) hR hb2 hB (bx0 hF) (by omega) (by omega) (by omega) hT (fun q0 J p1 p2 p3 => ?_) (fun q0 q9 J p1 p2 p3 => ?_) (fun q0 q9 => ?_))
  · refine v_if_eq (tgt := 24) dX7_readSeen_13 (by decide) (fun hc13 => ?_) (fun hc13 => ?_)
    · (first | rw [bI_0, Bool.not_eq_false] at hc13 | rw [bI_0] at hc13 | rw [show (0 : Int32) = nI 0 from rfl, nI_eq (by omega) (by omega)] at hc13 | skip)
      refine v_iconst (v := nI 0) dX7_readSeen_24 (by decide) ?_
      refine v_zret dX7_readSeen_25 (by first | rfl | exact bI_n _) rfl rfl rfl rfl ?_
      exact hQ.1 6 _ (if_pos q0) _ _ p1 p2 (hfr.fr9 p3)
    · exact absurd rfl hc13
  · refine v_if_eq (tgt := 24) dX7_readSeen_13 (by decide) (fun hc13 => ?_) (fun hc13 => ?_)
    · (first | rw [bI_0, Bool.not_eq_false] at hc13 | rw [bI_0] at hc13 | rw [show (0 : Int32) = nI 0 from rfl, nI_eq (by omega) (by omega)] at hc13 | skip)
      refine v_iconst (v := nI 0) dX7_readSeen_24 (by decide) ?_
      refine v_zret dX7_readSeen_25 (by first | rfl | exact bI_n _) rfl rfl rfl rfl ?_
      exact hQ.1 5 _ (by rw [if_neg q0, if_neg q9]) _ _ p1 p2 (hfr.fr9 p3)
    · exact absurd rfl hc13
  · rw [if_neg q0, if_pos q9] at hQ
    refine v_if_eq (tgt := 24) dX7_readSeen_13 (by decide) (fun hc13 => ?_) (fun hc13 => ?_)
    · exact absurd hc13 (by decide)
    · (first | rw [bI_0, Bool.not_eq_false] at hc13 | rw [bI_0] at hc13 | rw [show (0 : Int32) = nI 0 from rfl, nI_eq (by omega) (by omega)] at hc13 | skip)
      refine v_aload_0 dX7_readSeen_16 ?_
      refine v_iconst (v := nI 1) dX7_readSeen_17 (by decide) ?_
      refine u_callV_1 dX7_readSeen_18 ml_X7_211 mv_X7_needTold (by first | assumption | rfl | exact led_1 (by assumption) | exact led_2 (by assumption) | exact bk_m (by assumption) (by first | assumption | omega) | exact bk_p (by assumption) (by first | assumption | omega) | exact bk_o (by assumption) (by first | assumption | omega) | exact bk_s (by assumption) (by first | assumption | omega) | exact bk_1 (by assumption) | exact bk_2 (by assumption) | exact bk_3 (by assumption) | exact bk_4 (by assumption) | exact bk_5 (by assumption) | exact bk_6 (by assumption) | exact bk_7 (by assumption) | exact bk_8 (by assumption) | exact sh_ring _ (by first | assumption | omega) | exact sh_imgs _ (by first | assumption | omega)) (by decide) rfl (by decide) (Nat.le_of_ble_eq_true rfl) (c_X7_needTold (t := 1) (s := s) (by decide) hR hN hC hK hT (fun f p q J M p1 p2 p3 => ?_) (fun v1 u1 q1 e1 l1 J1 M1 r1 n1 f1 => ?_))
      · refine v_if_ne (tgt := 26) dX7_readSeen_21 (by decide) (fun hc21 => ?_) (fun hc21 => ?_)
        · exact absurd rfl hc21
        · (first | rw [bI_0, Bool.not_eq_false] at hc21 | rw [bI_0] at hc21 | rw [show (0 : Int32) = nI 0 from rfl, nI_eq (by omega) (by omega)] at hc21 | skip)
          refine v_iconst (v := nI 0) dX7_readSeen_24 (by decide) ?_
          refine v_zret dX7_readSeen_25 (by first | rfl | exact bI_n _) rfl rfl rfl rfl ?_
          exact hQ.1 f p (by rw [lSeen, bnd_l q]) _ _ p1 p2 (hfr.fr9 p3)
      · subst e1
        have hM := hM.fr9 hO f1 r1
        have hN := hN.fr9 f1
        have hfr := hfr.fr9 f1
        have hT := hM.2.2.2.1
        have hF := hM.2.2.2.2.1
        have hc : J1 (B + 35 + s.2.1 5) = J1 (B + 35 + s.2.1 5) := rfl
        have t1 : v1 < s.2.1 2 := told_lt hPI (by decide) q1
        refine v_if_ne (tgt := 26) dX7_readSeen_21 (by decide) (fun hc21 => ?_) (fun hc21 => ?_)
        · (first | rw [bI_0, Bool.not_eq_false] at hc21 | rw [bI_0] at hc21 | rw [show (0 : Int32) = nI 0 from rfl, nI_eq (by omega) (by omega)] at hc21 | skip)
          refine v_aload_0 dX7_readSeen_26 ?_
          refine u_getR dX7_readSeen_27 gf_X7_73 (by first | assumption | rfl | exact led_1 (by assumption) | exact led_2 (by assumption) | exact bk_m (by assumption) (by first | assumption | omega) | exact bk_p (by assumption) (by first | assumption | omega) | exact bk_o (by assumption) (by first | assumption | omega) | exact bk_s (by assumption) (by first | assumption | omega) | exact bk_1 (by assumption) | exact bk_2 (by assumption) | exact bk_3 (by assumption) | exact bk_4 (by assumption) | exact bk_5 (by assumption) | exact bk_6 (by assumption) | exact bk_7 (by assumption) | exact bk_8 (by assumption) | exact sh_ring _ (by first | assumption | omega) | exact sh_imgs _ (by first | assumption | omega)) (by assumption) ?_
          refine u_getR dX7_readSeen_30 gf_X7_279 (by first | assumption | rfl | exact led_1 (by assumption) | exact led_2 (by assumption) | exact bk_m (by assumption) (by first | assumption | omega) | exact bk_p (by assumption) (by first | assumption | omega) | exact bk_o (by assumption) (by first | assumption | omega) | exact bk_s (by assumption) (by first | assumption | omega) | exact bk_1 (by assumption) | exact bk_2 (by assumption) | exact bk_3 (by assumption) | exact bk_4 (by assumption) | exact bk_5 (by assumption) | exact bk_6 (by assumption) | exact bk_7 (by assumption) | exact bk_8 (by assumption) | exact sh_ring _ (by first | assumption | omega) | exact sh_imgs _ (by first | assumption | omega)) (ro_X0_10 (by assumption) (by assumption)) ?_
          refine v_aload_0 dX7_readSeen_33 ?_
          refine u_getR dX7_readSeen_34 gf_X7_73 (by first | assumption | rfl | exact led_1 (by assumption) | exact led_2 (by assumption) | exact bk_m (by assumption) (by first | assumption | omega) | exact bk_p (by assumption) (by first | assumption | omega) | exact bk_o (by assumption) (by first | assumption | omega) | exact bk_s (by assumption) (by first | assumption | omega) | exact bk_1 (by assumption) | exact bk_2 (by assumption) | exact bk_3 (by assumption) | exact bk_4 (by assumption) | exact bk_5 (by assumption) | exact bk_6 (by assumption) | exact bk_7 (by assumption) | exact bk_8 (by assumption) | exact sh_ring _ (by first | assumption | omega) | exact sh_imgs _ (by first | assumption | omega)) (by assumption) ?_
          refine u_getI dX7_readSeen_37 gf_X7_276 (by first | assumption | rfl | exact led_1 (by assumption) | exact led_2 (by assumption) | exact bk_m (by assumption) (by first | assumption | omega) | exact bk_p (by assumption) (by first | assumption | omega) | exact bk_o (by assumption) (by first | assumption | omega) | exact bk_s (by assumption) (by first | assumption | omega) | exact bk_1 (by assumption) | exact bk_2 (by assumption) | exact bk_3 (by assumption) | exact bk_4 (by assumption) | exact bk_5 (by assumption) | exact bk_6 (by assumption) | exact bk_7 (by assumption) | exact bk_8 (by assumption) | exact sh_ring _ (by first | assumption | omega) | exact sh_imgs _ (by first | assumption | omega)) ?_
          (try rw [bx5 hF])
          refine u_aald dX7_readSeen_40 (by first | assumption | rfl | exact led_1 (by assumption) | exact led_2 (by assumption) | exact bk_m (by assumption) (by first | assumption | omega) | exact bk_p (by assumption) (by first | assumption | omega) | exact bk_o (by assumption) (by first | assumption | omega) | exact bk_s (by assumption) (by first | assumption | omega) | exact bk_1 (by assumption) | exact bk_2 (by assumption) | exact bk_3 (by assumption) | exact bk_4 (by assumption) | exact bk_5 (by assumption) | exact bk_6 (by assumption) | exact bk_7 (by assumption) | exact bk_8 (by assumption) | exact sh_ring _ (by first | assumption | omega) | exact sh_imgs _ (by first | assumption | omega)) (by decide) (by decide) rfl (by first | with_reducible rfl | (simp only [nlit, nI_add, pk_mul]; with_reducible rfl) | rfl) (by first | assumption | omega) (by decide) (by first | exact ro_m (by assumption) (by assumption) (by first | assumption | omega) | exact ro_p (by assumption) (by assumption) (by first | assumption | omega) | exact ro_o (by assumption) (by assumption) (by first | assumption | omega) | exact ro_s (by assumption) (by assumption) (by first | assumption | omega) | exact ro_ring (by assumption) (by first | assumption | omega) | exact ro_imgs (by assumption) (by first | assumption | omega)) ?_
          refine v_astore_1 rfl dX7_readSeen_41 ?_
          refine v_aload_1 dX7_readSeen_42 ?_
          refine v_aload_0 dX7_readSeen_43 ?_
          refine u_getI dX7_readSeen_44 gf_X7_154 (by first | assumption | rfl | exact led_1 (by assumption) | exact led_2 (by assumption) | exact bk_m (by assumption) (by first | assumption | omega) | exact bk_p (by assumption) (by first | assumption | omega) | exact bk_o (by assumption) (by first | assumption | omega) | exact bk_s (by assumption) (by first | assumption | omega) | exact bk_1 (by assumption) | exact bk_2 (by assumption) | exact bk_3 (by assumption) | exact bk_4 (by assumption) | exact bk_5 (by assumption) | exact bk_6 (by assumption) | exact bk_7 (by assumption) | exact bk_8 (by assumption) | exact sh_ring _ (by first | assumption | omega) | exact sh_imgs _ (by first | assumption | omega)) ?_
          rw [n1]
          refine u_putI dX7_readSeen_47 gf_X7_283 (by first | assumption | rfl | exact led_1 (by assumption) | exact led_2 (by assumption) | exact bk_m (by assumption) (by first | assumption | omega) | exact bk_p (by assumption) (by first | assumption | omega) | exact bk_o (by assumption) (by first | assumption | omega) | exact bk_s (by assumption) (by first | assumption | omega) | exact bk_1 (by assumption) | exact bk_2 (by assumption) | exact bk_3 (by assumption) | exact bk_4 (by assumption) | exact bk_5 (by assumption) | exact bk_6 (by assumption) | exact bk_7 (by assumption) | exact bk_8 (by assumption) | exact sh_ring _ (by first | assumption | omega) | exact sh_imgs _ (by first | assumption | omega)) rfl rfl rfl ?_
          have hM := hM.cell hO (x := B + 35 + s.2.1 5) (j := 0) (v := nI v1) (Or.inr (Or.inr (Or.inr ⟨by omega, by omega⟩)))
          have hN := hN.up (x := B + 35 + s.2.1 5) (j := 0) (v := nI v1) (Or.inl (by omega))
          have hfr := hfr.up (x := B + 35 + s.2.1 5) (j := 0) (v := nI v1) (Or.inl ⟨by omega, by omega⟩) hB
          have hT := hM.2.2.2.1
          have hF := hM.2.2.2.2.1
          have hc := ui_row (j := 0) (v := nI v1) hc
          refine v_aload_0 dX7_readSeen_50 ?_
          refine v_ldcS (i := 20) dX7_readSeen_51 (by decide) rfl rfl ?_
          refine v_iconst (v := nI 1) dX7_readSeen_53 (by decide) ?_
          refine v_aload_0 dX7_readSeen_54 ?_
          refine u_getR dX7_readSeen_55 gf_X7_73 (by first | assumption | rfl | exact led_1 (by assumption) | exact led_2 (by assumption) | exact bk_m (by assumption) (by first | assumption | omega) | exact bk_p (by assumption) (by first | assumption | omega) | exact bk_o (by assumption) (by first | assumption | omega) | exact bk_s (by assumption) (by first | assumption | omega) | exact bk_1 (by assumption) | exact bk_2 (by assumption) | exact bk_3 (by assumption) | exact bk_4 (by assumption) | exact bk_5 (by assumption) | exact bk_6 (by assumption) | exact bk_7 (by assumption) | exact bk_8 (by assumption) | exact sh_ring _ (by first | assumption | omega) | exact sh_imgs _ (by first | assumption | omega)) (by assumption) ?_
          refine u_getI dX7_readSeen_58 gf_X7_106 (by first | assumption | rfl | exact led_1 (by assumption) | exact led_2 (by assumption) | exact bk_m (by assumption) (by first | assumption | omega) | exact bk_p (by assumption) (by first | assumption | omega) | exact bk_o (by assumption) (by first | assumption | omega) | exact bk_s (by assumption) (by first | assumption | omega) | exact bk_1 (by assumption) | exact bk_2 (by assumption) | exact bk_3 (by assumption) | exact bk_4 (by assumption) | exact bk_5 (by assumption) | exact bk_6 (by assumption) | exact bk_7 (by assumption) | exact bk_8 (by assumption) | exact sh_ring _ (by first | assumption | omega) | exact sh_imgs _ (by first | assumption | omega)) ?_
          (try rw [bx0 hF])
          refine u_callV_3 dX7_readSeen_61 ml_X7_150 mv_X7_needWhole (by first | assumption | rfl | exact led_1 (by assumption) | exact led_2 (by assumption) | exact bk_m (by assumption) (by first | assumption | omega) | exact bk_p (by assumption) (by first | assumption | omega) | exact bk_o (by assumption) (by first | assumption | omega) | exact bk_s (by assumption) (by first | assumption | omega) | exact bk_1 (by assumption) | exact bk_2 (by assumption) | exact bk_3 (by assumption) | exact bk_4 (by assumption) | exact bk_5 (by assumption) | exact bk_6 (by assumption) | exact bk_7 (by assumption) | exact bk_8 (by assumption) | exact sh_ring _ (by first | assumption | omega) | exact sh_imgs _ (by first | assumption | omega)) (by decide) rfl (by decide) (Nat.le_of_ble_eq_true rfl) (c_X7_needWhole (i := 20) (lo := 1) (hi' := s.2.1 0) (s := (nx tp sz s)) (by decide) (by omega) (by omega) hR hT (fun f p q J M p1 p2 p3 => ?_) (fun v2 u2 q2 e2 l2 h2 J2 M2 r2 n2 f2 => ?_))
          · refine v_if_ne (tgt := 69) dX7_readSeen_64 (by decide) (fun hc64 => ?_) (fun hc64 => ?_)
            · exact absurd rfl hc64
            · (first | rw [bI_0, Bool.not_eq_false] at hc64 | rw [bI_0] at hc64 | rw [show (0 : Int32) = nI 0 from rfl, nI_eq (by omega) (by omega)] at hc64 | skip)
              refine v_iconst (v := nI 0) dX7_readSeen_67 (by decide) ?_
              refine v_zret dX7_readSeen_68 (by first | rfl | exact bI_n _) rfl rfl rfl rfl ?_
              exact hQ.1 f p (by rw [lSeen, bnd_r q1, bnd_l q]) _ _ p1 p2 (hfr.fr9 p3)
          · subst e2
            have hM := hM.fr9 hO f2 r2
            have hN := hN.fr9 f2
            have hfr := hfr.fr9 f2
            have hT := hM.2.2.2.1
            have hF := hM.2.2.2.2.1
            have hc := (f2.1 (B + 35 + s.2.1 5) (by omega) (by omega)).trans hc
            refine v_if_ne (tgt := 69) dX7_readSeen_64 (by decide) (fun hc64 => ?_) (fun hc64 => ?_)
            · (first | rw [bI_0, Bool.not_eq_false] at hc64 | rw [bI_0] at hc64 | rw [show (0 : Int32) = nI 0 from rfl, nI_eq (by omega) (by omega)] at hc64 | skip)
              refine v_aload_1 dX7_readSeen_69 ?_
              refine v_aload_0 dX7_readSeen_70 ?_
              refine u_getI dX7_readSeen_71 gf_X7_154 (by first | assumption | rfl | exact led_1 (by assumption) | exact led_2 (by assumption) | exact bk_m (by assumption) (by first | assumption | omega) | exact bk_p (by assumption) (by first | assumption | omega) | exact bk_o (by assumption) (by first | assumption | omega) | exact bk_s (by assumption) (by first | assumption | omega) | exact bk_1 (by assumption) | exact bk_2 (by assumption) | exact bk_3 (by assumption) | exact bk_4 (by assumption) | exact bk_5 (by assumption) | exact bk_6 (by assumption) | exact bk_7 (by assumption) | exact bk_8 (by assumption) | exact sh_ring _ (by first | assumption | omega) | exact sh_imgs _ (by first | assumption | omega)) ?_
              rw [n2]
              refine u_putI dX7_readSeen_74 gf_X7_286 (by first | assumption | rfl | exact led_1 (by assumption) | exact led_2 (by assumption) | exact bk_m (by assumption) (by first | assumption | omega) | exact bk_p (by assumption) (by first | assumption | omega) | exact bk_o (by assumption) (by first | assumption | omega) | exact bk_s (by assumption) (by first | assumption | omega) | exact bk_1 (by assumption) | exact bk_2 (by assumption) | exact bk_3 (by assumption) | exact bk_4 (by assumption) | exact bk_5 (by assumption) | exact bk_6 (by assumption) | exact bk_7 (by assumption) | exact bk_8 (by assumption) | exact sh_ring _ (by first | assumption | omega) | exact sh_imgs _ (by first | assumption | omega)) rfl rfl rfl ?_
              have hM := hM.cell hO (x := B + 35 + s.2.1 5) (j := 1) (v := nI v2) (Or.inr (Or.inr (Or.inr ⟨by omega, by omega⟩)))
              have hN := hN.up (x := B + 35 + s.2.1 5) (j := 1) (v := nI v2) (Or.inl (by omega))
              have hfr := hfr.up (x := B + 35 + s.2.1 5) (j := 1) (v := nI v2) (Or.inl ⟨by omega, by omega⟩) hB
              have hT := hM.2.2.2.1
              have hF := hM.2.2.2.2.1
              have hc := ui_row (j := 1) (v := nI v2) hc
              refine v_aload_0 dX7_readSeen_77 ?_
              refine v_ldcSw (i := 27) dX7_readSeen_78 (by decide) rfl rfl ?_
              refine v_iconst (v := nI 0) dX7_readSeen_81 (by decide) ?_
              refine v_bipush (v := nI 23) dX7_readSeen_82 (by decide) ?_
              refine u_callV_3 dX7_readSeen_84 ml_X7_150 mv_X7_needWhole (by first | assumption | rfl | exact led_1 (by assumption) | exact led_2 (by assumption) | exact bk_m (by assumption) (by first | assumption | omega) | exact bk_p (by assumption) (by first | assumption | omega) | exact bk_o (by assumption) (by first | assumption | omega) | exact bk_s (by assumption) (by first | assumption | omega) | exact bk_1 (by assumption) | exact bk_2 (by assumption) | exact bk_3 (by assumption) | exact bk_4 (by assumption) | exact bk_5 (by assumption) | exact bk_6 (by assumption) | exact bk_7 (by assumption) | exact bk_8 (by assumption) | exact sh_ring _ (by first | assumption | omega) | exact sh_imgs _ (by first | assumption | omega)) (by decide) rfl (by decide) (Nat.le_of_ble_eq_true rfl) (c_X7_needWhole (i := 27) (lo := 0) (hi' := 23) (s := (nx tp sz (nx tp sz (nx tp sz s)))) (by decide) (by omega) (by omega) hR hT (fun f p q J M p1 p2 p3 => ?_) (fun v3 u3 q3 e3 l3 h3 J3 M3 r3 n3 f3 => ?_))
              · refine v_if_ne (tgt := 92) dX7_readSeen_87 (by decide) (fun hc87 => ?_) (fun hc87 => ?_)
                · exact absurd rfl hc87
                · (first | rw [bI_0, Bool.not_eq_false] at hc87 | rw [bI_0] at hc87 | rw [show (0 : Int32) = nI 0 from rfl, nI_eq (by omega) (by omega)] at hc87 | skip)
                  refine v_iconst (v := nI 0) dX7_readSeen_90 (by decide) ?_
                  refine v_zret dX7_readSeen_91 (by first | rfl | exact bI_n _) rfl rfl rfl rfl ?_
                  exact hQ.1 f p (by rw [lSeen, bnd_r q1, bnd_r q2, bnd_l q]) _ _ p1 p2 (hfr.fr9 p3)
              · subst e3
                have hM := hM.fr9 hO f3 r3
                have hN := hN.fr9 f3
                have hfr := hfr.fr9 f3
                have hT := hM.2.2.2.1
                have hF := hM.2.2.2.2.1
                have hc := (f3.1 (B + 35 + s.2.1 5) (by omega) (by omega)).trans hc
                refine v_if_ne (tgt := 92) dX7_readSeen_87 (by decide) (fun hc87 => ?_) (fun hc87 => ?_)
                · (first | rw [bI_0, Bool.not_eq_false] at hc87 | rw [bI_0] at hc87 | rw [show (0 : Int32) = nI 0 from rfl, nI_eq (by omega) (by omega)] at hc87 | skip)
                  refine v_aload_1 dX7_readSeen_92 ?_
                  refine v_aload_0 dX7_readSeen_93 ?_
                  refine u_getI dX7_readSeen_94 gf_X7_154 (by first | assumption | rfl | exact led_1 (by assumption) | exact led_2 (by assumption) | exact bk_m (by assumption) (by first | assumption | omega) | exact bk_p (by assumption) (by first | assumption | omega) | exact bk_o (by assumption) (by first | assumption | omega) | exact bk_s (by assumption) (by first | assumption | omega) | exact bk_1 (by assumption) | exact bk_2 (by assumption) | exact bk_3 (by assumption) | exact bk_4 (by assumption) | exact bk_5 (by assumption) | exact bk_6 (by assumption) | exact bk_7 (by assumption) | exact bk_8 (by assumption) | exact sh_ring _ (by first | assumption | omega) | exact sh_imgs _ (by first | assumption | omega)) ?_
                  rw [n3]
                  refine u_putI dX7_readSeen_97 gf_X7_289 (by first | assumption | rfl | exact led_1 (by assumption) | exact led_2 (by assumption) | exact bk_m (by assumption) (by first | assumption | omega) | exact bk_p (by assumption) (by first | assumption | omega) | exact bk_o (by assumption) (by first | assumption | omega) | exact bk_s (by assumption) (by first | assumption | omega) | exact bk_1 (by assumption) | exact bk_2 (by assumption) | exact bk_3 (by assumption) | exact bk_4 (by assumption) | exact bk_5 (by assumption) | exact bk_6 (by assumption) | exact bk_7 (by assumption) | exact bk_8 (by assumption) | exact sh_ring _ (by first | assumption | omega) | exact sh_imgs _ (by first | assumption | omega)) rfl rfl rfl ?_
                  have hM := hM.cell hO (x := B + 35 + s.2.1 5) (j := 2) (v := nI v3) (Or.inr (Or.inr (Or.inr ⟨by omega, by omega⟩)))
                  have hN := hN.up (x := B + 35 + s.2.1 5) (j := 2) (v := nI v3) (Or.inl (by omega))
                  have hfr := hfr.up (x := B + 35 + s.2.1 5) (j := 2) (v := nI v3) (Or.inl ⟨by omega, by omega⟩) hB
                  have hT := hM.2.2.2.1
                  have hF := hM.2.2.2.2.1
                  have hc := ui_row (j := 2) (v := nI v3) hc
                  refine v_aload_0 dX7_readSeen_100 ?_
                  refine v_ldcS (i := 12) dX7_readSeen_101 (by decide) rfl rfl ?_
                  refine v_iconst (v := nI 1) dX7_readSeen_103 (by decide) ?_
                  refine v_bipush (v := nI 9) dX7_readSeen_104 (by decide) ?_
                  refine u_callV_3 dX7_readSeen_106 ml_X7_150 mv_X7_needWhole (by first | assumption | rfl | exact led_1 (by assumption) | exact led_2 (by assumption) | exact bk_m (by assumption) (by first | assumption | omega) | exact bk_p (by assumption) (by first | assumption | omega) | exact bk_o (by assumption) (by first | assumption | omega) | exact bk_s (by assumption) (by first | assumption | omega) | exact bk_1 (by assumption) | exact bk_2 (by assumption) | exact bk_3 (by assumption) | exact bk_4 (by assumption) | exact bk_5 (by assumption) | exact bk_6 (by assumption) | exact bk_7 (by assumption) | exact bk_8 (by assumption) | exact sh_ring _ (by first | assumption | omega) | exact sh_imgs _ (by first | assumption | omega)) (by decide) rfl (by decide) (Nat.le_of_ble_eq_true rfl) (c_X7_needWhole (i := 12) (lo := 1) (hi' := 9) (s := (nx tp sz (nx tp sz (nx tp sz (nx tp sz (nx tp sz s)))))) (by decide) (by omega) (by omega) hR hT (fun f p q J M p1 p2 p3 => ?_) (fun v4 u4 q4 e4 l4 h4 J4 M4 r4 n4 f4 => ?_))
                  · refine v_if_ne (tgt := 114) dX7_readSeen_109 (by decide) (fun hc109 => ?_) (fun hc109 => ?_)
                    · exact absurd rfl hc109
                    · (first | rw [bI_0, Bool.not_eq_false] at hc109 | rw [bI_0] at hc109 | rw [show (0 : Int32) = nI 0 from rfl, nI_eq (by omega) (by omega)] at hc109 | skip)
                      refine v_iconst (v := nI 0) dX7_readSeen_112 (by decide) ?_
                      refine v_zret dX7_readSeen_113 (by first | rfl | exact bI_n _) rfl rfl rfl rfl ?_
                      exact hQ.1 f p (by rw [lSeen, bnd_r q1, bnd_r q2, bnd_r q3, bnd_l q]) _ _ p1 p2 (hfr.fr9 p3)
                  · subst e4
                    have hM := hM.fr9 hO f4 r4
                    have hN := hN.fr9 f4
                    have hfr := hfr.fr9 f4
                    have hT := hM.2.2.2.1
                    have hF := hM.2.2.2.2.1
                    have hc := (f4.1 (B + 35 + s.2.1 5) (by omega) (by omega)).trans hc
                    refine v_if_ne (tgt := 114) dX7_readSeen_109 (by decide) (fun hc109 => ?_) (fun hc109 => ?_)
                    · (first | rw [bI_0, Bool.not_eq_false] at hc109 | rw [bI_0] at hc109 | rw [show (0 : Int32) = nI 0 from rfl, nI_eq (by omega) (by omega)] at hc109 | skip)
                      refine v_aload_1 dX7_readSeen_114 ?_
                      refine v_aload_0 dX7_readSeen_115 ?_
                      refine u_getI dX7_readSeen_116 gf_X7_154 (by first | assumption | rfl | exact led_1 (by assumption) | exact led_2 (by assumption) | exact bk_m (by assumption) (by first | assumption | omega) | exact bk_p (by assumption) (by first | assumption | omega) | exact bk_o (by assumption) (by first | assumption | omega) | exact bk_s (by assumption) (by first | assumption | omega) | exact bk_1 (by assumption) | exact bk_2 (by assumption) | exact bk_3 (by assumption) | exact bk_4 (by assumption) | exact bk_5 (by assumption) | exact bk_6 (by assumption) | exact bk_7 (by assumption) | exact bk_8 (by assumption) | exact sh_ring _ (by first | assumption | omega) | exact sh_imgs _ (by first | assumption | omega)) ?_
                      rw [n4]
                      refine u_putI dX7_readSeen_119 gf_X7_291 (by first | assumption | rfl | exact led_1 (by assumption) | exact led_2 (by assumption) | exact bk_m (by assumption) (by first | assumption | omega) | exact bk_p (by assumption) (by first | assumption | omega) | exact bk_o (by assumption) (by first | assumption | omega) | exact bk_s (by assumption) (by first | assumption | omega) | exact bk_1 (by assumption) | exact bk_2 (by assumption) | exact bk_3 (by assumption) | exact bk_4 (by assumption) | exact bk_5 (by assumption) | exact bk_6 (by assumption) | exact bk_7 (by assumption) | exact bk_8 (by assumption) | exact sh_ring _ (by first | assumption | omega) | exact sh_imgs _ (by first | assumption | omega)) rfl rfl rfl ?_
                      have hM := hM.cell hO (x := B + 35 + s.2.1 5) (j := 3) (v := nI v4) (Or.inr (Or.inr (Or.inr ⟨by omega, by omega⟩)))
                      have hN := hN.up (x := B + 35 + s.2.1 5) (j := 3) (v := nI v4) (Or.inl (by omega))
                      have hfr := hfr.up (x := B + 35 + s.2.1 5) (j := 3) (v := nI v4) (Or.inl ⟨by omega, by omega⟩) hB
                      have hT := hM.2.2.2.1
                      have hF := hM.2.2.2.2.1
                      have hc := ui_row (j := 3) (v := nI v4) hc
                      have cut152 : ∀ (J : HI) (M : HL) (u5 : PS) (bf5 v5 : Nat), Md J M R B tp sz u5.1 bf5 s.2.1 s.2.2 → NmT J M s.2.1 cnt sl → FrB B I J L M → J (B + 35 + s.2.1 5) = upd (upd (upd (upd (J1 (B + 35 + s.2.1 5)) 0 (nI v1)) 1 (nI v2)) 2 (nI v3)) 3 (nI v4) → u5.2 = s.2 → v5 < 5 → J 88 9 = nI v5 → qHabit tp sz (nx tp sz (nx tp sz (nx tp sz (nx tp sz (nx tp sz (nx tp sz (nx tp sz s))))))) = .inr (v5, u5) → VV yX7_readSeen cX7_readSeen 2 (some .boolean) 7 Q b ad 152 [some (.ref (b + 88)), some (.ref (b + (B + 35 + s.2.1 5)))] [] J M R := by
                        intro J M u5 bf5 v5 hM hN hfr hc eu hv5 n5 q5
                        have hT := hM.2.2.2.1
                        have hF := hM.2.2.2.2.1
                        have eF : u5.2.1 = s.2.1 := congrArg Prod.fst eu
                        have eL : u5.2.2 = s.2.2 := by have q := congrArg Prod.snd eu; exact q
                        refine v_aload_1 dX7_readSeen_152 ?_
                        refine v_aload_0 dX7_readSeen_153 ?_
                        refine u_getI dX7_readSeen_154 gf_X7_154 (by first | assumption | rfl | exact led_1 (by assumption) | exact led_2 (by assumption) | exact bk_m (by assumption) (by first | assumption | omega) | exact bk_p (by assumption) (by first | assumption | omega) | exact bk_o (by assumption) (by first | assumption | omega) | exact bk_s (by assumption) (by first | assumption | omega) | exact bk_1 (by assumption) | exact bk_2 (by assumption) | exact bk_3 (by assumption) | exact bk_4 (by assumption) | exact bk_5 (by assumption) | exact bk_6 (by assumption) | exact bk_7 (by assumption) | exact bk_8 (by assumption) | exact sh_ring _ (by first | assumption | omega) | exact sh_imgs _ (by first | assumption | omega)) ?_
                        rw [n5]
                        refine u_putI dX7_readSeen_157 gf_X7_292 (by first | assumption | rfl | exact led_1 (by assumption) | exact led_2 (by assumption) | exact bk_m (by assumption) (by first | assumption | omega) | exact bk_p (by assumption) (by first | assumption | omega) | exact bk_o (by assumption) (by first | assumption | omega) | exact bk_s (by assumption) (by first | assumption | omega) | exact bk_1 (by assumption) | exact bk_2 (by assumption) | exact bk_3 (by assumption) | exact bk_4 (by assumption) | exact bk_5 (by assumption) | exact bk_6 (by assumption) | exact bk_7 (by assumption) | exact bk_8 (by assumption) | exact sh_ring _ (by first | assumption | omega) | exact sh_imgs _ (by first | assumption | omega)) rfl rfl rfl ?_
                        have hM := hM.cell hO (x := B + 35 + s.2.1 5) (j := 4) (v := nI v5) (Or.inr (Or.inr (Or.inr ⟨by omega, by omega⟩)))
                        have hN := hN.up (x := B + 35 + s.2.1 5) (j := 4) (v := nI v5) (Or.inl (by omega))
                        have hfr := hfr.up (x := B + 35 + s.2.1 5) (j := 4) (v := nI v5) (Or.inl ⟨by omega, by omega⟩) hB
                        have hT := hM.2.2.2.1
                        have hF := hM.2.2.2.2.1
                        have hc := ui_row (j := 4) (v := nI v5) hc
                        refine v_aload_0 dX7_readSeen_160 ?_
                        refine u_getR dX7_readSeen_161 gf_X7_73 (by first | assumption | rfl | exact led_1 (by assumption) | exact led_2 (by assumption) | exact bk_m (by assumption) (by first | assumption | omega) | exact bk_p (by assumption) (by first | assumption | omega) | exact bk_o (by assumption) (by first | assumption | omega) | exact bk_s (by assumption) (by first | assumption | omega) | exact bk_1 (by assumption) | exact bk_2 (by assumption) | exact bk_3 (by assumption) | exact bk_4 (by assumption) | exact bk_5 (by assumption) | exact bk_6 (by assumption) | exact bk_7 (by assumption) | exact bk_8 (by assumption) | exact sh_ring _ (by first | assumption | omega) | exact sh_imgs _ (by first | assumption | omega)) (by assumption) ?_
                        refine v_dup dX7_readSeen_164 rfl ?_
                        refine u_getI dX7_readSeen_165 gf_X7_276 (by first | assumption | rfl | exact led_1 (by assumption) | exact led_2 (by assumption) | exact bk_m (by assumption) (by first | assumption | omega) | exact bk_p (by assumption) (by first | assumption | omega) | exact bk_o (by assumption) (by first | assumption | omega) | exact bk_s (by assumption) (by first | assumption | omega) | exact bk_1 (by assumption) | exact bk_2 (by assumption) | exact bk_3 (by assumption) | exact bk_4 (by assumption) | exact bk_5 (by assumption) | exact bk_6 (by assumption) | exact bk_7 (by assumption) | exact bk_8 (by assumption) | exact sh_ring _ (by first | assumption | omega) | exact sh_imgs _ (by first | assumption | omega)) ?_
                        (try rw [bx5 hF])
                        refine v_iconst (v := nI 1) dX7_readSeen_168 (by decide) ?_
                        refine v_iadd dX7_readSeen_169 ?_
                        rw [nI_add]
                        refine u_putI dX7_readSeen_170 gf_X7_276 (by first | assumption | rfl | exact led_1 (by assumption) | exact led_2 (by assumption) | exact bk_m (by assumption) (by first | assumption | omega) | exact bk_p (by assumption) (by first | assumption | omega) | exact bk_o (by assumption) (by first | assumption | omega) | exact bk_s (by assumption) (by first | assumption | omega) | exact bk_1 (by assumption) | exact bk_2 (by assumption) | exact bk_3 (by assumption) | exact bk_4 (by assumption) | exact bk_5 (by assumption) | exact bk_6 (by assumption) | exact bk_7 (by assumption) | exact bk_8 (by assumption) | exact sh_ring _ (by first | assumption | omega) | exact sh_imgs _ (by first | assumption | omega)) rfl rfl rfl ?_
                        refine v_iconst (v := nI 1) dX7_readSeen_173 (by decide) ?_
                        refine v_zret dX7_readSeen_174 (by first | rfl | exact bI_n _) rfl rfl rfl rfl ?_
                        have hl : lSeen tp sz s = .inr (setS u5 (sgF s.2.1 v1 v2 v3 v4 v5)) := by
                          rw [lSeen, bnd_r q1, bnd_r q2, bnd_r q3, bnd_r q4, bnd_r q5]
                          show Sum.inr (setS u5 (sgF u5.2.1 v1 v2 v3 v4 v5)) = _; rw [eF]
                        have hI := inv_seen hby hPI q0 q9 hl
                        obtain ⟨gc, ge, k0, k1, k2, k3, k4⟩ := sg_facts (F := s.2.1) (a := v1) (b := v2) (c := v3) (d := v4) (e := v5)
                        generalize sgF s.2.1 v1 v2 v3 v4 v5 = G at hl hI gc ge k0 k1 k2 k3 k4
                        have g1 := ge 1 (by omega) (by omega) (by omega) (by omega) (by omega) (by omega)
                        have g2 := ge 2 (by omega) (by omega) (by omega) (by omega) (by omega) (by omega)
                        have g3 := ge 3 (by omega) (by omega) (by omega) (by omega) (by omega) (by omega)
                        have g7 := ge 7 (by omega) (by omega) (by omega) (by omega) (by omega) (by omega)
                        refine hQ.2 _ hl _ _ _ ⟨⟨hR, hb2, hB, hT.fr (ui_ne (by omega)) (ui_ne (by omega)) rfl, ?_, ?_, ?_⟩, hI.1, cnt, sl, (hN.up (Or.inl (by omega))).cong (fun x hx => ge x (by omega) (by omega) (by omega) (by omega) (by omega) (by omega)), hC.cong g1 g2 g3⟩ (hfr.up (Or.inl ⟨by omega, by omega⟩) hB)
                        · refine bk_seen hF hO q9 gc (fun x _ => ge x) (ui_s _ _ _ _) (fun j hj => ui_o hj) (fun j hj => ?_) (fun x a1 _ _ _ => ui_ne a1)
                          rw [ui_ne (by omega), hc]
                          show _ = nI (G (128 + 5 * s.2.1 5 + j))
                          match j, hj with
                          | 0, _ => rw [upd_o (by decide), upd_o (by decide), upd_o (by decide), upd_o (by decide), upd_s, show 128 + 5 * s.2.1 5 + 0 = 128 + 5 * s.2.1 5 by omega, k0]
                          | 1, _ => rw [upd_o (by decide), upd_o (by decide), upd_o (by decide), upd_s, show 128 + 5 * s.2.1 5 + 1 = 129 + 5 * s.2.1 5 by omega, k1]
                          | 2, _ => rw [upd_o (by decide), upd_o (by decide), upd_s, show 128 + 5 * s.2.1 5 + 2 = 130 + 5 * s.2.1 5 by omega, k2]
                          | 3, _ => rw [upd_o (by decide), upd_s, show 128 + 5 * s.2.1 5 + 3 = 131 + 5 * s.2.1 5 by omega, k3]
                          | 4, _ => rw [upd_s, show 128 + 5 * s.2.1 5 + 4 = 132 + 5 * s.2.1 5 by omega, k4]
                        · show LDI _ (B + 8) u5.2.2.1 u5.2.2.2.1 u5.2.2.2.2; rw [eL]; exact hM.2.2.2.2.2.1.same (ui_ne (by omega)) (ui_ne (by omega)) (ui_ne (by omega))
                        · show _ = nI (G 7) ∧ _
                          rw [ui_ne (by omega), g7]; exact hM.2.2.2.2.2.2
                      refine v_aload_0 dX7_readSeen_122 ?_
                      refine v_iconst (v := nI 0) dX7_readSeen_123 (by decide) ?_
                      refine u_putI dX7_readSeen_124 gf_X7_154 (by first | assumption | rfl | exact led_1 (by assumption) | exact led_2 (by assumption) | exact bk_m (by assumption) (by first | assumption | omega) | exact bk_p (by assumption) (by first | assumption | omega) | exact bk_o (by assumption) (by first | assumption | omega) | exact bk_s (by assumption) (by first | assumption | omega) | exact bk_1 (by assumption) | exact bk_2 (by assumption) | exact bk_3 (by assumption) | exact bk_4 (by assumption) | exact bk_5 (by assumption) | exact bk_6 (by assumption) | exact bk_7 (by assumption) | exact bk_8 (by assumption) | exact sh_ring _ (by first | assumption | omega) | exact sh_imgs _ (by first | assumption | omega)) rfl rfl rfl ?_
                      have hM := hM.num hO (v := nI 0)
                      have hN := hN.up (x := 88) (j := 9) (v := nI 0) (Or.inr ⟨rfl, by decide⟩)
                      have hfr := hfr.up (x := 88) (j := 9) (v := nI 0) (Or.inr rfl) hB
                      have hT := hM.2.2.2.1
                      have hF := hM.2.2.2.2.1
                      have hc := (ui_ne (I := _) (a := 88) (k := 9) (v := nI 0) (show B + 35 + s.2.1 5 ≠ 88 by omega)).trans hc
                      refine v_aload_0 dX7_readSeen_127 ?_
                      refine u_getR dX7_readSeen_128 gf_X7_14 (by first | assumption | rfl | exact led_1 (by assumption) | exact led_2 (by assumption) | exact bk_m (by assumption) (by first | assumption | omega) | exact bk_p (by assumption) (by first | assumption | omega) | exact bk_o (by assumption) (by first | assumption | omega) | exact bk_s (by assumption) (by first | assumption | omega) | exact bk_1 (by assumption) | exact bk_2 (by assumption) | exact bk_3 (by assumption) | exact bk_4 (by assumption) | exact bk_5 (by assumption) | exact bk_6 (by assumption) | exact bk_7 (by assumption) | exact bk_8 (by assumption) | exact sh_ring _ (by first | assumption | omega) | exact sh_imgs _ (by first | assumption | omega)) (ro_X7_3 (by assumption)) ?_
                      refine v_ldcS (i := 10) dX7_readSeen_131 (by decide) rfl rfl ?_
                      refine u_callV_1 dX7_readSeen_133 ml_X7_199 mv_X9_isWord (by first | assumption | rfl | exact led_1 (by assumption) | exact led_2 (by assumption) | exact bk_m (by assumption) (by first | assumption | omega) | exact bk_p (by assumption) (by first | assumption | omega) | exact bk_o (by assumption) (by first | assumption | omega) | exact bk_s (by assumption) (by first | assumption | omega) | exact bk_1 (by assumption) | exact bk_2 (by assumption) | exact bk_3 (by assumption) | exact bk_4 (by assumption) | exact bk_5 (by assumption) | exact bk_6 (by assumption) | exact bk_7 (by assumption) | exact bk_8 (by assumption) | exact sh_ring _ (by first | assumption | omega) | exact sh_imgs _ (by first | assumption | omega)) (by decide) rfl (by decide) (Nat.le_of_ble_eq_true rfl) (c_X9_isWord (i := 10) (by decide) hR hT ?_)
                      refine v_if_eq (tgt := 152) dX7_readSeen_136 (by decide) (fun hc136 => ?_) (fun hc136 => ?_)
                      · (first | rw [bI_0, Bool.not_eq_false] at hc136 | rw [bI_0] at hc136 | rw [show (0 : Int32) = nI 0 from rfl, nI_eq (by omega) (by omega)] at hc136 | skip)
                        exact cut152 _ _ (nx tp sz (nx tp sz (nx tp sz (nx tp sz (nx tp sz (nx tp sz (nx tp sz s))))))) _ 0 hM hN hfr hc rfl (by decide) (ui_s _ _ _ _) (by unfold qHabit; rw [if_neg (by rw [hc136]; decide)])
                      · (first | rw [bI_0, Bool.not_eq_false] at hc136 | rw [bI_0] at hc136 | rw [show (0 : Int32) = nI 0 from rfl, nI_eq (by omega) (by omega)] at hc136 | skip)
                        refine v_aload_0 dX7_readSeen_139 ?_
                        refine v_ldcS (i := 10) dX7_readSeen_140 (by decide) rfl rfl ?_
                        refine v_iconst (v := nI 1) dX7_readSeen_142 (by decide) ?_
                        refine v_iconst (v := nI 4) dX7_readSeen_143 (by decide) ?_
                        refine u_callV_3 dX7_readSeen_144 ml_X7_150 mv_X7_needWhole (by first | assumption | rfl | exact led_1 (by assumption) | exact led_2 (by assumption) | exact bk_m (by assumption) (by first | assumption | omega) | exact bk_p (by assumption) (by first | assumption | omega) | exact bk_o (by assumption) (by first | assumption | omega) | exact bk_s (by assumption) (by first | assumption | omega) | exact bk_1 (by assumption) | exact bk_2 (by assumption) | exact bk_3 (by assumption) | exact bk_4 (by assumption) | exact bk_5 (by assumption) | exact bk_6 (by assumption) | exact bk_7 (by assumption) | exact bk_8 (by assumption) | exact sh_ring _ (by first | assumption | omega) | exact sh_imgs _ (by first | assumption | omega)) (by decide) rfl (by decide) (Nat.le_of_ble_eq_true rfl) (c_X7_needWhole (i := 10) (lo := 1) (hi' := 4) (s := (nx tp sz (nx tp sz (nx tp sz (nx tp sz (nx tp sz (nx tp sz (nx tp sz s)))))))) (by decide) (by omega) (by omega) hR hT (fun f p q J9 M9 p1 p2 p3 => ?_) (fun v5 u5 q5 e5 l5 h5 J5 M5 r5 n5 f5 => ?_))
                        · refine v_if_ne (tgt := 152) dX7_readSeen_147 (by decide) (fun h => absurd rfl h) (fun _ => ?_)
                          refine v_iconst (v := nI 0) dX7_readSeen_150 (by decide) ?_
                          refine v_zret dX7_readSeen_151 (by first | rfl | exact bI_n _) rfl rfl rfl rfl ?_
                          exact hQ.1 f p (by rw [lSeen, bnd_r q1, bnd_r q2, bnd_r q3, bnd_r q4, bnd_l (show qHabit tp sz (nx tp sz (nx tp sz (nx tp sz (nx tp sz (nx tp sz (nx tp sz (nx tp sz s))))))) = .inl (f, p) by unfold qHabit; rw [if_pos hc136]; exact q)]) _ _ p1 p2 (hfr.fr9 p3)
                        · refine v_if_ne (tgt := 152) dX7_readSeen_147 (by decide) (fun _ => ?_) (fun h => absurd h (by decide))
                          subst e5
                          have hM := hM.fr9 hO f5 r5
                          have hN := hN.fr9 f5
                          have hfr := hfr.fr9 f5
                          have hT := hM.2.2.2.1
                          have hF := hM.2.2.2.2.1
                          have hc := (f5.1 (B + 35 + s.2.1 5) (by omega) (by omega)).trans hc
                          exact cut152 _ _ _ _ v5 hM hN hfr hc rfl (by omega) n5 (show qHabit tp sz (nx tp sz (nx tp sz (nx tp sz (nx tp sz (nx tp sz (nx tp sz (nx tp sz s))))))) = .inr (v5, _) by unfold qHabit; rw [if_pos hc136]; exact q5)
                    · exact absurd hc109 (by decide)
                · exact absurd hc87 (by decide)
            · exact absurd hc64 (by decide)
        · exact absurd hc21 (by decide)
theorem c_X7_readLetter (h : RdC I L R B tp sz s bf) (hQ : LQ I L R B tp sz (if s.2.1 0 = 0 then .inl (6, bf) else if s.2.1 6 < 8 then lLetter tp sz s else .inl (5, bf)) Q) : KK 7 mX7_readLetter b ad [.ref (b + 88)] I L R Q := by
  obtain ⟨hM, hPI, cnt, sl, hN, hC⟩ := h
  have hR := hM.1
  have hb2 := hM.2.1
  have hB := hM.2.2.1
  have hT := hM.2.2.2.1
  have hF := hM.2.2.2.2.1
  have hby := hT.by
  have hO := hPI.2.1
  have hK := hPI.2.2.2.2.2.2.1
  have h7 := hPI.2.2.1
  have o0 := hO.1
  have o1 := hO.2.1
  have o2 := hO.2.2.1
  have o3 := hO.2.2.2.1
  have o4 := hO.2.2.2.2.1
  have o5 := hO.2.2.2.2.2.1
  have o6 := hO.2.2.2.2.2.2.1
  have hbb := shB hB
  have hfr : FrB B I I L L := FrB.refl
  refine K.of (M := mX7_readLetter) (lv := [some (.ref (b + 88)), none, none]) (by decide) (Nat.le_of_ble_eq_true rfl) rfl ?_
  refine v_aload_0 dX7_readLetter_0 ?_
  refine v_aload_0 dX7_readLetter_1 ?_
  refine u_getR dX7_readLetter_2 gf_X7_73 (by first | assumption | rfl | exact led_1 (by assumption) | exact led_2 (by assumption) | exact bk_m (by assumption) (by first | assumption | omega) | exact bk_p (by assumption) (by first | assumption | omega) | exact bk_o (by assumption) (by first | assumption | omega) | exact bk_s (by assumption) (by first | assumption | omega) | exact bk_1 (by assumption) | exact bk_2 (by assumption) | exact bk_3 (by assumption) | exact bk_4 (by assumption) | exact bk_5 (by assumption) | exact bk_6 (by assumption) | exact bk_7 (by assumption) | exact bk_8 (by assumption) | exact sh_ring _ (by first | assumption | omega) | exact sh_imgs _ (by first | assumption | omega)) (by assumption) ?_
  refine u_getI dX7_readLetter_5 gf_X7_293 (by first | assumption | rfl | exact led_1 (by assumption) | exact led_2 (by assumption) | exact bk_m (by assumption) (by first | assumption | omega) | exact bk_p (by assumption) (by first | assumption | omega) | exact bk_o (by assumption) (by first | assumption | omega) | exact bk_s (by assumption) (by first | assumption | omega) | exact bk_1 (by assumption) | exact bk_2 (by assumption) | exact bk_3 (by assumption) | exact bk_4 (by assumption) | exact bk_5 (by assumption) | exact bk_6 (by assumption) | exact bk_7 (by assumption) | exact bk_8 (by assumption) | exact sh_ring _ (by first | assumption | omega) | exact sh_imgs _ (by first | assumption | omega)) ?_
  (try rw [bx6 hF])
  refine v_bipush (v := nI 8) dX7_readLetter_8 (by decide) ?_
  refine u_callV_2 dX7_readLetter_10 ml_X7_220 mv_X7_needRoom (by first | assumption | rfl | exact led_1 (by assumption) | exact led_2 (by assumption) | exact bk_m (by assumption) (by first | assumption | omega) | exact bk_p (by assumption) (by first | assumption | omega) | exact bk_o (by assumption) (by first | assumption | omega) | exact bk_s (by assumption) (by first | assumption | omega) | exact bk_1 (by assumption) | exact bk_2 (by assumption) | exact bk_3 (by assumption) | exact bk_4 (by assumption) | exact bk_5 (by assumption) | exact bk_6 (by assumption) | exact bk_7 (by assumption) | exact bk_8 (by assumption) | exact sh_ring _ (by first | assumption | omega) | exact sh_imgs _ (by first | assumption | omega)) (by decide) rfl (by decide) (Nat.le_of_ble_eq_true rfl) (c_X7_needRoom (n := s.2.1 6) (most := 8) (d := s.2.1 0) hR hb2 hB (bx0 hF) (by omega) (by omega) (by omega) hT (fun q0 J p1 p2 p3 => ?_) (fun q0 q9 J p1 p2 p3 => ?_) (fun q0 q9 => ?_))
  · refine v_if_eq (tgt := 24) dX7_readLetter_13 (by decide) (fun hc13 => ?_) (fun hc13 => ?_)
    · (first | rw [bI_0, Bool.not_eq_false] at hc13 | rw [bI_0] at hc13 | rw [show (0 : Int32) = nI 0 from rfl, nI_eq (by omega) (by omega)] at hc13 | skip)
      refine v_iconst (v := nI 0) dX7_readLetter_24 (by decide) ?_
      refine v_zret dX7_readLetter_25 (by first | rfl | exact bI_n _) rfl rfl rfl rfl ?_
      exact hQ.1 6 _ (if_pos q0) _ _ p1 p2 (hfr.fr9 p3)
    · exact absurd rfl hc13
  · refine v_if_eq (tgt := 24) dX7_readLetter_13 (by decide) (fun hc13 => ?_) (fun hc13 => ?_)
    · (first | rw [bI_0, Bool.not_eq_false] at hc13 | rw [bI_0] at hc13 | rw [show (0 : Int32) = nI 0 from rfl, nI_eq (by omega) (by omega)] at hc13 | skip)
      refine v_iconst (v := nI 0) dX7_readLetter_24 (by decide) ?_
      refine v_zret dX7_readLetter_25 (by first | rfl | exact bI_n _) rfl rfl rfl rfl ?_
      exact hQ.1 5 _ (by rw [if_neg q0, if_neg q9]) _ _ p1 p2 (hfr.fr9 p3)
    · exact absurd rfl hc13
  · rw [if_neg q0, if_pos q9] at hQ
    refine v_if_eq (tgt := 24) dX7_readLetter_13 (by decide) (fun hc13 => ?_) (fun hc13 => ?_)
    · exact absurd hc13 (by decide)
    · (first | rw [bI_0, Bool.not_eq_false] at hc13 | rw [bI_0] at hc13 | rw [show (0 : Int32) = nI 0 from rfl, nI_eq (by omega) (by omega)] at hc13 | skip)
      refine v_aload_0 dX7_readLetter_16 ?_
      refine v_iconst (v := nI 1) dX7_readLetter_17 (by decide) ?_
      refine u_callV_1 dX7_readLetter_18 ml_X7_211 mv_X7_needTold (by first | assumption | rfl | exact led_1 (by assumption) | exact led_2 (by assumption) | exact bk_m (by assumption) (by first | assumption | omega) | exact bk_p (by assumption) (by first | assumption | omega) | exact bk_o (by assumption) (by first | assumption | omega) | exact bk_s (by assumption) (by first | assumption | omega) | exact bk_1 (by assumption) | exact bk_2 (by assumption) | exact bk_3 (by assumption) | exact bk_4 (by assumption) | exact bk_5 (by assumption) | exact bk_6 (by assumption) | exact bk_7 (by assumption) | exact bk_8 (by assumption) | exact sh_ring _ (by first | assumption | omega) | exact sh_imgs _ (by first | assumption | omega)) (by decide) rfl (by decide) (Nat.le_of_ble_eq_true rfl) (c_X7_needTold (t := 1) (s := s) (by decide) hR hN hC hK hT (fun f p q J M p1 p2 p3 => ?_) (fun v1 u1 q1 e1 l1 J1 M1 r1 n1 f1 => ?_))
      · refine v_if_ne (tgt := 26) dX7_readLetter_21 (by decide) (fun hc21 => ?_) (fun hc21 => ?_)
        · exact absurd rfl hc21
        · (first | rw [bI_0, Bool.not_eq_false] at hc21 | rw [bI_0] at hc21 | rw [show (0 : Int32) = nI 0 from rfl, nI_eq (by omega) (by omega)] at hc21 | skip)
          refine v_iconst (v := nI 0) dX7_readLetter_24 (by decide) ?_
          refine v_zret dX7_readLetter_25 (by first | rfl | exact bI_n _) rfl rfl rfl rfl ?_
          exact hQ.1 f p (by rw [lLetter, bnd_l q]) _ _ p1 p2 (hfr.fr9 p3)
      · subst e1
        have hM := hM.fr9 hO f1 r1
        have hN := hN.fr9 f1
        have hfr := hfr.fr9 f1
        have hT := hM.2.2.2.1
        have hF := hM.2.2.2.2.1
        have t1 : v1 < s.2.1 2 := told_lt hPI (by decide) q1
        refine v_if_ne (tgt := 26) dX7_readLetter_21 (by decide) (fun hc21 => ?_) (fun hc21 => ?_)
        · (first | rw [bI_0, Bool.not_eq_false] at hc21 | rw [bI_0] at hc21 | rw [show (0 : Int32) = nI 0 from rfl, nI_eq (by omega) (by omega)] at hc21 | skip)
          refine v_aload_0 dX7_readLetter_26 ?_
          refine u_getI dX7_readLetter_27 gf_X7_154 (by first | assumption | rfl | exact led_1 (by assumption) | exact led_2 (by assumption) | exact bk_m (by assumption) (by first | assumption | omega) | exact bk_p (by assumption) (by first | assumption | omega) | exact bk_o (by assumption) (by first | assumption | omega) | exact bk_s (by assumption) (by first | assumption | omega) | exact bk_1 (by assumption) | exact bk_2 (by assumption) | exact bk_3 (by assumption) | exact bk_4 (by assumption) | exact bk_5 (by assumption) | exact bk_6 (by assumption) | exact bk_7 (by assumption) | exact bk_8 (by assumption) | exact sh_ring _ (by first | assumption | omega) | exact sh_imgs _ (by first | assumption | omega)) ?_
          rw [n1]
          refine v_istore_1 rfl dX7_readLetter_30 ?_
          refine v_aload_0 dX7_readLetter_31 ?_
          refine v_ldcSw (i := 24) dX7_readLetter_32 (by decide) rfl rfl ?_
          refine u_callV_1 dX7_readLetter_35 ml_X7_261 mv_X7_needWord (by first | assumption | rfl | exact led_1 (by assumption) | exact led_2 (by assumption) | exact bk_m (by assumption) (by first | assumption | omega) | exact bk_p (by assumption) (by first | assumption | omega) | exact bk_o (by assumption) (by first | assumption | omega) | exact bk_s (by assumption) (by first | assumption | omega) | exact bk_1 (by assumption) | exact bk_2 (by assumption) | exact bk_3 (by assumption) | exact bk_4 (by assumption) | exact bk_5 (by assumption) | exact bk_6 (by assumption) | exact bk_7 (by assumption) | exact bk_8 (by assumption) | exact sh_ring _ (by first | assumption | omega) | exact sh_imgs _ (by first | assumption | omega)) (by decide) rfl (by decide) (Nat.le_of_ble_eq_true rfl) (c_X7_needWord (i := 24) (s := (nx tp sz s)) (by decide) hR hT (fun f p q J M p1 p2 p3 => ?_) (fun u2 q2 e2 J2 M2 r2 f2 => ?_))
          · refine v_if_eq (tgt := 49) dX7_readLetter_38 (by decide) (fun hc38 => ?_) (fun hc38 => ?_)
            · (first | rw [bI_0, Bool.not_eq_false] at hc38 | rw [bI_0] at hc38 | rw [show (0 : Int32) = nI 0 from rfl, nI_eq (by omega) (by omega)] at hc38 | skip)
              refine v_iconst (v := nI 0) dX7_readLetter_49 (by decide) ?_
              refine v_zret dX7_readLetter_50 (by first | rfl | exact bI_n _) rfl rfl rfl rfl ?_
              exact hQ.1 f p (by rw [lLetter, bnd_r q1, bnd_l q]) _ _ p1 p2 (hfr.fr9 p3)
            · exact absurd rfl hc38
          · subst e2
            have hM := hM.fr9 hO f2 r2
            have hN := hN.fr9 f2
            have hfr := hfr.fr9 f2
            have hT := hM.2.2.2.1
            have hF := hM.2.2.2.2.1
            refine v_if_eq (tgt := 49) dX7_readLetter_38 (by decide) (fun hc38 => ?_) (fun hc38 => ?_)
            · exact absurd hc38 (by decide)
            · (first | rw [bI_0, Bool.not_eq_false] at hc38 | rw [bI_0] at hc38 | rw [show (0 : Int32) = nI 0 from rfl, nI_eq (by omega) (by omega)] at hc38 | skip)
              refine v_aload_0 dX7_readLetter_41 ?_
              refine v_iconst (v := nI 1) dX7_readLetter_42 (by decide) ?_
              refine u_callV_1 dX7_readLetter_43 ml_X7_211 mv_X7_needTold (by first | assumption | rfl | exact led_1 (by assumption) | exact led_2 (by assumption) | exact bk_m (by assumption) (by first | assumption | omega) | exact bk_p (by assumption) (by first | assumption | omega) | exact bk_o (by assumption) (by first | assumption | omega) | exact bk_s (by assumption) (by first | assumption | omega) | exact bk_1 (by assumption) | exact bk_2 (by assumption) | exact bk_3 (by assumption) | exact bk_4 (by assumption) | exact bk_5 (by assumption) | exact bk_6 (by assumption) | exact bk_7 (by assumption) | exact bk_8 (by assumption) | exact sh_ring _ (by first | assumption | omega) | exact sh_imgs _ (by first | assumption | omega)) (by decide) rfl (by decide) (Nat.le_of_ble_eq_true rfl) (c_X7_needTold (t := 1) (s := (nx tp sz (nx tp sz s))) (by decide) hR hN hC hK hT (fun f p q J M p1 p2 p3 => ?_) (fun v3 u3 q3 e3 l3 J3 M3 r3 n3 f3 => ?_))
              · refine v_if_ne (tgt := 51) dX7_readLetter_46 (by decide) (fun hc46 => ?_) (fun hc46 => ?_)
                · exact absurd rfl hc46
                · (first | rw [bI_0, Bool.not_eq_false] at hc46 | rw [bI_0] at hc46 | rw [show (0 : Int32) = nI 0 from rfl, nI_eq (by omega) (by omega)] at hc46 | skip)
                  refine v_iconst (v := nI 0) dX7_readLetter_49 (by decide) ?_
                  refine v_zret dX7_readLetter_50 (by first | rfl | exact bI_n _) rfl rfl rfl rfl ?_
                  exact hQ.1 f p (by rw [lLetter, bnd_r q1, bnd_r q2, bnd_l (qTold_butl q)]) _ _ p1 p2 (hfr.fr9 p3)
              · subst e3
                have hM := hM.fr9 hO f3 r3
                have hN := hN.fr9 f3
                have hfr := hfr.fr9 f3
                have hT := hM.2.2.2.1
                have hF := hM.2.2.2.2.1
                have t3 : v3 < s.2.1 2 := told_lt (hPI.ad ((ad_nx hby hPI.1).trans (ad_nx hby (ad_nx hby hPI.1).2.2))) (by decide) q3
                have hBu := qTold_but (but := 2 ^ v1) q3
                refine v_if_ne (tgt := 51) dX7_readLetter_46 (by decide) (fun hc46 => ?_) (fun hc46 => ?_)
                · (first | rw [bI_0, Bool.not_eq_false] at hc46 | rw [bI_0] at hc46 | rw [show (0 : Int32) = nI 0 from rfl, nI_eq (by omega) (by omega)] at hc46 | skip)
                  refine v_aload_0 dX7_readLetter_51 ?_
                  refine u_getI dX7_readLetter_52 gf_X7_154 (by first | assumption | rfl | exact led_1 (by assumption) | exact led_2 (by assumption) | exact bk_m (by assumption) (by first | assumption | omega) | exact bk_p (by assumption) (by first | assumption | omega) | exact bk_o (by assumption) (by first | assumption | omega) | exact bk_s (by assumption) (by first | assumption | omega) | exact bk_1 (by assumption) | exact bk_2 (by assumption) | exact bk_3 (by assumption) | exact bk_4 (by assumption) | exact bk_5 (by assumption) | exact bk_6 (by assumption) | exact bk_7 (by assumption) | exact bk_8 (by assumption) | exact sh_ring _ (by first | assumption | omega) | exact sh_imgs _ (by first | assumption | omega)) ?_
                  rw [n3]
                  refine v_iload_1 dX7_readLetter_55 ?_
                  refine v_icmp_ne (tgt := 65) dX7_readLetter_56 (by decide) (fun hc56 => ?_) (fun hc56 => ?_)
                  · (try rw [nI_eq (by omega) (by omega)] at hc56)
                    rw [if_neg (by rw [Nat.testBit_two_pow]; simp only [decide_eq_true_eq]; omega)] at hBu
                    refine v_aload_0 dX7_readLetter_65 ?_
                    refine u_getI dX7_readLetter_66 gf_X7_154 (by first | assumption | rfl | exact led_1 (by assumption) | exact led_2 (by assumption) | exact bk_m (by assumption) (by first | assumption | omega) | exact bk_p (by assumption) (by first | assumption | omega) | exact bk_o (by assumption) (by first | assumption | omega) | exact bk_s (by assumption) (by first | assumption | omega) | exact bk_1 (by assumption) | exact bk_2 (by assumption) | exact bk_3 (by assumption) | exact bk_4 (by assumption) | exact bk_5 (by assumption) | exact bk_6 (by assumption) | exact bk_7 (by assumption) | exact bk_8 (by assumption) | exact sh_ring _ (by first | assumption | omega) | exact sh_imgs _ (by first | assumption | omega)) ?_
                    rw [n3]
                    refine v_istore_2 rfl dX7_readLetter_69 ?_
                    refine v_aload_0 dX7_readLetter_70 ?_
                    refine v_ldcS (i := 20) dX7_readLetter_71 (by decide) rfl rfl ?_
                    refine v_iconst (v := nI 1) dX7_readLetter_73 (by decide) ?_
                    refine v_aload_0 dX7_readLetter_74 ?_
                    refine u_getR dX7_readLetter_75 gf_X7_73 (by first | assumption | rfl | exact led_1 (by assumption) | exact led_2 (by assumption) | exact bk_m (by assumption) (by first | assumption | omega) | exact bk_p (by assumption) (by first | assumption | omega) | exact bk_o (by assumption) (by first | assumption | omega) | exact bk_s (by assumption) (by first | assumption | omega) | exact bk_1 (by assumption) | exact bk_2 (by assumption) | exact bk_3 (by assumption) | exact bk_4 (by assumption) | exact bk_5 (by assumption) | exact bk_6 (by assumption) | exact bk_7 (by assumption) | exact bk_8 (by assumption) | exact sh_ring _ (by first | assumption | omega) | exact sh_imgs _ (by first | assumption | omega)) (by assumption) ?_
                    refine u_getI dX7_readLetter_78 gf_X7_106 (by first | assumption | rfl | exact led_1 (by assumption) | exact led_2 (by assumption) | exact bk_m (by assumption) (by first | assumption | omega) | exact bk_p (by assumption) (by first | assumption | omega) | exact bk_o (by assumption) (by first | assumption | omega) | exact bk_s (by assumption) (by first | assumption | omega) | exact bk_1 (by assumption) | exact bk_2 (by assumption) | exact bk_3 (by assumption) | exact bk_4 (by assumption) | exact bk_5 (by assumption) | exact bk_6 (by assumption) | exact bk_7 (by assumption) | exact bk_8 (by assumption) | exact sh_ring _ (by first | assumption | omega) | exact sh_imgs _ (by first | assumption | omega)) ?_
                    (try rw [bx0 hF])
                    refine u_callV_3 dX7_readLetter_81 ml_X7_150 mv_X7_needWhole (by first | assumption | rfl | exact led_1 (by assumption) | exact led_2 (by assumption) | exact bk_m (by assumption) (by first | assumption | omega) | exact bk_p (by assumption) (by first | assumption | omega) | exact bk_o (by assumption) (by first | assumption | omega) | exact bk_s (by assumption) (by first | assumption | omega) | exact bk_1 (by assumption) | exact bk_2 (by assumption) | exact bk_3 (by assumption) | exact bk_4 (by assumption) | exact bk_5 (by assumption) | exact bk_6 (by assumption) | exact bk_7 (by assumption) | exact bk_8 (by assumption) | exact sh_ring _ (by first | assumption | omega) | exact sh_imgs _ (by first | assumption | omega)) (by decide) rfl (by decide) (Nat.le_of_ble_eq_true rfl) (c_X7_needWhole (i := 20) (lo := 1) (hi' := s.2.1 0) (s := (nx tp sz (nx tp sz (nx tp sz s)))) (by decide) (by omega) (by omega) hR hT (fun f p q J M p1 p2 p3 => ?_) (fun v4 u4 q4 e4 l4 h4 J4 M4 r4 n4 f4 => ?_))
                    · refine v_if_ne (tgt := 89) dX7_readLetter_84 (by decide) (fun hc84 => ?_) (fun hc84 => ?_)
                      · exact absurd rfl hc84
                      · (first | rw [bI_0, Bool.not_eq_false] at hc84 | rw [bI_0] at hc84 | rw [show (0 : Int32) = nI 0 from rfl, nI_eq (by omega) (by omega)] at hc84 | skip)
                        refine v_iconst (v := nI 0) dX7_readLetter_87 (by decide) ?_
                        refine v_zret dX7_readLetter_88 (by first | rfl | exact bI_n _) rfl rfl rfl rfl ?_
                        exact hQ.1 f p (by rw [lLetter, bnd_r q1, bnd_r q2, bnd_r hBu, bnd_l q]) _ _ p1 p2 (hfr.fr9 p3)
                    · subst e4
                      have hM := hM.fr9 hO f4 r4
                      have hN := hN.fr9 f4
                      have hfr := hfr.fr9 f4
                      have hT := hM.2.2.2.1
                      have hF := hM.2.2.2.2.1
                      refine v_if_ne (tgt := 89) dX7_readLetter_84 (by decide) (fun hc84 => ?_) (fun hc84 => ?_)
                      · (first | rw [bI_0, Bool.not_eq_false] at hc84 | rw [bI_0] at hc84 | rw [show (0 : Int32) = nI 0 from rfl, nI_eq (by omega) (by omega)] at hc84 | skip)
                        refine v_aload_0 dX7_readLetter_89 ?_
                        refine u_getR dX7_readLetter_90 gf_X7_73 (by first | assumption | rfl | exact led_1 (by assumption) | exact led_2 (by assumption) | exact bk_m (by assumption) (by first | assumption | omega) | exact bk_p (by assumption) (by first | assumption | omega) | exact bk_o (by assumption) (by first | assumption | omega) | exact bk_s (by assumption) (by first | assumption | omega) | exact bk_1 (by assumption) | exact bk_2 (by assumption) | exact bk_3 (by assumption) | exact bk_4 (by assumption) | exact bk_5 (by assumption) | exact bk_6 (by assumption) | exact bk_7 (by assumption) | exact bk_8 (by assumption) | exact sh_ring _ (by first | assumption | omega) | exact sh_imgs _ (by first | assumption | omega)) (by assumption) ?_
                        refine u_getR dX7_readLetter_93 gf_X7_296 (by first | assumption | rfl | exact led_1 (by assumption) | exact led_2 (by assumption) | exact bk_m (by assumption) (by first | assumption | omega) | exact bk_p (by assumption) (by first | assumption | omega) | exact bk_o (by assumption) (by first | assumption | omega) | exact bk_s (by assumption) (by first | assumption | omega) | exact bk_1 (by assumption) | exact bk_2 (by assumption) | exact bk_3 (by assumption) | exact bk_4 (by assumption) | exact bk_5 (by assumption) | exact bk_6 (by assumption) | exact bk_7 (by assumption) | exact bk_8 (by assumption) | exact sh_ring _ (by first | assumption | omega) | exact sh_imgs _ (by first | assumption | omega)) (ro_X0_11 (by assumption) (by assumption)) ?_
                        refine v_aload_0 dX7_readLetter_96 ?_
                        refine u_getR dX7_readLetter_97 gf_X7_73 (by first | assumption | rfl | exact led_1 (by assumption) | exact led_2 (by assumption) | exact bk_m (by assumption) (by first | assumption | omega) | exact bk_p (by assumption) (by first | assumption | omega) | exact bk_o (by assumption) (by first | assumption | omega) | exact bk_s (by assumption) (by first | assumption | omega) | exact bk_1 (by assumption) | exact bk_2 (by assumption) | exact bk_3 (by assumption) | exact bk_4 (by assumption) | exact bk_5 (by assumption) | exact bk_6 (by assumption) | exact bk_7 (by assumption) | exact bk_8 (by assumption) | exact sh_ring _ (by first | assumption | omega) | exact sh_imgs _ (by first | assumption | omega)) (by assumption) ?_
                        refine u_getI dX7_readLetter_100 gf_X7_293 (by first | assumption | rfl | exact led_1 (by assumption) | exact led_2 (by assumption) | exact bk_m (by assumption) (by first | assumption | omega) | exact bk_p (by assumption) (by first | assumption | omega) | exact bk_o (by assumption) (by first | assumption | omega) | exact bk_s (by assumption) (by first | assumption | omega) | exact bk_1 (by assumption) | exact bk_2 (by assumption) | exact bk_3 (by assumption) | exact bk_4 (by assumption) | exact bk_5 (by assumption) | exact bk_6 (by assumption) | exact bk_7 (by assumption) | exact bk_8 (by assumption) | exact sh_ring _ (by first | assumption | omega) | exact sh_imgs _ (by first | assumption | omega)) ?_
                        (try rw [bx6 hF])
                        refine v_iload_1 dX7_readLetter_103 ?_
                        refine u_iast dX7_readLetter_104 (by first | assumption | rfl | exact led_1 (by assumption) | exact led_2 (by assumption) | exact bk_m (by assumption) (by first | assumption | omega) | exact bk_p (by assumption) (by first | assumption | omega) | exact bk_o (by assumption) (by first | assumption | omega) | exact bk_s (by assumption) (by first | assumption | omega) | exact bk_1 (by assumption) | exact bk_2 (by assumption) | exact bk_3 (by assumption) | exact bk_4 (by assumption) | exact bk_5 (by assumption) | exact bk_6 (by assumption) | exact bk_7 (by assumption) | exact bk_8 (by assumption) | exact sh_ring _ (by first | assumption | omega) | exact sh_imgs _ (by first | assumption | omega)) (by first | with_reducible rfl | (simp only [nlit, nI_add, pk_mul]; with_reducible rfl) | rfl) (by first | assumption | omega) (by first | assumption | decide) ?_
                        refine v_aload_0 dX7_readLetter_105 ?_
                        refine u_getR dX7_readLetter_106 gf_X7_73 (by first | assumption | rfl | exact led_1 (by assumption) | exact led_2 (by assumption) | exact bk_m (by assumption) (by first | assumption | omega) | exact bk_p (by assumption) (by first | assumption | omega) | exact bk_o (by assumption) (by first | assumption | omega) | exact bk_s (by assumption) (by first | assumption | omega) | exact bk_1 (by assumption) | exact bk_2 (by assumption) | exact bk_3 (by assumption) | exact bk_4 (by assumption) | exact bk_5 (by assumption) | exact bk_6 (by assumption) | exact bk_7 (by assumption) | exact bk_8 (by assumption) | exact sh_ring _ (by first | assumption | omega) | exact sh_imgs _ (by first | assumption | omega)) (by assumption) ?_
                        refine u_getR dX7_readLetter_109 gf_X7_299 (by first | assumption | rfl | exact led_1 (by assumption) | exact led_2 (by assumption) | exact bk_m (by assumption) (by first | assumption | omega) | exact bk_p (by assumption) (by first | assumption | omega) | exact bk_o (by assumption) (by first | assumption | omega) | exact bk_s (by assumption) (by first | assumption | omega) | exact bk_1 (by assumption) | exact bk_2 (by assumption) | exact bk_3 (by assumption) | exact bk_4 (by assumption) | exact bk_5 (by assumption) | exact bk_6 (by assumption) | exact bk_7 (by assumption) | exact bk_8 (by assumption) | exact sh_ring _ (by first | assumption | omega) | exact sh_imgs _ (by first | assumption | omega)) (ro_X0_12 (by assumption) (by assumption)) ?_
                        refine v_aload_0 dX7_readLetter_112 ?_
                        refine u_getR dX7_readLetter_113 gf_X7_73 (by first | assumption | rfl | exact led_1 (by assumption) | exact led_2 (by assumption) | exact bk_m (by assumption) (by first | assumption | omega) | exact bk_p (by assumption) (by first | assumption | omega) | exact bk_o (by assumption) (by first | assumption | omega) | exact bk_s (by assumption) (by first | assumption | omega) | exact bk_1 (by assumption) | exact bk_2 (by assumption) | exact bk_3 (by assumption) | exact bk_4 (by assumption) | exact bk_5 (by assumption) | exact bk_6 (by assumption) | exact bk_7 (by assumption) | exact bk_8 (by assumption) | exact sh_ring _ (by first | assumption | omega) | exact sh_imgs _ (by first | assumption | omega)) (by assumption) ?_
                        refine u_getI dX7_readLetter_116 gf_X7_293 (by first | assumption | rfl | exact led_1 (by assumption) | exact led_2 (by assumption) | exact bk_m (by assumption) (by first | assumption | omega) | exact bk_p (by assumption) (by first | assumption | omega) | exact bk_o (by assumption) (by first | assumption | omega) | exact bk_s (by assumption) (by first | assumption | omega) | exact bk_1 (by assumption) | exact bk_2 (by assumption) | exact bk_3 (by assumption) | exact bk_4 (by assumption) | exact bk_5 (by assumption) | exact bk_6 (by assumption) | exact bk_7 (by assumption) | exact bk_8 (by assumption) | exact sh_ring _ (by first | assumption | omega) | exact sh_imgs _ (by first | assumption | omega)) ?_
                        (try rw [bx6 hF])
                        rw [ui_ne (by omega), bx6 hF]
                        refine v_iload_2 dX7_readLetter_119 ?_
                        refine u_iast dX7_readLetter_120 (by first | assumption | rfl | exact led_1 (by assumption) | exact led_2 (by assumption) | exact bk_m (by assumption) (by first | assumption | omega) | exact bk_p (by assumption) (by first | assumption | omega) | exact bk_o (by assumption) (by first | assumption | omega) | exact bk_s (by assumption) (by first | assumption | omega) | exact bk_1 (by assumption) | exact bk_2 (by assumption) | exact bk_3 (by assumption) | exact bk_4 (by assumption) | exact bk_5 (by assumption) | exact bk_6 (by assumption) | exact bk_7 (by assumption) | exact bk_8 (by assumption) | exact sh_ring _ (by first | assumption | omega) | exact sh_imgs _ (by first | assumption | omega)) (by first | with_reducible rfl | (simp only [nlit, nI_add, pk_mul]; with_reducible rfl) | rfl) (by first | assumption | omega) (by first | assumption | decide) ?_
                        refine v_aload_0 dX7_readLetter_121 ?_
                        refine u_getR dX7_readLetter_122 gf_X7_73 (by first | assumption | rfl | exact led_1 (by assumption) | exact led_2 (by assumption) | exact bk_m (by assumption) (by first | assumption | omega) | exact bk_p (by assumption) (by first | assumption | omega) | exact bk_o (by assumption) (by first | assumption | omega) | exact bk_s (by assumption) (by first | assumption | omega) | exact bk_1 (by assumption) | exact bk_2 (by assumption) | exact bk_3 (by assumption) | exact bk_4 (by assumption) | exact bk_5 (by assumption) | exact bk_6 (by assumption) | exact bk_7 (by assumption) | exact bk_8 (by assumption) | exact sh_ring _ (by first | assumption | omega) | exact sh_imgs _ (by first | assumption | omega)) (by assumption) ?_
                        refine u_getR dX7_readLetter_125 gf_X7_302 (by first | assumption | rfl | exact led_1 (by assumption) | exact led_2 (by assumption) | exact bk_m (by assumption) (by first | assumption | omega) | exact bk_p (by assumption) (by first | assumption | omega) | exact bk_o (by assumption) (by first | assumption | omega) | exact bk_s (by assumption) (by first | assumption | omega) | exact bk_1 (by assumption) | exact bk_2 (by assumption) | exact bk_3 (by assumption) | exact bk_4 (by assumption) | exact bk_5 (by assumption) | exact bk_6 (by assumption) | exact bk_7 (by assumption) | exact bk_8 (by assumption) | exact sh_ring _ (by first | assumption | omega) | exact sh_imgs _ (by first | assumption | omega)) (ro_X0_13 (by assumption) (by assumption)) ?_
                        refine v_aload_0 dX7_readLetter_128 ?_
                        refine u_getR dX7_readLetter_129 gf_X7_73 (by first | assumption | rfl | exact led_1 (by assumption) | exact led_2 (by assumption) | exact bk_m (by assumption) (by first | assumption | omega) | exact bk_p (by assumption) (by first | assumption | omega) | exact bk_o (by assumption) (by first | assumption | omega) | exact bk_s (by assumption) (by first | assumption | omega) | exact bk_1 (by assumption) | exact bk_2 (by assumption) | exact bk_3 (by assumption) | exact bk_4 (by assumption) | exact bk_5 (by assumption) | exact bk_6 (by assumption) | exact bk_7 (by assumption) | exact bk_8 (by assumption) | exact sh_ring _ (by first | assumption | omega) | exact sh_imgs _ (by first | assumption | omega)) (by assumption) ?_
                        refine u_getI dX7_readLetter_132 gf_X7_293 (by first | assumption | rfl | exact led_1 (by assumption) | exact led_2 (by assumption) | exact bk_m (by assumption) (by first | assumption | omega) | exact bk_p (by assumption) (by first | assumption | omega) | exact bk_o (by assumption) (by first | assumption | omega) | exact bk_s (by assumption) (by first | assumption | omega) | exact bk_1 (by assumption) | exact bk_2 (by assumption) | exact bk_3 (by assumption) | exact bk_4 (by assumption) | exact bk_5 (by assumption) | exact bk_6 (by assumption) | exact bk_7 (by assumption) | exact bk_8 (by assumption) | exact sh_ring _ (by first | assumption | omega) | exact sh_imgs _ (by first | assumption | omega)) ?_
                        (try rw [bx6 hF])
                        rw [ui_ne (by omega), ui_ne (by omega), bx6 hF]
                        refine v_aload_0 dX7_readLetter_135 ?_
                        refine u_getI dX7_readLetter_136 gf_X7_154 (by first | assumption | rfl | exact led_1 (by assumption) | exact led_2 (by assumption) | exact bk_m (by assumption) (by first | assumption | omega) | exact bk_p (by assumption) (by first | assumption | omega) | exact bk_o (by assumption) (by first | assumption | omega) | exact bk_s (by assumption) (by first | assumption | omega) | exact bk_1 (by assumption) | exact bk_2 (by assumption) | exact bk_3 (by assumption) | exact bk_4 (by assumption) | exact bk_5 (by assumption) | exact bk_6 (by assumption) | exact bk_7 (by assumption) | exact bk_8 (by assumption) | exact sh_ring _ (by first | assumption | omega) | exact sh_imgs _ (by first | assumption | omega)) ?_
                        rw [ui_ne (by omega), ui_ne (by omega), n4]
                        refine u_iast dX7_readLetter_139 (by first | assumption | rfl | exact led_1 (by assumption) | exact led_2 (by assumption) | exact bk_m (by assumption) (by first | assumption | omega) | exact bk_p (by assumption) (by first | assumption | omega) | exact bk_o (by assumption) (by first | assumption | omega) | exact bk_s (by assumption) (by first | assumption | omega) | exact bk_1 (by assumption) | exact bk_2 (by assumption) | exact bk_3 (by assumption) | exact bk_4 (by assumption) | exact bk_5 (by assumption) | exact bk_6 (by assumption) | exact bk_7 (by assumption) | exact bk_8 (by assumption) | exact sh_ring _ (by first | assumption | omega) | exact sh_imgs _ (by first | assumption | omega)) (by first | with_reducible rfl | (simp only [nlit, nI_add, pk_mul]; with_reducible rfl) | rfl) (by first | assumption | omega) (by first | assumption | decide) ?_
                        refine v_aload_0 dX7_readLetter_140 ?_
                        refine u_getR dX7_readLetter_141 gf_X7_73 (by first | assumption | rfl | exact led_1 (by assumption) | exact led_2 (by assumption) | exact bk_m (by assumption) (by first | assumption | omega) | exact bk_p (by assumption) (by first | assumption | omega) | exact bk_o (by assumption) (by first | assumption | omega) | exact bk_s (by assumption) (by first | assumption | omega) | exact bk_1 (by assumption) | exact bk_2 (by assumption) | exact bk_3 (by assumption) | exact bk_4 (by assumption) | exact bk_5 (by assumption) | exact bk_6 (by assumption) | exact bk_7 (by assumption) | exact bk_8 (by assumption) | exact sh_ring _ (by first | assumption | omega) | exact sh_imgs _ (by first | assumption | omega)) (by assumption) ?_
                        refine v_dup dX7_readLetter_144 rfl ?_
                        refine u_getI dX7_readLetter_145 gf_X7_293 (by first | assumption | rfl | exact led_1 (by assumption) | exact led_2 (by assumption) | exact bk_m (by assumption) (by first | assumption | omega) | exact bk_p (by assumption) (by first | assumption | omega) | exact bk_o (by assumption) (by first | assumption | omega) | exact bk_s (by assumption) (by first | assumption | omega) | exact bk_1 (by assumption) | exact bk_2 (by assumption) | exact bk_3 (by assumption) | exact bk_4 (by assumption) | exact bk_5 (by assumption) | exact bk_6 (by assumption) | exact bk_7 (by assumption) | exact bk_8 (by assumption) | exact sh_ring _ (by first | assumption | omega) | exact sh_imgs _ (by first | assumption | omega)) ?_
                        (try rw [bx6 hF])
                        rw [ui_ne (by omega), ui_ne (by omega), ui_ne (by omega), bx6 hF]
                        refine v_iconst (v := nI 1) dX7_readLetter_148 (by decide) ?_
                        refine v_iadd dX7_readLetter_149 ?_
                        rw [nI_add]
                        refine u_putI dX7_readLetter_150 gf_X7_293 (by first | assumption | rfl | exact led_1 (by assumption) | exact led_2 (by assumption) | exact bk_m (by assumption) (by first | assumption | omega) | exact bk_p (by assumption) (by first | assumption | omega) | exact bk_o (by assumption) (by first | assumption | omega) | exact bk_s (by assumption) (by first | assumption | omega) | exact bk_1 (by assumption) | exact bk_2 (by assumption) | exact bk_3 (by assumption) | exact bk_4 (by assumption) | exact bk_5 (by assumption) | exact bk_6 (by assumption) | exact bk_7 (by assumption) | exact bk_8 (by assumption) | exact sh_ring _ (by first | assumption | omega) | exact sh_imgs _ (by first | assumption | omega)) rfl rfl rfl ?_
                        refine v_iconst (v := nI 1) dX7_readLetter_153 (by decide) ?_
                        refine v_zret dX7_readLetter_154 (by first | rfl | exact bI_n _) rfl rfl rfl rfl ?_
                        have hl : lLetter tp sz s = .inr (setS (nx tp sz (nx tp sz (nx tp sz (nx tp sz (nx tp sz s))))) (ltF s.2.1 v1 v3 v4)) := by
                          rw [lLetter, bnd_r q1, bnd_r q2, bnd_r hBu, bnd_r q4]
                          first | done | rfl
                        have hI := inv_letter hby hPI q0 q9 hl
                        obtain ⟨gc, ge, k0, k1, k2⟩ := lt_facts (F := s.2.1) (a := v1) (b := v3) (c := v4)
                        generalize ltF s.2.1 v1 v3 v4 = G at hl hI gc ge k0 k1 k2
                        have g1 := ge 1 (by omega) (by omega) (by omega) (by omega)
                        have g2 := ge 2 (by omega) (by omega) (by omega) (by omega)
                        have g3 := ge 3 (by omega) (by omega) (by omega) (by omega)
                        have g7 := ge 7 (by omega) (by omega) (by omega) (by omega)
                        have hx : ∀ x, x ≠ B → x ≠ B + 5 → x ≠ B + 6 → x ≠ B + 7 → ui (ui (ui (ui J4 (B + 5) (s.2.1 6) (nI v1)) (B + 6) (s.2.1 6) (nI v3)) (B + 7) (s.2.1 6) (nI v4)) B 6 (nI (s.2.1 6 + 1)) x = J4 x := fun x a0 a5 a6 a7 => by rw [ui_ne a0, ui_ne a7, ui_ne a6, ui_ne a5]
                        refine hQ.2 _ hl _ _ _ ⟨⟨hR, hb2, hB, hT.fr (hx _ (by omega) (by omega) (by omega) (by omega)) (hx _ (by omega) (by omega) (by omega) (by omega)) rfl, ?_, ?_, ?_⟩, hI.1, cnt, sl, (hN.fr (by rw [hx _ (by omega) (by omega) (by omega) (by omega)]) (hx _ (by omega) (by omega) (by omega) (by omega)) (hx _ (by omega) (by omega) (by omega) (by omega)) rfl).cong (fun x h => ge x (by omega) (by omega) (by omega) (by omega)), hC.cong g1 g2 g3⟩ ((((hfr.up (Or.inl ⟨by omega, by omega⟩) hB).up (Or.inl ⟨by omega, by omega⟩) hB).up (Or.inl ⟨by omega, by omega⟩) hB).up (Or.inl ⟨by omega, by omega⟩) hB)
                        · refine bk_letter hF hO q9 gc (fun x _ => ge x) (ui_s _ _ _ _) (fun j hj => by rw [ui_o hj, ui_ne (by omega), ui_ne (by omega), ui_ne (by omega)]) ⟨?_, ?_, ?_⟩ (fun l hl2 => ⟨?_, ?_, ?_⟩) (fun x a0 a5 a6 a7 _ _ => hx x a0 a5 a6 a7)
                          · rw [ui_ne (by omega), ui_ne (by omega), ui_ne (by omega), ui_s]; show _ = nI (G _); rw [k0]
                          · rw [ui_ne (by omega), ui_ne (by omega), ui_s]; show _ = nI (G _); rw [k1]
                          · rw [ui_ne (by omega), ui_s]; show _ = nI (G _); rw [k2]
                          · rw [ui_ne (by omega), ui_ne (by omega), ui_ne (by omega), ui_o (by omega)]
                          · rw [ui_ne (by omega), ui_ne (by omega), ui_o (by omega), ui_ne (by omega)]
                          · rw [ui_ne (by omega), ui_o (by omega), ui_ne (by omega), ui_ne (by omega)]
                        · exact hM.2.2.2.2.2.1.same (hx _ (by omega) (by omega) (by omega) (by omega)) (hx _ (by omega) (by omega) (by omega) (by omega)) (hx _ (by omega) (by omega) (by omega) (by omega))
                        · show _ = nI (G 7) ∧ _
                          rw [hx _ (by omega) (by omega) (by omega) (by omega), g7]; exact hM.2.2.2.2.2.2
                      · exact absurd hc84 (by decide)
                  · (try rw [nI_eq (by omega) (by omega)] at hc56)
                    refine v_aload_0 dX7_readLetter_59 ?_
                    refine v_iconst (v := nI 3) dX7_readLetter_60 (by decide) ?_
                    refine u_callV_1 dX7_readLetter_61 ml_X7_146 mv_X7_failBefore (by first | assumption | rfl | exact led_1 (by assumption) | exact led_2 (by assumption) | exact bk_m (by assumption) (by first | assumption | omega) | exact bk_p (by assumption) (by first | assumption | omega) | exact bk_o (by assumption) (by first | assumption | omega) | exact bk_s (by assumption) (by first | assumption | omega) | exact bk_1 (by assumption) | exact bk_2 (by assumption) | exact bk_3 (by assumption) | exact bk_4 (by assumption) | exact bk_5 (by assumption) | exact bk_6 (by assumption) | exact bk_7 (by assumption) | exact bk_8 (by assumption) | exact sh_ring _ (by first | assumption | omega) | exact sh_imgs _ (by first | assumption | omega)) (by decide) rfl (by decide) (Nat.le_of_ble_eq_true rfl) (c_X7_failBefore hR hT (fun J p1 p2 p3 p4 => ?_))
                    refine v_zret dX7_readLetter_64 (by first | rfl | exact bI_n _) rfl rfl rfl rfl ?_
                    rw [if_pos (by rw [hc56]; exact Nat.testBit_two_pow_self)] at hBu
                    exact hQ.1 3 _ (by rw [lLetter, bnd_r q1, bnd_r q2, bnd_l hBu]) _ _ p1 p2 (hfr.fr9 p3)
                · exact absurd hc46 (by decide)
        · exact absurd hc21 (by decide)
theorem c_X7_readLent (h : RdC I L R B tp sz s bf) (hQ : LQ I L R B tp sz (if s.2.1 0 = 0 then .inl (6, bf) else if s.2.2.1 < 12 then lLent tp sz s else .inl (5, bf)) Q) : KK 7 mX7_readLent b ad [.ref (b + 88)] I L R Q := by
  obtain ⟨hM, hPI, cnt, sl, hN, hC⟩ := h
  have hR := hM.1
  have hb2 := hM.2.1
  have hB := hM.2.2.1
  have hT := hM.2.2.2.1
  have hF := hM.2.2.2.2.1
  have hby := hT.by
  have hO := hPI.2.1
  have hK := hPI.2.2.2.2.2.2.1
  have h7 := hPI.2.2.1
  have o0 := hO.1
  have o1 := hO.2.1
  have o2 := hO.2.2.1
  have o3 := hO.2.2.2.1
  have o4 := hO.2.2.2.2.1
  have o5 := hO.2.2.2.2.2.1
  have o6 := hO.2.2.2.2.2.2.1
  have hbb := shB hB
  have hfr : FrB B I I L L := FrB.refl
  have hLe := hM.2.2.2.2.2.1
  have h12 := hPI.2.2.2.2.1
  refine K.of (M := mX7_readLent) (lv := [some (.ref (b + 88)), none, none, none]) (by decide) (Nat.le_of_ble_eq_true rfl) rfl ?_
  refine v_aload_0 dX7_readLent_0 ?_
  refine v_aload_0 dX7_readLent_1 ?_
  refine u_getR dX7_readLent_2 gf_X7_73 (by first | assumption | rfl | exact led_1 (by assumption) | exact led_2 (by assumption) | exact bk_m (by assumption) (by first | assumption | omega) | exact bk_p (by assumption) (by first | assumption | omega) | exact bk_o (by assumption) (by first | assumption | omega) | exact bk_s (by assumption) (by first | assumption | omega) | exact bk_1 (by assumption) | exact bk_2 (by assumption) | exact bk_3 (by assumption) | exact bk_4 (by assumption) | exact bk_5 (by assumption) | exact bk_6 (by assumption) | exact bk_7 (by assumption) | exact bk_8 (by assumption) | exact sh_ring _ (by first | assumption | omega) | exact sh_imgs _ (by first | assumption | omega)) (by assumption) ?_
  refine u_getR dX7_readLent_5 gf_X7_250 (by first | assumption | rfl | exact led_1 (by assumption) | exact led_2 (by assumption) | exact bk_m (by assumption) (by first | assumption | omega) | exact bk_p (by assumption) (by first | assumption | omega) | exact bk_o (by assumption) (by first | assumption | omega) | exact bk_s (by assumption) (by first | assumption | omega) | exact bk_1 (by assumption) | exact bk_2 (by assumption) | exact bk_3 (by assumption) | exact bk_4 (by assumption) | exact bk_5 (by assumption) | exact bk_6 (by assumption) | exact bk_7 (by assumption) | exact bk_8 (by assumption) | exact sh_ring _ (by first | assumption | omega) | exact sh_imgs _ (by first | assumption | omega)) (ro_X0_14 (by assumption) (by assumption)) ?_
  refine u_getI dX7_readLent_8 gf_X7_254 (by first | assumption | rfl | exact led_1 (by assumption) | exact led_2 (by assumption) | exact bk_m (by assumption) (by first | assumption | omega) | exact bk_p (by assumption) (by first | assumption | omega) | exact bk_o (by assumption) (by first | assumption | omega) | exact bk_s (by assumption) (by first | assumption | omega) | exact bk_1 (by assumption) | exact bk_2 (by assumption) | exact bk_3 (by assumption) | exact bk_4 (by assumption) | exact bk_5 (by assumption) | exact bk_6 (by assumption) | exact bk_7 (by assumption) | exact bk_8 (by assumption) | exact sh_ring _ (by first | assumption | omega) | exact sh_imgs _ (by first | assumption | omega)) ?_
  rw [hLe.1.1]
  refine v_bipush (v := nI 12) dX7_readLent_11 (by decide) ?_
  refine u_callV_2 dX7_readLent_13 ml_X7_220 mv_X7_needRoom (by first | assumption | rfl | exact led_1 (by assumption) | exact led_2 (by assumption) | exact bk_m (by assumption) (by first | assumption | omega) | exact bk_p (by assumption) (by first | assumption | omega) | exact bk_o (by assumption) (by first | assumption | omega) | exact bk_s (by assumption) (by first | assumption | omega) | exact bk_1 (by assumption) | exact bk_2 (by assumption) | exact bk_3 (by assumption) | exact bk_4 (by assumption) | exact bk_5 (by assumption) | exact bk_6 (by assumption) | exact bk_7 (by assumption) | exact bk_8 (by assumption) | exact sh_ring _ (by first | assumption | omega) | exact sh_imgs _ (by first | assumption | omega)) (by decide) rfl (by decide) (Nat.le_of_ble_eq_true rfl) (c_X7_needRoom (n := s.2.2.1) (most := 12) (d := s.2.1 0) hR hb2 hB (bx0 hF) (by omega) (by omega) (by omega) hT (fun q0 J p1 p2 p3 => ?_) (fun q0 q9 J p1 p2 p3 => ?_) (fun q0 q9 => ?_))
  · refine v_if_eq (tgt := 27) dX7_readLent_16 (by decide) (fun hc16 => ?_) (fun hc16 => ?_)
    · (first | rw [bI_0, Bool.not_eq_false] at hc16 | rw [bI_0] at hc16 | rw [show (0 : Int32) = nI 0 from rfl, nI_eq (by omega) (by omega)] at hc16 | skip)
      refine v_iconst (v := nI 0) dX7_readLent_27 (by decide) ?_
      refine v_zret dX7_readLent_28 (by first | rfl | exact bI_n _) rfl rfl rfl rfl ?_
      exact hQ.1 6 _ (if_pos q0) _ _ p1 p2 (hfr.fr9 p3)
    · exact absurd rfl hc16
  · refine v_if_eq (tgt := 27) dX7_readLent_16 (by decide) (fun hc16 => ?_) (fun hc16 => ?_)
    · (first | rw [bI_0, Bool.not_eq_false] at hc16 | rw [bI_0] at hc16 | rw [show (0 : Int32) = nI 0 from rfl, nI_eq (by omega) (by omega)] at hc16 | skip)
      refine v_iconst (v := nI 0) dX7_readLent_27 (by decide) ?_
      refine v_zret dX7_readLent_28 (by first | rfl | exact bI_n _) rfl rfl rfl rfl ?_
      exact hQ.1 5 _ (by rw [if_neg q0, if_neg q9]) _ _ p1 p2 (hfr.fr9 p3)
    · exact absurd rfl hc16
  · rw [if_neg q0, if_pos q9] at hQ
    refine v_if_eq (tgt := 27) dX7_readLent_16 (by decide) (fun hc16 => ?_) (fun hc16 => ?_)
    · exact absurd hc16 (by decide)
    · (first | rw [bI_0, Bool.not_eq_false] at hc16 | rw [bI_0] at hc16 | rw [show (0 : Int32) = nI 0 from rfl, nI_eq (by omega) (by omega)] at hc16 | skip)
      refine v_aload_0 dX7_readLent_19 ?_
      refine v_iconst (v := nI 1) dX7_readLent_20 (by decide) ?_
      refine u_callV_1 dX7_readLent_21 ml_X7_211 mv_X7_needTold (by first | assumption | rfl | exact led_1 (by assumption) | exact led_2 (by assumption) | exact bk_m (by assumption) (by first | assumption | omega) | exact bk_p (by assumption) (by first | assumption | omega) | exact bk_o (by assumption) (by first | assumption | omega) | exact bk_s (by assumption) (by first | assumption | omega) | exact bk_1 (by assumption) | exact bk_2 (by assumption) | exact bk_3 (by assumption) | exact bk_4 (by assumption) | exact bk_5 (by assumption) | exact bk_6 (by assumption) | exact bk_7 (by assumption) | exact bk_8 (by assumption) | exact sh_ring _ (by first | assumption | omega) | exact sh_imgs _ (by first | assumption | omega)) (by decide) rfl (by decide) (Nat.le_of_ble_eq_true rfl) (c_X7_needTold (t := 1) (s := s) (by decide) hR hN hC hK hT (fun f p q J M p1 p2 p3 => ?_) (fun v1 u1 q1 e1 l1 J1 M1 r1 n1 f1 => ?_))
      · refine v_if_ne (tgt := 29) dX7_readLent_24 (by decide) (fun hc24 => ?_) (fun hc24 => ?_)
        · exact absurd rfl hc24
        · (first | rw [bI_0, Bool.not_eq_false] at hc24 | rw [bI_0] at hc24 | rw [show (0 : Int32) = nI 0 from rfl, nI_eq (by omega) (by omega)] at hc24 | skip)
          refine v_iconst (v := nI 0) dX7_readLent_27 (by decide) ?_
          refine v_zret dX7_readLent_28 (by first | rfl | exact bI_n _) rfl rfl rfl rfl ?_
          exact hQ.1 f p (by rw [lLent, bnd_l q]) _ _ p1 p2 (hfr.fr9 p3)
      · subst e1
        have hM := hM.fr9 hO f1 r1
        have hN := hN.fr9 f1
        have hfr := hfr.fr9 f1
        have hT := hM.2.2.2.1
        have hF := hM.2.2.2.2.1
        have t1 : v1 < s.2.1 2 := told_lt hPI (by decide) q1
        refine v_if_ne (tgt := 29) dX7_readLent_24 (by decide) (fun hc24 => ?_) (fun hc24 => ?_)
        · (first | rw [bI_0, Bool.not_eq_false] at hc24 | rw [bI_0] at hc24 | rw [show (0 : Int32) = nI 0 from rfl, nI_eq (by omega) (by omega)] at hc24 | skip)
          refine v_aload_0 dX7_readLent_29 ?_
          refine u_getI dX7_readLent_30 gf_X7_154 (by first | assumption | rfl | exact led_1 (by assumption) | exact led_2 (by assumption) | exact bk_m (by assumption) (by first | assumption | omega) | exact bk_p (by assumption) (by first | assumption | omega) | exact bk_o (by assumption) (by first | assumption | omega) | exact bk_s (by assumption) (by first | assumption | omega) | exact bk_1 (by assumption) | exact bk_2 (by assumption) | exact bk_3 (by assumption) | exact bk_4 (by assumption) | exact bk_5 (by assumption) | exact bk_6 (by assumption) | exact bk_7 (by assumption) | exact bk_8 (by assumption) | exact sh_ring _ (by first | assumption | omega) | exact sh_imgs _ (by first | assumption | omega)) ?_
          rw [n1]
          refine v_istore_1 rfl dX7_readLent_33 ?_
          refine v_aload_0 dX7_readLent_34 ?_
          refine v_ldcSw (i := 24) dX7_readLent_35 (by decide) rfl rfl ?_
          refine u_callV_1 dX7_readLent_38 ml_X7_261 mv_X7_needWord (by first | assumption | rfl | exact led_1 (by assumption) | exact led_2 (by assumption) | exact bk_m (by assumption) (by first | assumption | omega) | exact bk_p (by assumption) (by first | assumption | omega) | exact bk_o (by assumption) (by first | assumption | omega) | exact bk_s (by assumption) (by first | assumption | omega) | exact bk_1 (by assumption) | exact bk_2 (by assumption) | exact bk_3 (by assumption) | exact bk_4 (by assumption) | exact bk_5 (by assumption) | exact bk_6 (by assumption) | exact bk_7 (by assumption) | exact bk_8 (by assumption) | exact sh_ring _ (by first | assumption | omega) | exact sh_imgs _ (by first | assumption | omega)) (by decide) rfl (by decide) (Nat.le_of_ble_eq_true rfl) (c_X7_needWord (i := 24) (s := (nx tp sz s)) (by decide) hR hT (fun f p q J M p1 p2 p3 => ?_) (fun u2 q2 e2 J2 M2 r2 f2 => ?_))
          · refine v_if_eq (tgt := 52) dX7_readLent_41 (by decide) (fun hc41 => ?_) (fun hc41 => ?_)
            · (first | rw [bI_0, Bool.not_eq_false] at hc41 | rw [bI_0] at hc41 | rw [show (0 : Int32) = nI 0 from rfl, nI_eq (by omega) (by omega)] at hc41 | skip)
              refine v_iconst (v := nI 0) dX7_readLent_52 (by decide) ?_
              refine v_zret dX7_readLent_53 (by first | rfl | exact bI_n _) rfl rfl rfl rfl ?_
              exact hQ.1 f p (by rw [lLent, bnd_r q1, bnd_l q]) _ _ p1 p2 (hfr.fr9 p3)
            · exact absurd rfl hc41
          · subst e2
            have hM := hM.fr9 hO f2 r2
            have hN := hN.fr9 f2
            have hfr := hfr.fr9 f2
            have hT := hM.2.2.2.1
            have hF := hM.2.2.2.2.1
            refine v_if_eq (tgt := 52) dX7_readLent_41 (by decide) (fun hc41 => ?_) (fun hc41 => ?_)
            · exact absurd hc41 (by decide)
            · (first | rw [bI_0, Bool.not_eq_false] at hc41 | rw [bI_0] at hc41 | rw [show (0 : Int32) = nI 0 from rfl, nI_eq (by omega) (by omega)] at hc41 | skip)
              refine v_aload_0 dX7_readLent_44 ?_
              refine v_iconst (v := nI 2) dX7_readLent_45 (by decide) ?_
              refine u_callV_1 dX7_readLent_46 ml_X7_211 mv_X7_needTold (by first | assumption | rfl | exact led_1 (by assumption) | exact led_2 (by assumption) | exact bk_m (by assumption) (by first | assumption | omega) | exact bk_p (by assumption) (by first | assumption | omega) | exact bk_o (by assumption) (by first | assumption | omega) | exact bk_s (by assumption) (by first | assumption | omega) | exact bk_1 (by assumption) | exact bk_2 (by assumption) | exact bk_3 (by assumption) | exact bk_4 (by assumption) | exact bk_5 (by assumption) | exact bk_6 (by assumption) | exact bk_7 (by assumption) | exact bk_8 (by assumption) | exact sh_ring _ (by first | assumption | omega) | exact sh_imgs _ (by first | assumption | omega)) (by decide) rfl (by decide) (Nat.le_of_ble_eq_true rfl) (c_X7_needTold (t := 2) (s := (nx tp sz (nx tp sz s))) (by decide) hR hN hC hK hT (fun f p q J M p1 p2 p3 => ?_) (fun v3 u3 q3 e3 l3 J3 M3 r3 n3 f3 => ?_))
              · refine v_if_ne (tgt := 54) dX7_readLent_49 (by decide) (fun hc49 => ?_) (fun hc49 => ?_)
                · exact absurd rfl hc49
                · (first | rw [bI_0, Bool.not_eq_false] at hc49 | rw [bI_0] at hc49 | rw [show (0 : Int32) = nI 0 from rfl, nI_eq (by omega) (by omega)] at hc49 | skip)
                  refine v_iconst (v := nI 0) dX7_readLent_52 (by decide) ?_
                  refine v_zret dX7_readLent_53 (by first | rfl | exact bI_n _) rfl rfl rfl rfl ?_
                  exact hQ.1 f p (by rw [lLent, bnd_r q1, bnd_r q2, bnd_l q]) _ _ p1 p2 (hfr.fr9 p3)
              · subst e3
                have hM := hM.fr9 hO f3 r3
                have hN := hN.fr9 f3
                have hfr := hfr.fr9 f3
                have hT := hM.2.2.2.1
                have hF := hM.2.2.2.2.1
                have t3 : v3 < s.2.1 3 := told_lt (hPI.ad ((ad_nx hby hPI.1).trans (ad_nx hby (ad_nx hby hPI.1).2.2))) (by decide) q3
                refine v_if_ne (tgt := 54) dX7_readLent_49 (by decide) (fun hc49 => ?_) (fun hc49 => ?_)
                · (first | rw [bI_0, Bool.not_eq_false] at hc49 | rw [bI_0] at hc49 | rw [show (0 : Int32) = nI 0 from rfl, nI_eq (by omega) (by omega)] at hc49 | skip)
                  refine v_aload_0 dX7_readLent_54 ?_
                  refine u_getI dX7_readLent_55 gf_X7_154 (by first | assumption | rfl | exact led_1 (by assumption) | exact led_2 (by assumption) | exact bk_m (by assumption) (by first | assumption | omega) | exact bk_p (by assumption) (by first | assumption | omega) | exact bk_o (by assumption) (by first | assumption | omega) | exact bk_s (by assumption) (by first | assumption | omega) | exact bk_1 (by assumption) | exact bk_2 (by assumption) | exact bk_3 (by assumption) | exact bk_4 (by assumption) | exact bk_5 (by assumption) | exact bk_6 (by assumption) | exact bk_7 (by assumption) | exact bk_8 (by assumption) | exact sh_ring _ (by first | assumption | omega) | exact sh_imgs _ (by first | assumption | omega)) ?_
                  rw [n3]
                  refine v_istore_2 rfl dX7_readLent_58 ?_
                  refine v_aload_0 dX7_readLent_59 ?_
                  refine v_ldcSw (i := 25) dX7_readLent_60 (by decide) rfl rfl ?_
                  refine v_iconst (v := nI 1) dX7_readLent_63 (by decide) ?_
                  refine v_aload_0 dX7_readLent_64 ?_
                  refine u_getR dX7_readLent_65 gf_X7_73 (by first | assumption | rfl | exact led_1 (by assumption) | exact led_2 (by assumption) | exact bk_m (by assumption) (by first | assumption | omega) | exact bk_p (by assumption) (by first | assumption | omega) | exact bk_o (by assumption) (by first | assumption | omega) | exact bk_s (by assumption) (by first | assumption | omega) | exact bk_1 (by assumption) | exact bk_2 (by assumption) | exact bk_3 (by assumption) | exact bk_4 (by assumption) | exact bk_5 (by assumption) | exact bk_6 (by assumption) | exact bk_7 (by assumption) | exact bk_8 (by assumption) | exact sh_ring _ (by first | assumption | omega) | exact sh_imgs _ (by first | assumption | omega)) (by assumption) ?_
                  refine u_getI dX7_readLent_68 gf_X7_106 (by first | assumption | rfl | exact led_1 (by assumption) | exact led_2 (by assumption) | exact bk_m (by assumption) (by first | assumption | omega) | exact bk_p (by assumption) (by first | assumption | omega) | exact bk_o (by assumption) (by first | assumption | omega) | exact bk_s (by assumption) (by first | assumption | omega) | exact bk_1 (by assumption) | exact bk_2 (by assumption) | exact bk_3 (by assumption) | exact bk_4 (by assumption) | exact bk_5 (by assumption) | exact bk_6 (by assumption) | exact bk_7 (by assumption) | exact bk_8 (by assumption) | exact sh_ring _ (by first | assumption | omega) | exact sh_imgs _ (by first | assumption | omega)) ?_
                  (try rw [bx0 hF])
                  refine u_callV_3 dX7_readLent_71 ml_X7_150 mv_X7_needWhole (by first | assumption | rfl | exact led_1 (by assumption) | exact led_2 (by assumption) | exact bk_m (by assumption) (by first | assumption | omega) | exact bk_p (by assumption) (by first | assumption | omega) | exact bk_o (by assumption) (by first | assumption | omega) | exact bk_s (by assumption) (by first | assumption | omega) | exact bk_1 (by assumption) | exact bk_2 (by assumption) | exact bk_3 (by assumption) | exact bk_4 (by assumption) | exact bk_5 (by assumption) | exact bk_6 (by assumption) | exact bk_7 (by assumption) | exact bk_8 (by assumption) | exact sh_ring _ (by first | assumption | omega) | exact sh_imgs _ (by first | assumption | omega)) (by decide) rfl (by decide) (Nat.le_of_ble_eq_true rfl) (c_X7_needWhole (i := 25) (lo := 1) (hi' := s.2.1 0) (s := (nx tp sz (nx tp sz (nx tp sz s)))) (by decide) (by omega) (by omega) hR hT (fun f p q J M p1 p2 p3 => ?_) (fun v4 u4 q4 e4 l4 h4 J4 M4 r4 n4 f4 => ?_))
                  · refine v_if_ne (tgt := 79) dX7_readLent_74 (by decide) (fun hc74 => ?_) (fun hc74 => ?_)
                    · exact absurd rfl hc74
                    · (first | rw [bI_0, Bool.not_eq_false] at hc74 | rw [bI_0] at hc74 | rw [show (0 : Int32) = nI 0 from rfl, nI_eq (by omega) (by omega)] at hc74 | skip)
                      refine v_iconst (v := nI 0) dX7_readLent_77 (by decide) ?_
                      refine v_zret dX7_readLent_78 (by first | rfl | exact bI_n _) rfl rfl rfl rfl ?_
                      exact hQ.1 f p (by rw [lLent, bnd_r q1, bnd_r q2, bnd_r q3, bnd_l q]) _ _ p1 p2 (hfr.fr9 p3)
                  · subst e4
                    have hM := hM.fr9 hO f4 r4
                    have hN := hN.fr9 f4
                    have hfr := hfr.fr9 f4
                    have hT := hM.2.2.2.1
                    have hF := hM.2.2.2.2.1
                    refine v_if_ne (tgt := 79) dX7_readLent_74 (by decide) (fun hc74 => ?_) (fun hc74 => ?_)
                    · (first | rw [bI_0, Bool.not_eq_false] at hc74 | rw [bI_0] at hc74 | rw [show (0 : Int32) = nI 0 from rfl, nI_eq (by omega) (by omega)] at hc74 | skip)
                      refine v_aload_0 dX7_readLent_79 ?_
                      refine u_getI dX7_readLent_80 gf_X7_154 (by first | assumption | rfl | exact led_1 (by assumption) | exact led_2 (by assumption) | exact bk_m (by assumption) (by first | assumption | omega) | exact bk_p (by assumption) (by first | assumption | omega) | exact bk_o (by assumption) (by first | assumption | omega) | exact bk_s (by assumption) (by first | assumption | omega) | exact bk_1 (by assumption) | exact bk_2 (by assumption) | exact bk_3 (by assumption) | exact bk_4 (by assumption) | exact bk_5 (by assumption) | exact bk_6 (by assumption) | exact bk_7 (by assumption) | exact bk_8 (by assumption) | exact sh_ring _ (by first | assumption | omega) | exact sh_imgs _ (by first | assumption | omega)) ?_
                      rw [n4]
                      refine v_istore_3 rfl dX7_readLent_83 ?_
                      refine v_aload_0 dX7_readLent_84 ?_
                      refine v_ldcSw (i := 26) dX7_readLent_85 (by decide) rfl rfl ?_
                      refine v_iload_3 dX7_readLent_88 ?_
                      refine v_aload_0 dX7_readLent_89 ?_
                      refine u_getR dX7_readLent_90 gf_X7_73 (by first | assumption | rfl | exact led_1 (by assumption) | exact led_2 (by assumption) | exact bk_m (by assumption) (by first | assumption | omega) | exact bk_p (by assumption) (by first | assumption | omega) | exact bk_o (by assumption) (by first | assumption | omega) | exact bk_s (by assumption) (by first | assumption | omega) | exact bk_1 (by assumption) | exact bk_2 (by assumption) | exact bk_3 (by assumption) | exact bk_4 (by assumption) | exact bk_5 (by assumption) | exact bk_6 (by assumption) | exact bk_7 (by assumption) | exact bk_8 (by assumption) | exact sh_ring _ (by first | assumption | omega) | exact sh_imgs _ (by first | assumption | omega)) (by assumption) ?_
                      refine u_getI dX7_readLent_93 gf_X7_106 (by first | assumption | rfl | exact led_1 (by assumption) | exact led_2 (by assumption) | exact bk_m (by assumption) (by first | assumption | omega) | exact bk_p (by assumption) (by first | assumption | omega) | exact bk_o (by assumption) (by first | assumption | omega) | exact bk_s (by assumption) (by first | assumption | omega) | exact bk_1 (by assumption) | exact bk_2 (by assumption) | exact bk_3 (by assumption) | exact bk_4 (by assumption) | exact bk_5 (by assumption) | exact bk_6 (by assumption) | exact bk_7 (by assumption) | exact bk_8 (by assumption) | exact sh_ring _ (by first | assumption | omega) | exact sh_imgs _ (by first | assumption | omega)) ?_
                      (try rw [bx0 hF])
                      refine u_callV_3 dX7_readLent_96 ml_X7_150 mv_X7_needWhole (by first | assumption | rfl | exact led_1 (by assumption) | exact led_2 (by assumption) | exact bk_m (by assumption) (by first | assumption | omega) | exact bk_p (by assumption) (by first | assumption | omega) | exact bk_o (by assumption) (by first | assumption | omega) | exact bk_s (by assumption) (by first | assumption | omega) | exact bk_1 (by assumption) | exact bk_2 (by assumption) | exact bk_3 (by assumption) | exact bk_4 (by assumption) | exact bk_5 (by assumption) | exact bk_6 (by assumption) | exact bk_7 (by assumption) | exact bk_8 (by assumption) | exact sh_ring _ (by first | assumption | omega) | exact sh_imgs _ (by first | assumption | omega)) (by decide) rfl (by decide) (Nat.le_of_ble_eq_true rfl) (c_X7_needWhole (i := 26) (lo := v4) (hi' := s.2.1 0) (s := (nx tp sz (nx tp sz (nx tp sz (nx tp sz (nx tp sz s)))))) (by decide) (by omega) (by omega) hR hT (fun f p q J M p1 p2 p3 => ?_) (fun v5 u5 q5 e5 l5 h5 J5 M5 r5 n5 f5 => ?_))
                      · refine v_if_ne (tgt := 104) dX7_readLent_99 (by decide) (fun hc99 => ?_) (fun hc99 => ?_)
                        · exact absurd rfl hc99
                        · (first | rw [bI_0, Bool.not_eq_false] at hc99 | rw [bI_0] at hc99 | rw [show (0 : Int32) = nI 0 from rfl, nI_eq (by omega) (by omega)] at hc99 | skip)
                          refine v_iconst (v := nI 0) dX7_readLent_102 (by decide) ?_
                          refine v_zret dX7_readLent_103 (by first | rfl | exact bI_n _) rfl rfl rfl rfl ?_
                          rcases qWhole_l q with z | ⟨z1, z2⟩
                          · exact hQ.1 f p (by rw [lLent, bnd_r q1, bnd_r q2, bnd_r q3, bnd_r q4, bnd_l z]) _ _ p1 p2 (hfr.fr9 p3)
                          · exact hQ.1 f p (by rw [lLent, bnd_r q1, bnd_r q2, bnd_r q3, bnd_r q4, bnd_r z1, bnd_l z2]) _ _ p1 p2 (hfr.fr9 p3)
                      · subst e5
                        have hM := hM.fr9 hO f5 r5
                        have hN := hN.fr9 f5
                        have hfr := hfr.fr9 f5
                        have hT := hM.2.2.2.1
                        have hF := hM.2.2.2.2.1
                        refine v_if_ne (tgt := 104) dX7_readLent_99 (by decide) (fun hc99 => ?_) (fun hc99 => ?_)
                        · (first | rw [bI_0, Bool.not_eq_false] at hc99 | rw [bI_0] at hc99 | rw [show (0 : Int32) = nI 0 from rfl, nI_eq (by omega) (by omega)] at hc99 | skip)
                          have hLe := hM.2.2.2.2.2.1
                          obtain ⟨z1, z2⟩ := qWhole_r q5
                          refine v_aload_0 dX7_readLent_104 ?_
                          refine u_getR dX7_readLent_105 gf_X7_73 (by first | assumption | rfl | exact led_1 (by assumption) | exact led_2 (by assumption) | exact bk_m (by assumption) (by first | assumption | omega) | exact bk_p (by assumption) (by first | assumption | omega) | exact bk_o (by assumption) (by first | assumption | omega) | exact bk_s (by assumption) (by first | assumption | omega) | exact bk_1 (by assumption) | exact bk_2 (by assumption) | exact bk_3 (by assumption) | exact bk_4 (by assumption) | exact bk_5 (by assumption) | exact bk_6 (by assumption) | exact bk_7 (by assumption) | exact bk_8 (by assumption) | exact sh_ring _ (by first | assumption | omega) | exact sh_imgs _ (by first | assumption | omega)) (by assumption) ?_
                          refine v_iload_1 dX7_readLent_108 ?_
                          refine v_iload_2 dX7_readLent_109 ?_
                          refine v_iload_3 dX7_readLent_110 ?_
                          refine v_aload_0 dX7_readLent_111 ?_
                          refine u_getI dX7_readLent_112 gf_X7_154 (by first | assumption | rfl | exact led_1 (by assumption) | exact led_2 (by assumption) | exact bk_m (by assumption) (by first | assumption | omega) | exact bk_p (by assumption) (by first | assumption | omega) | exact bk_o (by assumption) (by first | assumption | omega) | exact bk_s (by assumption) (by first | assumption | omega) | exact bk_1 (by assumption) | exact bk_2 (by assumption) | exact bk_3 (by assumption) | exact bk_4 (by assumption) | exact bk_5 (by assumption) | exact bk_6 (by assumption) | exact bk_7 (by assumption) | exact bk_8 (by assumption) | exact sh_ring _ (by first | assumption | omega) | exact sh_imgs _ (by first | assumption | omega)) ?_
                          rw [n5]
                          refine v_aload_0 dX7_readLent_115 ?_
                          refine u_getR dX7_readLent_116 gf_X7_73 (by first | assumption | rfl | exact led_1 (by assumption) | exact led_2 (by assumption) | exact bk_m (by assumption) (by first | assumption | omega) | exact bk_p (by assumption) (by first | assumption | omega) | exact bk_o (by assumption) (by first | assumption | omega) | exact bk_s (by assumption) (by first | assumption | omega) | exact bk_1 (by assumption) | exact bk_2 (by assumption) | exact bk_3 (by assumption) | exact bk_4 (by assumption) | exact bk_5 (by assumption) | exact bk_6 (by assumption) | exact bk_7 (by assumption) | exact bk_8 (by assumption) | exact sh_ring _ (by first | assumption | omega) | exact sh_imgs _ (by first | assumption | omega)) (by assumption) ?_
                          refine u_getR dX7_readLent_119 gf_X7_250 (by first | assumption | rfl | exact led_1 (by assumption) | exact led_2 (by assumption) | exact bk_m (by assumption) (by first | assumption | omega) | exact bk_p (by assumption) (by first | assumption | omega) | exact bk_o (by assumption) (by first | assumption | omega) | exact bk_s (by assumption) (by first | assumption | omega) | exact bk_1 (by assumption) | exact bk_2 (by assumption) | exact bk_3 (by assumption) | exact bk_4 (by assumption) | exact bk_5 (by assumption) | exact bk_6 (by assumption) | exact bk_7 (by assumption) | exact bk_8 (by assumption) | exact sh_ring _ (by first | assumption | omega) | exact sh_imgs _ (by first | assumption | omega)) (ro_X0_14 (by assumption) (by assumption)) ?_
                          refine u_callV_5 dX7_readLent_122 ml_X7_268 mv_X0_canLend (by first | assumption | rfl | exact led_1 (by assumption) | exact led_2 (by assumption) | exact bk_m (by assumption) (by first | assumption | omega) | exact bk_p (by assumption) (by first | assumption | omega) | exact bk_o (by assumption) (by first | assumption | omega) | exact bk_s (by assumption) (by first | assumption | omega) | exact bk_1 (by assumption) | exact bk_2 (by assumption) | exact bk_3 (by assumption) | exact bk_4 (by assumption) | exact bk_5 (by assumption) | exact bk_6 (by assumption) | exact bk_7 (by assumption) | exact bk_8 (by assumption) | exact sh_ring _ (by first | assumption | omega) | exact sh_imgs _ (by first | assumption | omega)) (by decide) rfl (by decide) (Nat.le_of_ble_eq_true rfl) (c_X0_canLend hR hB hF hO (bk_8 hB) hLe.1 t1 t3 (by omega) (by omega) ?_)
                          refine v_if_ne (tgt := 135) dX7_readLent_125 (by decide) (fun hc125 => ?_) (fun hc125 => ?_)
                          · (first | rw [bI_0, Bool.not_eq_false] at hc125 | rw [bI_0] at hc125 | rw [show (0 : Int32) = nI 0 from rfl, nI_eq (by omega) (by omega)] at hc125 | skip)
                            refine v_aload_0 dX7_readLent_135 ?_
                            refine u_getR dX7_readLent_136 gf_X7_73 (by first | assumption | rfl | exact led_1 (by assumption) | exact led_2 (by assumption) | exact bk_m (by assumption) (by first | assumption | omega) | exact bk_p (by assumption) (by first | assumption | omega) | exact bk_o (by assumption) (by first | assumption | omega) | exact bk_s (by assumption) (by first | assumption | omega) | exact bk_1 (by assumption) | exact bk_2 (by assumption) | exact bk_3 (by assumption) | exact bk_4 (by assumption) | exact bk_5 (by assumption) | exact bk_6 (by assumption) | exact bk_7 (by assumption) | exact bk_8 (by assumption) | exact sh_ring _ (by first | assumption | omega) | exact sh_imgs _ (by first | assumption | omega)) (by assumption) ?_
                            refine u_getR dX7_readLent_139 gf_X7_250 (by first | assumption | rfl | exact led_1 (by assumption) | exact led_2 (by assumption) | exact bk_m (by assumption) (by first | assumption | omega) | exact bk_p (by assumption) (by first | assumption | omega) | exact bk_o (by assumption) (by first | assumption | omega) | exact bk_s (by assumption) (by first | assumption | omega) | exact bk_1 (by assumption) | exact bk_2 (by assumption) | exact bk_3 (by assumption) | exact bk_4 (by assumption) | exact bk_5 (by assumption) | exact bk_6 (by assumption) | exact bk_7 (by assumption) | exact bk_8 (by assumption) | exact sh_ring _ (by first | assumption | omega) | exact sh_imgs _ (by first | assumption | omega)) (ro_X0_14 (by assumption) (by assumption)) ?_
                            refine v_iload_1 dX7_readLent_142 ?_
                            refine v_iload_2 dX7_readLent_143 ?_
                            refine v_iload_3 dX7_readLent_144 ?_
                            refine v_aload_0 dX7_readLent_145 ?_
                            refine u_getI dX7_readLent_146 gf_X7_154 (by first | assumption | rfl | exact led_1 (by assumption) | exact led_2 (by assumption) | exact bk_m (by assumption) (by first | assumption | omega) | exact bk_p (by assumption) (by first | assumption | omega) | exact bk_o (by assumption) (by first | assumption | omega) | exact bk_s (by assumption) (by first | assumption | omega) | exact bk_1 (by assumption) | exact bk_2 (by assumption) | exact bk_3 (by assumption) | exact bk_4 (by assumption) | exact bk_5 (by assumption) | exact bk_6 (by assumption) | exact bk_7 (by assumption) | exact bk_8 (by assumption) | exact sh_ring _ (by first | assumption | omega) | exact sh_imgs _ (by first | assumption | omega)) ?_
                            rw [n5]
                            refine u_callV_4 dX7_readLent_149 ml_X7_272 mv_X2_add (by first | assumption | rfl | exact led_1 (by assumption) | exact led_2 (by assumption) | exact bk_m (by assumption) (by first | assumption | omega) | exact bk_p (by assumption) (by first | assumption | omega) | exact bk_o (by assumption) (by first | assumption | omega) | exact bk_s (by assumption) (by first | assumption | omega) | exact bk_1 (by assumption) | exact bk_2 (by assumption) | exact bk_3 (by assumption) | exact bk_4 (by assumption) | exact bk_5 (by assumption) | exact bk_6 (by assumption) | exact bk_7 (by assumption) | exact bk_8 (by assumption) | exact sh_ring _ (by first | assumption | omega) | exact sh_imgs _ (by first | assumption | omega)) (by decide) rfl (by decide) (Nat.le_of_ble_eq_true rfl) (c_X2_add hR (bk_8 hB) hLe.1 (by omega) ⟨by show v1 < 6; omega, by show v3 < 6; omega, l4, l5, by show v5 ≤ 20; omega⟩ (fun K2 w7 w8 => ?_))
                            refine v_iconst (v := nI 1) dX7_readLent_152 (by decide) ?_
                            refine v_zret dX7_readLent_153 (by first | rfl | exact bI_n _) rfl rfl rfl rfl ?_
                            have hl : lLent tp sz s = .inr ((nx tp sz (nx tp sz (nx tp sz (nx tp sz (nx tp sz (nx tp sz (nx tp sz s))))))).1, s.2.1, insS s.2.2 (v1, v3, v4, v5)) := by
                              rw [lLent, bnd_r q1, bnd_r q2, bnd_r q3, bnd_r q4, bnd_r z1, bnd_r z2, if_pos (show okL s.2.1 s.2.2 v1 v3 v4 v5 = true from hc125)]
                              first | done | rfl
                            have hI := inv_lent hby hPI q0 q9 hl
                            have hK2 : ∀ x, x ≠ B + 8 → x ≠ B + 9 → K2 x = J5 x := fun x a c => w8 x a c
                            refine hQ.2 _ hl _ _ _ ⟨⟨hR, hb2, hB, hT.fr (hK2 _ (by omega) (by omega)) (hK2 _ (by omega) (by omega)) rfl, ?_, ⟨w7, fun p hp => ?_⟩, ?_⟩, hI.1, cnt, sl, hN.fr (by rw [hK2 _ (by omega) (by omega)]) (hK2 _ (by omega) (by omega)) (hK2 _ (by omega) (by omega)) rfl, hC⟩ (hfr.cells ⟨by omega, by omega⟩ ⟨by omega, by omega⟩ hB hK2)
                            · exact hF.frm (hK2 _ (by omega) (by omega)) (fun m q => hK2 _ (by omega) (by omega)) (fun m q => hK2 _ (by omega) (by omega)) (fun m q => hK2 _ (by omega) (by omega)) (fun m q => hK2 _ (by omega) (by omega)) ⟨hK2 _ (by omega) (by omega), hK2 _ (by omega) (by omega), hK2 _ (by omega) (by omega)⟩
                            · rw [hK2 _ (by omega) (by omega)]; exact hLe.2 p hp
                            · rw [hK2 _ (by omega) (by omega)]; exact hM.2.2.2.2.2.2
                          · (first | rw [bI_0, Bool.not_eq_false] at hc125 | rw [bI_0] at hc125 | rw [show (0 : Int32) = nI 0 from rfl, nI_eq (by omega) (by omega)] at hc125 | skip)
                            refine v_aload_0 dX7_readLent_128 ?_
                            refine v_bipush (v := nI 7) dX7_readLent_129 (by decide) ?_
                            refine u_callV_1 dX7_readLent_131 ml_X7_146 mv_X7_failBefore (by first | assumption | rfl | exact led_1 (by assumption) | exact led_2 (by assumption) | exact bk_m (by assumption) (by first | assumption | omega) | exact bk_p (by assumption) (by first | assumption | omega) | exact bk_o (by assumption) (by first | assumption | omega) | exact bk_s (by assumption) (by first | assumption | omega) | exact bk_1 (by assumption) | exact bk_2 (by assumption) | exact bk_3 (by assumption) | exact bk_4 (by assumption) | exact bk_5 (by assumption) | exact bk_6 (by assumption) | exact bk_7 (by assumption) | exact bk_8 (by assumption) | exact sh_ring _ (by first | assumption | omega) | exact sh_imgs _ (by first | assumption | omega)) (by decide) rfl (by decide) (Nat.le_of_ble_eq_true rfl) (c_X7_failBefore hR hT (fun J p1 p2 p3 p4 => ?_))
                            refine v_zret dX7_readLent_134 (by first | rfl | exact bI_n _) rfl rfl rfl rfl ?_
                            exact hQ.1 7 _ (by rw [lLent, bnd_r q1, bnd_r q2, bnd_r q3, bnd_r q4, bnd_r z1, bnd_r z2, if_neg (by rw [show okL s.2.1 s.2.2 v1 v3 v4 v5 = false from hc125]; decide)]) _ _ p1 p2 (hfr.fr9 p3)
                        · exact absurd hc99 (by decide)
                    · exact absurd hc74 (by decide)
                · exact absurd hc49 (by decide)
        · exact absurd hc24 (by decide)
theorem c_X7_readBreak (h : RdC I L R B tp sz s bf) (hQ : LQ I L R B tp sz (if s.2.1 0 = 0 then .inl (6, bf) else if s.2.1 7 < 8 then lBreak tp sz s else .inl (5, bf)) Q) : KK 7 mX7_readBreak b ad [.ref (b + 88)] I L R Q := by
  obtain ⟨hM, hPI, cnt, sl, hN, hC⟩ := h
  have hR := hM.1
  have hb2 := hM.2.1
  have hB := hM.2.2.1
  have hT := hM.2.2.2.1
  have hF := hM.2.2.2.2.1
  have hby := hT.by
  have hO := hPI.2.1
  have hK := hPI.2.2.2.2.2.2.1
  have h7 := hPI.2.2.1
  have o0 := hO.1
  have o1 := hO.2.1
  have o2 := hO.2.2.1
  have o3 := hO.2.2.2.1
  have o4 := hO.2.2.2.2.1
  have o5 := hO.2.2.2.2.2.1
  have o6 := hO.2.2.2.2.2.2.1
  have hbb := shB hB
  have hfr : FrB B I I L L := FrB.refl
  have h88 := hM.2.2.2.2.2.2.1
  refine K.of (M := mX7_readBreak) (lv := [some (.ref (b + 88)), none]) (by decide) (Nat.le_of_ble_eq_true rfl) rfl ?_
  refine v_aload_0 dX7_readBreak_0 ?_
  refine v_aload_0 dX7_readBreak_1 ?_
  refine u_getI dX7_readBreak_2 gf_X7_82 (by first | assumption | rfl | exact led_1 (by assumption) | exact led_2 (by assumption) | exact bk_m (by assumption) (by first | assumption | omega) | exact bk_p (by assumption) (by first | assumption | omega) | exact bk_o (by assumption) (by first | assumption | omega) | exact bk_s (by assumption) (by first | assumption | omega) | exact bk_1 (by assumption) | exact bk_2 (by assumption) | exact bk_3 (by assumption) | exact bk_4 (by assumption) | exact bk_5 (by assumption) | exact bk_6 (by assumption) | exact bk_7 (by assumption) | exact bk_8 (by assumption) | exact sh_ring _ (by first | assumption | omega) | exact sh_imgs _ (by first | assumption | omega)) ?_
  rw [h88]
  refine v_bipush (v := nI 8) dX7_readBreak_5 (by decide) ?_
  refine u_callV_2 dX7_readBreak_7 ml_X7_220 mv_X7_needRoom (by first | assumption | rfl | exact led_1 (by assumption) | exact led_2 (by assumption) | exact bk_m (by assumption) (by first | assumption | omega) | exact bk_p (by assumption) (by first | assumption | omega) | exact bk_o (by assumption) (by first | assumption | omega) | exact bk_s (by assumption) (by first | assumption | omega) | exact bk_1 (by assumption) | exact bk_2 (by assumption) | exact bk_3 (by assumption) | exact bk_4 (by assumption) | exact bk_5 (by assumption) | exact bk_6 (by assumption) | exact bk_7 (by assumption) | exact bk_8 (by assumption) | exact sh_ring _ (by first | assumption | omega) | exact sh_imgs _ (by first | assumption | omega)) (by decide) rfl (by decide) (Nat.le_of_ble_eq_true rfl) (c_X7_needRoom (n := s.2.1 7) (most := 8) (d := s.2.1 0) hR hb2 hB (bx0 hF) (by omega) (by omega) (by omega) hT (fun q0 J p1 p2 p3 => ?_) (fun q0 q9 J p1 p2 p3 => ?_) (fun q0 q9 => ?_))
  · refine v_if_eq (tgt := 21) dX7_readBreak_10 (by decide) (fun hc10 => ?_) (fun hc10 => ?_)
    · (first | rw [bI_0, Bool.not_eq_false] at hc10 | rw [bI_0] at hc10 | rw [show (0 : Int32) = nI 0 from rfl, nI_eq (by omega) (by omega)] at hc10 | skip)
      refine v_iconst (v := nI 0) dX7_readBreak_21 (by decide) ?_
      refine v_zret dX7_readBreak_22 (by first | rfl | exact bI_n _) rfl rfl rfl rfl ?_
      exact hQ.1 6 _ (if_pos q0) _ _ p1 p2 (hfr.fr9 p3)
    · exact absurd rfl hc10
  · refine v_if_eq (tgt := 21) dX7_readBreak_10 (by decide) (fun hc10 => ?_) (fun hc10 => ?_)
    · (first | rw [bI_0, Bool.not_eq_false] at hc10 | rw [bI_0] at hc10 | rw [show (0 : Int32) = nI 0 from rfl, nI_eq (by omega) (by omega)] at hc10 | skip)
      refine v_iconst (v := nI 0) dX7_readBreak_21 (by decide) ?_
      refine v_zret dX7_readBreak_22 (by first | rfl | exact bI_n _) rfl rfl rfl rfl ?_
      exact hQ.1 5 _ (by rw [if_neg q0, if_neg q9]) _ _ p1 p2 (hfr.fr9 p3)
    · exact absurd rfl hc10
  · rw [if_neg q0, if_pos q9] at hQ
    refine v_if_eq (tgt := 21) dX7_readBreak_10 (by decide) (fun hc10 => ?_) (fun hc10 => ?_)
    · exact absurd hc10 (by decide)
    · (first | rw [bI_0, Bool.not_eq_false] at hc10 | rw [bI_0] at hc10 | rw [show (0 : Int32) = nI 0 from rfl, nI_eq (by omega) (by omega)] at hc10 | skip)
      refine v_aload_0 dX7_readBreak_13 ?_
      refine v_iconst (v := nI 2) dX7_readBreak_14 (by decide) ?_
      refine u_callV_1 dX7_readBreak_15 ml_X7_211 mv_X7_needTold (by first | assumption | rfl | exact led_1 (by assumption) | exact led_2 (by assumption) | exact bk_m (by assumption) (by first | assumption | omega) | exact bk_p (by assumption) (by first | assumption | omega) | exact bk_o (by assumption) (by first | assumption | omega) | exact bk_s (by assumption) (by first | assumption | omega) | exact bk_1 (by assumption) | exact bk_2 (by assumption) | exact bk_3 (by assumption) | exact bk_4 (by assumption) | exact bk_5 (by assumption) | exact bk_6 (by assumption) | exact bk_7 (by assumption) | exact bk_8 (by assumption) | exact sh_ring _ (by first | assumption | omega) | exact sh_imgs _ (by first | assumption | omega)) (by decide) rfl (by decide) (Nat.le_of_ble_eq_true rfl) (c_X7_needTold (t := 2) (s := s) (by decide) hR hN hC hK hT (fun f p q J M p1 p2 p3 => ?_) (fun v1 u1 q1 e1 l1 J1 M1 r1 n1 f1 => ?_))
      · refine v_if_ne (tgt := 23) dX7_readBreak_18 (by decide) (fun hc18 => ?_) (fun hc18 => ?_)
        · exact absurd rfl hc18
        · (first | rw [bI_0, Bool.not_eq_false] at hc18 | rw [bI_0] at hc18 | rw [show (0 : Int32) = nI 0 from rfl, nI_eq (by omega) (by omega)] at hc18 | skip)
          refine v_iconst (v := nI 0) dX7_readBreak_21 (by decide) ?_
          refine v_zret dX7_readBreak_22 (by first | rfl | exact bI_n _) rfl rfl rfl rfl ?_
          exact hQ.1 f p (by rw [lBreak, bnd_l q]) _ _ p1 p2 (hfr.fr9 p3)
      · subst e1
        have hM := hM.fr9 hO f1 r1
        have hN := hN.fr9 f1
        have hfr := hfr.fr9 f1
        have hT := hM.2.2.2.1
        have hF := hM.2.2.2.2.1
        have t1 : v1 < s.2.1 3 := told_lt hPI (by decide) q1
        refine v_if_ne (tgt := 23) dX7_readBreak_18 (by decide) (fun hc18 => ?_) (fun hc18 => ?_)
        · (first | rw [bI_0, Bool.not_eq_false] at hc18 | rw [bI_0] at hc18 | rw [show (0 : Int32) = nI 0 from rfl, nI_eq (by omega) (by omega)] at hc18 | skip)
          refine v_aload_0 dX7_readBreak_23 ?_
          refine u_getI dX7_readBreak_24 gf_X7_154 (by first | assumption | rfl | exact led_1 (by assumption) | exact led_2 (by assumption) | exact bk_m (by assumption) (by first | assumption | omega) | exact bk_p (by assumption) (by first | assumption | omega) | exact bk_o (by assumption) (by first | assumption | omega) | exact bk_s (by assumption) (by first | assumption | omega) | exact bk_1 (by assumption) | exact bk_2 (by assumption) | exact bk_3 (by assumption) | exact bk_4 (by assumption) | exact bk_5 (by assumption) | exact bk_6 (by assumption) | exact bk_7 (by assumption) | exact bk_8 (by assumption) | exact sh_ring _ (by first | assumption | omega) | exact sh_imgs _ (by first | assumption | omega)) ?_
          rw [n1]
          refine v_istore_1 rfl dX7_readBreak_27 ?_
          refine v_aload_0 dX7_readBreak_28 ?_
          refine v_ldcS (i := 20) dX7_readBreak_29 (by decide) rfl rfl ?_
          refine v_iconst (v := nI 1) dX7_readBreak_31 (by decide) ?_
          refine v_aload_0 dX7_readBreak_32 ?_
          refine u_getR dX7_readBreak_33 gf_X7_73 (by first | assumption | rfl | exact led_1 (by assumption) | exact led_2 (by assumption) | exact bk_m (by assumption) (by first | assumption | omega) | exact bk_p (by assumption) (by first | assumption | omega) | exact bk_o (by assumption) (by first | assumption | omega) | exact bk_s (by assumption) (by first | assumption | omega) | exact bk_1 (by assumption) | exact bk_2 (by assumption) | exact bk_3 (by assumption) | exact bk_4 (by assumption) | exact bk_5 (by assumption) | exact bk_6 (by assumption) | exact bk_7 (by assumption) | exact bk_8 (by assumption) | exact sh_ring _ (by first | assumption | omega) | exact sh_imgs _ (by first | assumption | omega)) (by assumption) ?_
          refine u_getI dX7_readBreak_36 gf_X7_106 (by first | assumption | rfl | exact led_1 (by assumption) | exact led_2 (by assumption) | exact bk_m (by assumption) (by first | assumption | omega) | exact bk_p (by assumption) (by first | assumption | omega) | exact bk_o (by assumption) (by first | assumption | omega) | exact bk_s (by assumption) (by first | assumption | omega) | exact bk_1 (by assumption) | exact bk_2 (by assumption) | exact bk_3 (by assumption) | exact bk_4 (by assumption) | exact bk_5 (by assumption) | exact bk_6 (by assumption) | exact bk_7 (by assumption) | exact bk_8 (by assumption) | exact sh_ring _ (by first | assumption | omega) | exact sh_imgs _ (by first | assumption | omega)) ?_
          (try rw [bx0 hF])
          refine u_callV_3 dX7_readBreak_39 ml_X7_150 mv_X7_needWhole (by first | assumption | rfl | exact led_1 (by assumption) | exact led_2 (by assumption) | exact bk_m (by assumption) (by first | assumption | omega) | exact bk_p (by assumption) (by first | assumption | omega) | exact bk_o (by assumption) (by first | assumption | omega) | exact bk_s (by assumption) (by first | assumption | omega) | exact bk_1 (by assumption) | exact bk_2 (by assumption) | exact bk_3 (by assumption) | exact bk_4 (by assumption) | exact bk_5 (by assumption) | exact bk_6 (by assumption) | exact bk_7 (by assumption) | exact bk_8 (by assumption) | exact sh_ring _ (by first | assumption | omega) | exact sh_imgs _ (by first | assumption | omega)) (by decide) rfl (by decide) (Nat.le_of_ble_eq_true rfl) (c_X7_needWhole (i := 20) (lo := 1) (hi' := s.2.1 0) (s := (nx tp sz s)) (by decide) (by omega) (by omega) hR hT (fun f p q J M p1 p2 p3 => ?_) (fun v2 u2 q2 e2 l2 h2 J2 M2 r2 n2 f2 => ?_))
          · refine v_if_ne (tgt := 47) dX7_readBreak_42 (by decide) (fun hc42 => ?_) (fun hc42 => ?_)
            · exact absurd rfl hc42
            · (first | rw [bI_0, Bool.not_eq_false] at hc42 | rw [bI_0] at hc42 | rw [show (0 : Int32) = nI 0 from rfl, nI_eq (by omega) (by omega)] at hc42 | skip)
              refine v_iconst (v := nI 0) dX7_readBreak_45 (by decide) ?_
              refine v_zret dX7_readBreak_46 (by first | rfl | exact bI_n _) rfl rfl rfl rfl ?_
              rcases qWhole_l q with z | ⟨z1, z2⟩
              · exact hQ.1 f p (by rw [lBreak, bnd_r q1, bnd_l z]) _ _ p1 p2 (hfr.fr9 p3)
              · exact hQ.1 f p (by rw [lBreak, bnd_r q1, bnd_r z1, bnd_l z2]) _ _ p1 p2 (hfr.fr9 p3)
          · subst e2
            have hM := hM.fr9 hO f2 r2
            have hN := hN.fr9 f2
            have hfr := hfr.fr9 f2
            have hT := hM.2.2.2.1
            have hF := hM.2.2.2.2.1
            refine v_if_ne (tgt := 47) dX7_readBreak_42 (by decide) (fun hc42 => ?_) (fun hc42 => ?_)
            · (first | rw [bI_0, Bool.not_eq_false] at hc42 | rw [bI_0] at hc42 | rw [show (0 : Int32) = nI 0 from rfl, nI_eq (by omega) (by omega)] at hc42 | skip)
              have hLe := hM.2.2.2.2.2.1
              obtain ⟨z1, z2⟩ := qWhole_r q2
              have h88 := hM.2.2.2.2.2.2.1
              refine v_aload_0 dX7_readBreak_47 ?_
              refine u_getR dX7_readBreak_48 gf_X7_73 (by first | assumption | rfl | exact led_1 (by assumption) | exact led_2 (by assumption) | exact bk_m (by assumption) (by first | assumption | omega) | exact bk_p (by assumption) (by first | assumption | omega) | exact bk_o (by assumption) (by first | assumption | omega) | exact bk_s (by assumption) (by first | assumption | omega) | exact bk_1 (by assumption) | exact bk_2 (by assumption) | exact bk_3 (by assumption) | exact bk_4 (by assumption) | exact bk_5 (by assumption) | exact bk_6 (by assumption) | exact bk_7 (by assumption) | exact bk_8 (by assumption) | exact sh_ring _ (by first | assumption | omega) | exact sh_imgs _ (by first | assumption | omega)) (by assumption) ?_
              refine u_getR dX7_readBreak_51 gf_X7_250 (by first | assumption | rfl | exact led_1 (by assumption) | exact led_2 (by assumption) | exact bk_m (by assumption) (by first | assumption | omega) | exact bk_p (by assumption) (by first | assumption | omega) | exact bk_o (by assumption) (by first | assumption | omega) | exact bk_s (by assumption) (by first | assumption | omega) | exact bk_1 (by assumption) | exact bk_2 (by assumption) | exact bk_3 (by assumption) | exact bk_4 (by assumption) | exact bk_5 (by assumption) | exact bk_6 (by assumption) | exact bk_7 (by assumption) | exact bk_8 (by assumption) | exact sh_ring _ (by first | assumption | omega) | exact sh_imgs _ (by first | assumption | omega)) (ro_X0_14 (by assumption) (by assumption)) ?_
              refine v_iload_1 dX7_readBreak_54 ?_
              refine v_aload_0 dX7_readBreak_55 ?_
              refine u_getI dX7_readBreak_56 gf_X7_154 (by first | assumption | rfl | exact led_1 (by assumption) | exact led_2 (by assumption) | exact bk_m (by assumption) (by first | assumption | omega) | exact bk_p (by assumption) (by first | assumption | omega) | exact bk_o (by assumption) (by first | assumption | omega) | exact bk_s (by assumption) (by first | assumption | omega) | exact bk_1 (by assumption) | exact bk_2 (by assumption) | exact bk_3 (by assumption) | exact bk_4 (by assumption) | exact bk_5 (by assumption) | exact bk_6 (by assumption) | exact bk_7 (by assumption) | exact bk_8 (by assumption) | exact sh_ring _ (by first | assumption | omega) | exact sh_imgs _ (by first | assumption | omega)) ?_
              rw [n2]
              refine u_callV_2 dX7_readBreak_59 ml_X7_305 mv_X2_isBreaking (by first | assumption | rfl | exact led_1 (by assumption) | exact led_2 (by assumption) | exact bk_m (by assumption) (by first | assumption | omega) | exact bk_p (by assumption) (by first | assumption | omega) | exact bk_o (by assumption) (by first | assumption | omega) | exact bk_s (by assumption) (by first | assumption | omega) | exact bk_1 (by assumption) | exact bk_2 (by assumption) | exact bk_3 (by assumption) | exact bk_4 (by assumption) | exact bk_5 (by assumption) | exact bk_6 (by assumption) | exact bk_7 (by assumption) | exact bk_8 (by assumption) | exact sh_ring _ (by first | assumption | omega) | exact sh_imgs _ (by first | assumption | omega)) (by decide) rfl (by decide) (Nat.le_of_ble_eq_true rfl) (c_X2_isBreaking hR (bk_8 hB) (by omega) (by omega) (hLe.2 v1 (by omega)) ?_)
              refine v_if_eq (tgt := 71) dX7_readBreak_62 (by decide) (fun hc62 => ?_) (fun hc62 => ?_)
              · (first | rw [bI_0, Bool.not_eq_false] at hc62 | rw [bI_0] at hc62 | rw [show (0 : Int32) = nI 0 from rfl, nI_eq (by omega) (by omega)] at hc62 | skip)
                refine v_aload_0 dX7_readBreak_71 ?_
                refine u_getR dX7_readBreak_72 gf_X7_73 (by first | assumption | rfl | exact led_1 (by assumption) | exact led_2 (by assumption) | exact bk_m (by assumption) (by first | assumption | omega) | exact bk_p (by assumption) (by first | assumption | omega) | exact bk_o (by assumption) (by first | assumption | omega) | exact bk_s (by assumption) (by first | assumption | omega) | exact bk_1 (by assumption) | exact bk_2 (by assumption) | exact bk_3 (by assumption) | exact bk_4 (by assumption) | exact bk_5 (by assumption) | exact bk_6 (by assumption) | exact bk_7 (by assumption) | exact bk_8 (by assumption) | exact sh_ring _ (by first | assumption | omega) | exact sh_imgs _ (by first | assumption | omega)) (by assumption) ?_
                refine u_getR dX7_readBreak_75 gf_X7_250 (by first | assumption | rfl | exact led_1 (by assumption) | exact led_2 (by assumption) | exact bk_m (by assumption) (by first | assumption | omega) | exact bk_p (by assumption) (by first | assumption | omega) | exact bk_o (by assumption) (by first | assumption | omega) | exact bk_s (by assumption) (by first | assumption | omega) | exact bk_1 (by assumption) | exact bk_2 (by assumption) | exact bk_3 (by assumption) | exact bk_4 (by assumption) | exact bk_5 (by assumption) | exact bk_6 (by assumption) | exact bk_7 (by assumption) | exact bk_8 (by assumption) | exact sh_ring _ (by first | assumption | omega) | exact sh_imgs _ (by first | assumption | omega)) (ro_X0_14 (by assumption) (by assumption)) ?_
                refine v_iload_1 dX7_readBreak_78 ?_
                refine v_aload_0 dX7_readBreak_79 ?_
                refine u_getI dX7_readBreak_80 gf_X7_154 (by first | assumption | rfl | exact led_1 (by assumption) | exact led_2 (by assumption) | exact bk_m (by assumption) (by first | assumption | omega) | exact bk_p (by assumption) (by first | assumption | omega) | exact bk_o (by assumption) (by first | assumption | omega) | exact bk_s (by assumption) (by first | assumption | omega) | exact bk_1 (by assumption) | exact bk_2 (by assumption) | exact bk_3 (by assumption) | exact bk_4 (by assumption) | exact bk_5 (by assumption) | exact bk_6 (by assumption) | exact bk_7 (by assumption) | exact bk_8 (by assumption) | exact sh_ring _ (by first | assumption | omega) | exact sh_imgs _ (by first | assumption | omega)) ?_
                rw [n2]
                refine u_callV_2 dX7_readBreak_83 ml_X7_308 mv_X2_flipBreaking (by first | assumption | rfl | exact led_1 (by assumption) | exact led_2 (by assumption) | exact bk_m (by assumption) (by first | assumption | omega) | exact bk_p (by assumption) (by first | assumption | omega) | exact bk_o (by assumption) (by first | assumption | omega) | exact bk_s (by assumption) (by first | assumption | omega) | exact bk_1 (by assumption) | exact bk_2 (by assumption) | exact bk_3 (by assumption) | exact bk_4 (by assumption) | exact bk_5 (by assumption) | exact bk_6 (by assumption) | exact bk_7 (by assumption) | exact bk_8 (by assumption) | exact sh_ring _ (by first | assumption | omega) | exact sh_imgs _ (by first | assumption | omega)) (by decide) rfl (by decide) (Nat.le_of_ble_eq_true rfl) (c_X2_flipBreaking hR (bk_8 hB) (by omega) (by omega) (hLe.2 v1 (by omega)) ?_)
                refine v_aload_0 dX7_readBreak_86 ?_
                refine v_dup dX7_readBreak_87 rfl ?_
                refine u_getI dX7_readBreak_88 gf_X7_82 (by first | assumption | rfl | exact led_1 (by assumption) | exact led_2 (by assumption) | exact bk_m (by assumption) (by first | assumption | omega) | exact bk_p (by assumption) (by first | assumption | omega) | exact bk_o (by assumption) (by first | assumption | omega) | exact bk_s (by assumption) (by first | assumption | omega) | exact bk_1 (by assumption) | exact bk_2 (by assumption) | exact bk_3 (by assumption) | exact bk_4 (by assumption) | exact bk_5 (by assumption) | exact bk_6 (by assumption) | exact bk_7 (by assumption) | exact bk_8 (by assumption) | exact sh_ring _ (by first | assumption | omega) | exact sh_imgs _ (by first | assumption | omega)) ?_
                rw [ui_ne (by omega), h88]
                refine v_iconst (v := nI 1) dX7_readBreak_91 (by decide) ?_
                refine v_iadd dX7_readBreak_92 ?_
                rw [nI_add]
                refine u_putI dX7_readBreak_93 gf_X7_82 (by first | assumption | rfl | exact led_1 (by assumption) | exact led_2 (by assumption) | exact bk_m (by assumption) (by first | assumption | omega) | exact bk_p (by assumption) (by first | assumption | omega) | exact bk_o (by assumption) (by first | assumption | omega) | exact bk_s (by assumption) (by first | assumption | omega) | exact bk_1 (by assumption) | exact bk_2 (by assumption) | exact bk_3 (by assumption) | exact bk_4 (by assumption) | exact bk_5 (by assumption) | exact bk_6 (by assumption) | exact bk_7 (by assumption) | exact bk_8 (by assumption) | exact sh_ring _ (by first | assumption | omega) | exact sh_imgs _ (by first | assumption | omega)) rfl rfl rfl ?_
                refine v_iconst (v := nI 1) dX7_readBreak_96 (by decide) ?_
                refine v_zret dX7_readBreak_97 (by first | rfl | exact bI_n _) rfl rfl rfl rfl ?_
                have hl : lBreak tp sz s = .inr ((nx tp sz (nx tp sz (nx tp sz s))).1, setF s.2.1 7 (s.2.1 7 + 1), flipS s.2.2 v1 v2) := by
                  rw [lBreak, bnd_r q1, bnd_r z1, bnd_r z2, if_neg (by rw [hc62]; decide)]
                  first | done | rfl
                have hI := inv_break hby hPI q0 q9 hl
                have g : ∀ x, x ≠ 7 → setF s.2.1 7 (s.2.1 7 + 1) x = s.2.1 x := fun x hx => setF_n hx
                have hx : ∀ x, x ≠ 88 → x ≠ B + 8 + 2 → ui (ui J2 (B + 8 + 2) v1 (nI (s.2.2.2.2 v1 ^^^ 2 ^ v2))) 88 8 (nI (s.2.1 7 + 1)) x = J2 x := fun x a c => by rw [ui_ne a, ui_ne c]
                refine hQ.2 _ hl _ _ _ ⟨⟨hR, hb2, hB, hT.fr (hx _ (by omega) (by omega)) (hx _ (by omega) (by omega)) rfl, ?_, ⟨hLe.1.same (hx _ (by omega) (by omega)) (hx _ (by omega) (by omega)), fun p hp => ?_⟩, ?_⟩, hI.1, cnt, sl, (hN.fr (by rw [ui_o (by decide), ui_ne (by omega)]) (hx _ (by omega) (by omega)) (hx _ (by omega) (by omega)) rfl).cong (fun x h => g x (by omega)), hC.cong (g 1 (by decide)) (g 2 (by decide)) (g 3 (by decide))⟩ ((hfr.up (Or.inl ⟨by omega, by omega⟩) hB).up (Or.inr rfl) hB)
                · exact bk_brk (hF.frm (hx _ (by omega) (by omega)) (fun m q => hx _ (by omega) (by omega)) (fun m q => hx _ (by omega) (by omega)) (fun m q => hx _ (by omega) (by omega)) (fun m q => hx _ (by omega) (by omega)) ⟨hx _ (by omega) (by omega), hx _ (by omega) (by omega), hx _ (by omega) (by omega)⟩)
                · have hL6 := hI.1.2.2.2.2.2.1.2.2.2
                  rw [ui_ne (by omega)]
                  refine ⟨?_, hL6 p⟩
                  show _ = nI ((flipS s.2.2 v1 v2).2.2 p)
                  unfold flipS
                  by_cases hp1 : p = v1
                  · subst hp1; rw [ui_s]; simp only [if_true]
                  · rw [ui_o hp1]; simp only [hp1, if_false]; exact (hLe.2 p hp).1
                · show _ = nI (setF s.2.1 7 (s.2.1 7 + 1) 7) ∧ _
                  rw [ui_s, setF_s, ui_o (by decide), ui_ne (by omega)]
                  exact ⟨rfl, hM.2.2.2.2.2.2.2⟩
              · (first | rw [bI_0, Bool.not_eq_false] at hc62 | rw [bI_0] at hc62 | rw [show (0 : Int32) = nI 0 from rfl, nI_eq (by omega) (by omega)] at hc62 | skip)
                refine v_aload_0 dX7_readBreak_65 ?_
                refine v_iconst (v := nI 3) dX7_readBreak_66 (by decide) ?_
                refine u_callV_1 dX7_readBreak_67 ml_X7_146 mv_X7_failBefore (by first | assumption | rfl | exact led_1 (by assumption) | exact led_2 (by assumption) | exact bk_m (by assumption) (by first | assumption | omega) | exact bk_p (by assumption) (by first | assumption | omega) | exact bk_o (by assumption) (by first | assumption | omega) | exact bk_s (by assumption) (by first | assumption | omega) | exact bk_1 (by assumption) | exact bk_2 (by assumption) | exact bk_3 (by assumption) | exact bk_4 (by assumption) | exact bk_5 (by assumption) | exact bk_6 (by assumption) | exact bk_7 (by assumption) | exact bk_8 (by assumption) | exact sh_ring _ (by first | assumption | omega) | exact sh_imgs _ (by first | assumption | omega)) (by decide) rfl (by decide) (Nat.le_of_ble_eq_true rfl) (c_X7_failBefore hR hT (fun J p1 p2 p3 p4 => ?_))
                refine v_zret dX7_readBreak_70 (by first | rfl | exact bI_n _) rfl rfl rfl rfl ?_
                exact hQ.1 3 _ (by rw [lBreak, bnd_r q1, bnd_r z1, bnd_r z2, if_pos hc62]) _ _ p1 p2 (hfr.fr9 p3)
            · exact absurd hc42 (by decide)
        · exact absurd hc18 (by decide)
end
