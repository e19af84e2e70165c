theorem dX12_workLine_0 : decode cX12_workLine 0 = .ok (.aload_n 0, 1) := by decide +kernel
theorem dX12_workLine_1 : decode cX12_workLine 1 = .ok (.getfield 92, 3) := by decide +kernel
theorem dX12_workLine_4 : decode cX12_workLine 4 = .ok (.ifCond .ne 7, 3) := by decide +kernel
theorem dX12_workLine_7 : decode cX12_workLine 7 = .ok (.iconst 1, 1) := by decide +kernel
theorem dX12_workLine_8 : decode cX12_workLine 8 = .ok (.goto 4, 3) := by decide +kernel
theorem dX12_workLine_11 : decode cX12_workLine 11 = .ok (.iconst 0, 1) := by decide +kernel
theorem dX12_workLine_12 : decode cX12_workLine 12 = .ok (.istore_n 1, 1) := by decide +kernel
theorem dX12_workLine_13 : decode cX12_workLine 13 = .ok (.iload_n 1, 1) := by decide +kernel
theorem dX12_workLine_14 : decode cX12_workLine 14 = .ok (.ifCond .eq 69, 3) := by decide +kernel
theorem dX12_workLine_17 : decode cX12_workLine 17 = .ok (.aload_n 0, 1) := by decide +kernel
theorem dX12_workLine_18 : decode cX12_workLine 18 = .ok (.invokevirtual 239, 3) := by decide +kernel
theorem dX12_workLine_21 : decode cX12_workLine 21 = .ok (.aload_n 0, 1) := by decide +kernel
theorem dX12_workLine_22 : decode cX12_workLine 22 = .ok (.getfield 92, 3) := by decide +kernel
theorem dX12_workLine_25 : decode cX12_workLine 25 = .ok (.ifCond .ne 22, 3) := by decide +kernel
theorem dX12_workLine_28 : decode cX12_workLine 28 = .ok (.aload_n 0, 1) := by decide +kernel
theorem dX12_workLine_29 : decode cX12_workLine 29 = .ok (.getfield 23, 3) := by decide +kernel
theorem dX12_workLine_32 : decode cX12_workLine 32 = .ok (.iconst 1, 1) := by decide +kernel
theorem dX12_workLine_33 : decode cX12_workLine 33 = .ok (.iaload, 1) := by decide +kernel
theorem dX12_workLine_34 : decode cX12_workLine 34 = .ok (.iconst 5, 1) := by decide +kernel
theorem dX12_workLine_35 : decode cX12_workLine 35 = .ok (.if_icmp .ne 12, 3) := by decide +kernel
theorem dX12_workLine_38 : decode cX12_workLine 38 = .ok (.aload_n 0, 1) := by decide +kernel
theorem dX12_workLine_39 : decode cX12_workLine 39 = .ok (.iconst 5, 1) := by decide +kernel
theorem dX12_workLine_40 : decode cX12_workLine 40 = .ok (.aload_n 0, 1) := by decide +kernel
theorem dX12_workLine_41 : decode cX12_workLine 41 = .ok (.getfield 73, 3) := by decide +kernel
theorem dX12_workLine_44 : decode cX12_workLine 44 = .ok (.invokevirtual 119, 3) := by decide +kernel
theorem dX12_workLine_47 : decode cX12_workLine 47 = .ok (.aload_n 0, 1) := by decide +kernel
theorem dX12_workLine_48 : decode cX12_workLine 48 = .ok (.getfield 92, 3) := by decide +kernel
theorem dX12_workLine_51 : decode cX12_workLine 51 = .ok (.ifCond .eq 4, 3) := by decide +kernel
theorem dX12_workLine_54 : decode cX12_workLine 54 = .ok (.return_, 1) := by decide +kernel
theorem dX12_workLine_55 : decode cX12_workLine 55 = .ok (.aload_n 0, 1) := by decide +kernel
theorem dX12_workLine_56 : decode cX12_workLine 56 = .ok (.aload_n 0, 1) := by decide +kernel
theorem dX12_workLine_57 : decode cX12_workLine 57 = .ok (.getfield 23, 3) := by decide +kernel
theorem dX12_workLine_60 : decode cX12_workLine 60 = .ok (.iconst 1, 1) := by decide +kernel
theorem dX12_workLine_61 : decode cX12_workLine 61 = .ok (.iaload, 1) := by decide +kernel
theorem dX12_workLine_62 : decode cX12_workLine 62 = .ok (.invokevirtual 242, 3) := by decide +kernel
theorem dX12_workLine_65 : decode cX12_workLine 65 = .ok (.aload_n 0, 1) := by decide +kernel
theorem dX12_workLine_66 : decode cX12_workLine 66 = .ok (.getfield 23, 3) := by decide +kernel
theorem dX12_workLine_69 : decode cX12_workLine 69 = .ok (.iconst 1, 1) := by decide +kernel
theorem dX12_workLine_70 : decode cX12_workLine 70 = .ok (.dup2, 1) := by decide +kernel
theorem dX12_workLine_71 : decode cX12_workLine 71 = .ok (.iaload, 1) := by decide +kernel
theorem dX12_workLine_72 : decode cX12_workLine 72 = .ok (.iconst 1, 1) := by decide +kernel
theorem dX12_workLine_73 : decode cX12_workLine 73 = .ok (.iadd, 1) := by decide +kernel
theorem dX12_workLine_74 : decode cX12_workLine 74 = .ok (.iastore, 1) := by decide +kernel
theorem dX12_workLine_75 : decode cX12_workLine 75 = .ok (.aload_n 0, 1) := by decide +kernel
theorem dX12_workLine_76 : decode cX12_workLine 76 = .ok (.invokevirtual 246, 3) := by decide +kernel
theorem dX12_workLine_79 : decode cX12_workLine 79 = .ok (.istore_n 1, 1) := by decide +kernel
theorem dX12_workLine_80 : decode cX12_workLine 80 = .ok (.goto (-67), 3) := by decide +kernel
theorem dX12_workLine_83 : decode cX12_workLine 83 = .ok (.return_, 1) := by decide +kernel
theorem dX12_maskLine_0 : decode cX12_maskLine 0 = .ok (.aload_n 0, 1) := by decide +kernel
theorem dX12_maskLine_1 : decode cX12_maskLine 1 = .ok (.getfield 92, 3) := by decide +kernel
theorem dX12_maskLine_4 : decode cX12_maskLine 4 = .ok (.ifCond .eq 4, 3) := by decide +kernel
theorem dX12_maskLine_7 : decode cX12_maskLine 7 = .ok (.return_, 1) := by decide +kernel
theorem dX12_maskLine_8 : decode cX12_maskLine 8 = .ok (.aload_n 0, 1) := by decide +kernel
theorem dX12_maskLine_9 : decode cX12_maskLine 9 = .ok (.getfield 23, 3) := by decide +kernel
theorem dX12_maskLine_12 : decode cX12_maskLine 12 = .ok (.iconst 2, 1) := by decide +kernel
theorem dX12_maskLine_13 : decode cX12_maskLine 13 = .ok (.iaload, 1) := by decide +kernel
theorem dX12_maskLine_14 : decode cX12_maskLine 14 = .ok (.istore_n 1, 1) := by decide +kernel
theorem dX12_maskLine_15 : decode cX12_maskLine 15 = .ok (.aload_n 0, 1) := by decide +kernel
theorem dX12_maskLine_16 : decode cX12_maskLine 16 = .ok (.invokevirtual 239, 3) := by decide +kernel
theorem dX12_maskLine_19 : decode cX12_maskLine 19 = .ok (.aload_n 0, 1) := by decide +kernel
theorem dX12_maskLine_20 : decode cX12_maskLine 20 = .ok (.getfield 92, 3) := by decide +kernel
theorem dX12_maskLine_23 : decode cX12_maskLine 23 = .ok (.ifCond .eq 4, 3) := by decide +kernel
theorem dX12_maskLine_26 : decode cX12_maskLine 26 = .ok (.return_, 1) := by decide +kernel
theorem dX12_maskLine_27 : decode cX12_maskLine 27 = .ok (.aload_n 0, 1) := by decide +kernel
theorem dX12_maskLine_28 : decode cX12_maskLine 28 = .ok (.iconst 5, 1) := by decide +kernel
theorem dX12_maskLine_29 : decode cX12_maskLine 29 = .ok (.iload_n 1, 1) := by decide +kernel
theorem dX12_maskLine_30 : decode cX12_maskLine 30 = .ok (.iadd, 1) := by decide +kernel
theorem dX12_maskLine_31 : decode cX12_maskLine 31 = .ok (.invokevirtual 242, 3) := by decide +kernel
theorem dX12_maskLine_34 : decode cX12_maskLine 34 = .ok (.aload_n 0, 1) := by decide +kernel
theorem dX12_maskLine_35 : decode cX12_maskLine 35 = .ok (.ldc 250, 2) := by decide +kernel
theorem dX12_maskLine_37 : decode cX12_maskLine 37 = .ok (.invokevirtual 109, 3) := by decide +kernel
theorem dX12_maskLine_40 : decode cX12_maskLine 40 = .ok (.ifCond .eq 7, 3) := by decide +kernel
theorem dX12_maskLine_43 : decode cX12_maskLine 43 = .ok (.iconst 0, 1) := by decide +kernel
theorem dX12_maskLine_44 : decode cX12_maskLine 44 = .ok (.goto 57, 3) := by decide +kernel
theorem dX12_maskLine_47 : decode cX12_maskLine 47 = .ok (.aload_n 0, 1) := by decide +kernel
theorem dX12_maskLine_48 : decode cX12_maskLine 48 = .ok (.ldc 141, 2) := by decide +kernel
theorem dX12_maskLine_50 : decode cX12_maskLine 50 = .ok (.invokevirtual 109, 3) := by decide +kernel
theorem dX12_maskLine_53 : decode cX12_maskLine 53 = .ok (.ifCond .eq 7, 3) := by decide +kernel
theorem dX12_maskLine_56 : decode cX12_maskLine 56 = .ok (.iconst 1, 1) := by decide +kernel
theorem dX12_maskLine_57 : decode cX12_maskLine 57 = .ok (.goto 44, 3) := by decide +kernel
theorem dX12_maskLine_60 : decode cX12_maskLine 60 = .ok (.aload_n 0, 1) := by decide +kernel
theorem dX12_maskLine_61 : decode cX12_maskLine 61 = .ok (.ldc 252, 2) := by decide +kernel
theorem dX12_maskLine_63 : decode cX12_maskLine 63 = .ok (.invokevirtual 109, 3) := by decide +kernel
theorem dX12_maskLine_66 : decode cX12_maskLine 66 = .ok (.ifCond .eq 7, 3) := by decide +kernel
theorem dX12_maskLine_69 : decode cX12_maskLine 69 = .ok (.iconst 2, 1) := by decide +kernel
theorem dX12_maskLine_70 : decode cX12_maskLine 70 = .ok (.goto 31, 3) := by decide +kernel
theorem dX12_maskLine_73 : decode cX12_maskLine 73 = .ok (.aload_n 0, 1) := by decide +kernel
theorem dX12_maskLine_74 : decode cX12_maskLine 74 = .ok (.ldc 254, 2) := by decide +kernel
theorem dX12_maskLine_76 : decode cX12_maskLine 76 = .ok (.invokevirtual 109, 3) := by decide +kernel
theorem dX12_maskLine_79 : decode cX12_maskLine 79 = .ok (.ifCond .eq 7, 3) := by decide +kernel
theorem dX12_maskLine_82 : decode cX12_maskLine 82 = .ok (.iconst 3, 1) := by decide +kernel
theorem dX12_maskLine_83 : decode cX12_maskLine 83 = .ok (.goto 18, 3) := by decide +kernel
theorem dX12_maskLine_86 : decode cX12_maskLine 86 = .ok (.aload_n 0, 1) := by decide +kernel
theorem dX12_maskLine_87 : decode cX12_maskLine 87 = .ok (.ldc_w 256, 3) := by decide +kernel
theorem dX12_maskLine_90 : decode cX12_maskLine 90 = .ok (.invokevirtual 109, 3) := by decide +kernel
theorem dX12_maskLine_93 : decode cX12_maskLine 93 = .ok (.ifCond .eq 7, 3) := by decide +kernel
theorem dX12_maskLine_96 : decode cX12_maskLine 96 = .ok (.iconst 4, 1) := by decide +kernel
theorem dX12_maskLine_97 : decode cX12_maskLine 97 = .ok (.goto 4, 3) := by decide +kernel
theorem dX12_maskLine_100 : decode cX12_maskLine 100 = .ok (.iconst (-1), 1) := by decide +kernel
theorem dX12_maskLine_101 : decode cX12_maskLine 101 = .ok (.istore_n 2, 1) := by decide +kernel
theorem dX12_maskLine_102 : decode cX12_maskLine 102 = .ok (.iload_n 2, 1) := by decide +kernel
theorem dX12_maskLine_103 : decode cX12_maskLine 103 = .ok (.ifCond .ge 12, 3) := by decide +kernel
theorem dX12_maskLine_106 : decode cX12_maskLine 106 = .ok (.aload_n 0, 1) := by decide +kernel
theorem dX12_maskLine_107 : decode cX12_maskLine 107 = .ok (.iconst 1, 1) := by decide +kernel
theorem dX12_maskLine_108 : decode cX12_maskLine 108 = .ok (.aload_n 0, 1) := by decide +kernel
theorem dX12_maskLine_109 : decode cX12_maskLine 109 = .ok (.getfield 73, 3) := by decide +kernel
theorem dX12_maskLine_112 : decode cX12_maskLine 112 = .ok (.invokevirtual 119, 3) := by decide +kernel
theorem dX12_maskLine_115 : decode cX12_maskLine 115 = .ok (.aload_n 0, 1) := by decide +kernel
theorem dX12_maskLine_116 : decode cX12_maskLine 116 = .ok (.getfield 92, 3) := by decide +kernel
theorem dX12_maskLine_119 : decode cX12_maskLine 119 = .ok (.ifCond .eq 4, 3) := by decide +kernel
theorem dX12_maskLine_122 : decode cX12_maskLine 122 = .ok (.return_, 1) := by decide +kernel
theorem dX12_maskLine_123 : decode cX12_maskLine 123 = .ok (.aload_n 0, 1) := by decide +kernel
theorem dX12_maskLine_124 : decode cX12_maskLine 124 = .ok (.invokevirtual 113, 3) := by decide +kernel
theorem dX12_maskLine_127 : decode cX12_maskLine 127 = .ok (.aload_n 0, 1) := by decide +kernel
theorem dX12_maskLine_128 : decode cX12_maskLine 128 = .ok (.getfield 23, 3) := by decide +kernel
theorem dX12_maskLine_131 : decode cX12_maskLine 131 = .ok (.bipush 8, 2) := by decide +kernel
theorem dX12_maskLine_133 : decode cX12_maskLine 133 = .ok (.iload_n 1, 1) := by decide +kernel
theorem dX12_maskLine_134 : decode cX12_maskLine 134 = .ok (.iadd, 1) := by decide +kernel
theorem dX12_maskLine_135 : decode cX12_maskLine 135 = .ok (.iload_n 2, 1) := by decide +kernel
theorem dX12_maskLine_136 : decode cX12_maskLine 136 = .ok (.iastore, 1) := by decide +kernel
theorem dX12_maskLine_137 : decode cX12_maskLine 137 = .ok (.aload_n 0, 1) := by decide +kernel
theorem dX12_maskLine_138 : decode cX12_maskLine 138 = .ok (.getfield 23, 3) := by decide +kernel
theorem dX12_maskLine_141 : decode cX12_maskLine 141 = .ok (.bipush 14, 2) := by decide +kernel
theorem dX12_maskLine_143 : decode cX12_maskLine 143 = .ok (.iload_n 1, 1) := by decide +kernel
theorem dX12_maskLine_144 : decode cX12_maskLine 144 = .ok (.iadd, 1) := by decide +kernel
theorem dX12_maskLine_145 : decode cX12_maskLine 145 = .ok (.aload_n 0, 1) := by decide +kernel
theorem dX12_maskLine_146 : decode cX12_maskLine 146 = .ok (.ldc 147, 2) := by decide +kernel
theorem dX12_maskLine_148 : decode cX12_maskLine 148 = .ok (.iconst 1, 1) := by decide +kernel
theorem dX12_maskLine_149 : decode cX12_maskLine 149 = .ok (.bipush 9, 2) := by decide +kernel
theorem dX12_maskLine_151 : decode cX12_maskLine 151 = .ok (.invokevirtual 235, 3) := by decide +kernel
theorem dX12_maskLine_154 : decode cX12_maskLine 154 = .ok (.iastore, 1) := by decide +kernel
theorem dX12_maskLine_155 : decode cX12_maskLine 155 = .ok (.aload_n 0, 1) := by decide +kernel
theorem dX12_maskLine_156 : decode cX12_maskLine 156 = .ok (.getfield 23, 3) := by decide +kernel
theorem dX12_maskLine_159 : decode cX12_maskLine 159 = .ok (.bipush 20, 2) := by decide +kernel
theorem dX12_maskLine_161 : decode cX12_maskLine 161 = .ok (.iload_n 1, 1) := by decide +kernel
theorem dX12_maskLine_162 : decode cX12_maskLine 162 = .ok (.iadd, 1) := by decide +kernel
theorem dX12_maskLine_163 : decode cX12_maskLine 163 = .ok (.aload_n 0, 1) := by decide +kernel
theorem dX12_maskLine_164 : decode cX12_maskLine 164 = .ok (.ldc_w 258, 3) := by decide +kernel
theorem dX12_maskLine_167 : decode cX12_maskLine 167 = .ok (.iconst 0, 1) := by decide +kernel
theorem dX12_maskLine_168 : decode cX12_maskLine 168 = .ok (.bipush 99, 2) := by decide +kernel
theorem dX12_maskLine_170 : decode cX12_maskLine 170 = .ok (.invokevirtual 235, 3) := by decide +kernel
theorem dX12_maskLine_173 : decode cX12_maskLine 173 = .ok (.iastore, 1) := by decide +kernel
theorem dX12_maskLine_174 : decode cX12_maskLine 174 = .ok (.aload_n 0, 1) := by decide +kernel
theorem dX12_maskLine_175 : decode cX12_maskLine 175 = .ok (.getfield 23, 3) := by decide +kernel
theorem dX12_maskLine_178 : decode cX12_maskLine 178 = .ok (.iconst 2, 1) := by decide +kernel
theorem dX12_maskLine_179 : decode cX12_maskLine 179 = .ok (.dup2, 1) := by decide +kernel
theorem dX12_maskLine_180 : decode cX12_maskLine 180 = .ok (.iaload, 1) := by decide +kernel
theorem dX12_maskLine_181 : decode cX12_maskLine 181 = .ok (.iconst 1, 1) := by decide +kernel
theorem dX12_maskLine_182 : decode cX12_maskLine 182 = .ok (.iadd, 1) := by decide +kernel
theorem dX12_maskLine_183 : decode cX12_maskLine 183 = .ok (.iastore, 1) := by decide +kernel
theorem dX12_maskLine_184 : decode cX12_maskLine 184 = .ok (.return_, 1) := by decide +kernel
theorem dX12_personLine_0 : decode cX12_personLine 0 = .ok (.aload_n 0, 1) := by decide +kernel
theorem dX12_personLine_1 : decode cX12_personLine 1 = .ok (.getfield 92, 3) := by decide +kernel
theorem dX12_personLine_4 : decode cX12_personLine 4 = .ok (.ifCond .eq 4, 3) := by decide +kernel
theorem dX12_personLine_7 : decode cX12_personLine 7 = .ok (.return_, 1) := by decide +kernel
theorem dX12_personLine_8 : decode cX12_personLine 8 = .ok (.aload_n 0, 1) := by decide +kernel
theorem dX12_personLine_9 : decode cX12_personLine 9 = .ok (.getfield 23, 3) := by decide +kernel
theorem dX12_personLine_12 : decode cX12_personLine 12 = .ok (.iconst 3, 1) := by decide +kernel
theorem dX12_personLine_13 : decode cX12_personLine 13 = .ok (.iaload, 1) := by decide +kernel
theorem dX12_personLine_14 : decode cX12_personLine 14 = .ok (.istore_n 1, 1) := by decide +kernel
theorem dX12_personLine_15 : decode cX12_personLine 15 = .ok (.aload_n 0, 1) := by decide +kernel
theorem dX12_personLine_16 : decode cX12_personLine 16 = .ok (.invokevirtual 239, 3) := by decide +kernel
theorem dX12_personLine_19 : decode cX12_personLine 19 = .ok (.aload_n 0, 1) := by decide +kernel
theorem dX12_personLine_20 : decode cX12_personLine 20 = .ok (.getfield 92, 3) := by decide +kernel
theorem dX12_personLine_23 : decode cX12_personLine 23 = .ok (.ifCond .eq 4, 3) := by decide +kernel
theorem dX12_personLine_26 : decode cX12_personLine 26 = .ok (.return_, 1) := by decide +kernel
theorem dX12_personLine_27 : decode cX12_personLine 27 = .ok (.aload_n 0, 1) := by decide +kernel
theorem dX12_personLine_28 : decode cX12_personLine 28 = .ok (.bipush 11, 2) := by decide +kernel
theorem dX12_personLine_30 : decode cX12_personLine 30 = .ok (.iload_n 1, 1) := by decide +kernel
theorem dX12_personLine_31 : decode cX12_personLine 31 = .ok (.iadd, 1) := by decide +kernel
theorem dX12_personLine_32 : decode cX12_personLine 32 = .ok (.invokevirtual 242, 3) := by decide +kernel
theorem dX12_personLine_35 : decode cX12_personLine 35 = .ok (.aload_n 0, 1) := by decide +kernel
theorem dX12_personLine_36 : decode cX12_personLine 36 = .ok (.getfield 23, 3) := by decide +kernel
theorem dX12_personLine_39 : decode cX12_personLine 39 = .ok (.bipush 26, 2) := by decide +kernel
theorem dX12_personLine_41 : decode cX12_personLine 41 = .ok (.iload_n 1, 1) := by decide +kernel
theorem dX12_personLine_42 : decode cX12_personLine 42 = .ok (.iadd, 1) := by decide +kernel
theorem dX12_personLine_43 : decode cX12_personLine 43 = .ok (.aload_n 0, 1) := by decide +kernel
theorem dX12_personLine_44 : decode cX12_personLine 44 = .ok (.ldc 147, 2) := by decide +kernel
theorem dX12_personLine_46 : decode cX12_personLine 46 = .ok (.iconst 1, 1) := by decide +kernel
theorem dX12_personLine_47 : decode cX12_personLine 47 = .ok (.bipush 9, 2) := by decide +kernel
theorem dX12_personLine_49 : decode cX12_personLine 49 = .ok (.invokevirtual 235, 3) := by decide +kernel
theorem dX12_personLine_52 : decode cX12_personLine 52 = .ok (.iastore, 1) := by decide +kernel
theorem dX12_personLine_53 : decode cX12_personLine 53 = .ok (.aload_n 0, 1) := by decide +kernel
theorem dX12_personLine_54 : decode cX12_personLine 54 = .ok (.getfield 23, 3) := by decide +kernel
theorem dX12_personLine_57 : decode cX12_personLine 57 = .ok (.bipush 32, 2) := by decide +kernel
theorem dX12_personLine_59 : decode cX12_personLine 59 = .ok (.iload_n 1, 1) := by decide +kernel
theorem dX12_personLine_60 : decode cX12_personLine 60 = .ok (.iadd, 1) := by decide +kernel
theorem dX12_personLine_61 : decode cX12_personLine 61 = .ok (.aload_n 0, 1) := by decide +kernel
theorem dX12_personLine_62 : decode cX12_personLine 62 = .ok (.ldc_w 260, 3) := by decide +kernel
theorem dX12_personLine_65 : decode cX12_personLine 65 = .ok (.iconst 0, 1) := by decide +kernel
theorem dX12_personLine_66 : decode cX12_personLine 66 = .ok (.bipush 99, 2) := by decide +kernel
theorem dX12_personLine_68 : decode cX12_personLine 68 = .ok (.invokevirtual 235, 3) := by decide +kernel
theorem dX12_personLine_71 : decode cX12_personLine 71 = .ok (.iastore, 1) := by decide +kernel
theorem dX12_personLine_72 : decode cX12_personLine 72 = .ok (.aload_n 0, 1) := by decide +kernel
theorem dX12_personLine_73 : decode cX12_personLine 73 = .ok (.ldc 141, 2) := by decide +kernel
theorem dX12_personLine_75 : decode cX12_personLine 75 = .ok (.invokevirtual 116, 3) := by decide +kernel
theorem dX12_personLine_78 : decode cX12_personLine 78 = .ok (.ifCond .eq 13, 3) := by decide +kernel
theorem dX12_personLine_81 : decode cX12_personLine 81 = .ok (.aload_n 0, 1) := by decide +kernel
theorem dX12_personLine_82 : decode cX12_personLine 82 = .ok (.getfield 23, 3) := by decide +kernel
theorem dX12_personLine_85 : decode cX12_personLine 85 = .ok (.bipush 38, 2) := by decide +kernel
theorem dX12_personLine_87 : decode cX12_personLine 87 = .ok (.iload_n 1, 1) := by decide +kernel
theorem dX12_personLine_88 : decode cX12_personLine 88 = .ok (.iadd, 1) := by decide +kernel
theorem dX12_personLine_89 : decode cX12_personLine 89 = .ok (.iconst 1, 1) := by decide +kernel
theorem dX12_personLine_90 : decode cX12_personLine 90 = .ok (.iastore, 1) := by decide +kernel
theorem dX12_personLine_91 : decode cX12_personLine 91 = .ok (.aload_n 0, 1) := by decide +kernel
theorem dX12_personLine_92 : decode cX12_personLine 92 = .ok (.ldc 143, 2) := by decide +kernel
theorem dX12_personLine_94 : decode cX12_personLine 94 = .ok (.invokevirtual 116, 3) := by decide +kernel
theorem dX12_personLine_97 : decode cX12_personLine 97 = .ok (.ifCond .eq 18, 3) := by decide +kernel
theorem dX12_personLine_100 : decode cX12_personLine 100 = .ok (.aload_n 0, 1) := by decide +kernel
theorem dX12_personLine_101 : decode cX12_personLine 101 = .ok (.getfield 23, 3) := by decide +kernel
theorem dX12_personLine_104 : decode cX12_personLine 104 = .ok (.bipush 44, 2) := by decide +kernel
theorem dX12_personLine_106 : decode cX12_personLine 106 = .ok (.iload_n 1, 1) := by decide +kernel
theorem dX12_personLine_107 : decode cX12_personLine 107 = .ok (.iadd, 1) := by decide +kernel
theorem dX12_personLine_108 : decode cX12_personLine 108 = .ok (.aload_n 0, 1) := by decide +kernel
theorem dX12_personLine_109 : decode cX12_personLine 109 = .ok (.iconst 1, 1) := by decide +kernel
theorem dX12_personLine_110 : decode cX12_personLine 110 = .ok (.iconst 4, 1) := by decide +kernel
theorem dX12_personLine_111 : decode cX12_personLine 111 = .ok (.invokevirtual 170, 3) := by decide +kernel
theorem dX12_personLine_114 : decode cX12_personLine 114 = .ok (.iastore, 1) := by decide +kernel
theorem dX12_personLine_115 : decode cX12_personLine 115 = .ok (.aload_n 0, 1) := by decide +kernel
theorem dX12_personLine_116 : decode cX12_personLine 116 = .ok (.ldc 145, 2) := by decide +kernel
theorem dX12_personLine_118 : decode cX12_personLine 118 = .ok (.invokevirtual 116, 3) := by decide +kernel
theorem dX12_personLine_121 : decode cX12_personLine 121 = .ok (.ifCond .eq 43, 3) := by decide +kernel
theorem dX12_personLine_124 : decode cX12_personLine 124 = .ok (.iconst 1, 1) := by decide +kernel
theorem dX12_personLine_125 : decode cX12_personLine 125 = .ok (.aload_n 0, 1) := by decide +kernel
theorem dX12_personLine_126 : decode cX12_personLine 126 = .ok (.iconst 0, 1) := by decide +kernel
theorem dX12_personLine_127 : decode cX12_personLine 127 = .ok (.iconst 0, 1) := by decide +kernel
theorem dX12_personLine_128 : decode cX12_personLine 128 = .ok (.invokevirtual 262, 3) := by decide +kernel
theorem dX12_personLine_131 : decode cX12_personLine 131 = .ok (.ishl, 1) := by decide +kernel
theorem dX12_personLine_132 : decode cX12_personLine 132 = .ok (.istore_n 2, 1) := by decide +kernel
theorem dX12_personLine_133 : decode cX12_personLine 133 = .ok (.aload_n 0, 1) := by decide +kernel
theorem dX12_personLine_134 : decode cX12_personLine 134 = .ok (.invokevirtual 246, 3) := by decide +kernel
theorem dX12_personLine_137 : decode cX12_personLine 137 = .ok (.ifCond .eq 17, 3) := by decide +kernel
theorem dX12_personLine_140 : decode cX12_personLine 140 = .ok (.iload_n 2, 1) := by decide +kernel
theorem dX12_personLine_141 : decode cX12_personLine 141 = .ok (.iconst 1, 1) := by decide +kernel
theorem dX12_personLine_142 : decode cX12_personLine 142 = .ok (.aload_n 0, 1) := by decide +kernel
theorem dX12_personLine_143 : decode cX12_personLine 143 = .ok (.iconst 0, 1) := by decide +kernel
theorem dX12_personLine_144 : decode cX12_personLine 144 = .ok (.iload_n 2, 1) := by decide +kernel
theorem dX12_personLine_145 : decode cX12_personLine 145 = .ok (.invokevirtual 262, 3) := by decide +kernel
theorem dX12_personLine_148 : decode cX12_personLine 148 = .ok (.ishl, 1) := by decide +kernel
theorem dX12_personLine_149 : decode cX12_personLine 149 = .ok (.ior, 1) := by decide +kernel
theorem dX12_personLine_150 : decode cX12_personLine 150 = .ok (.istore_n 2, 1) := by decide +kernel
theorem dX12_personLine_151 : decode cX12_personLine 151 = .ok (.goto (-18), 3) := by decide +kernel
theorem dX12_personLine_154 : decode cX12_personLine 154 = .ok (.aload_n 0, 1) := by decide +kernel
theorem dX12_personLine_155 : decode cX12_personLine 155 = .ok (.getfield 23, 3) := by decide +kernel
theorem dX12_personLine_158 : decode cX12_personLine 158 = .ok (.bipush 50, 2) := by decide +kernel
theorem dX12_personLine_160 : decode cX12_personLine 160 = .ok (.iload_n 1, 1) := by decide +kernel
theorem dX12_personLine_161 : decode cX12_personLine 161 = .ok (.iadd, 1) := by decide +kernel
theorem dX12_personLine_162 : decode cX12_personLine 162 = .ok (.iload_n 2, 1) := by decide +kernel
theorem dX12_personLine_163 : decode cX12_personLine 163 = .ok (.iastore, 1) := by decide +kernel
theorem dX12_personLine_164 : decode cX12_personLine 164 = .ok (.aload_n 0, 1) := by decide +kernel
theorem dX12_personLine_165 : decode cX12_personLine 165 = .ok (.getfield 23, 3) := by decide +kernel
theorem dX12_personLine_168 : decode cX12_personLine 168 = .ok (.iconst 3, 1) := by decide +kernel
theorem dX12_personLine_169 : decode cX12_personLine 169 = .ok (.dup2, 1) := by decide +kernel
theorem dX12_personLine_170 : decode cX12_personLine 170 = .ok (.iaload, 1) := by decide +kernel
theorem dX12_personLine_171 : decode cX12_personLine 171 = .ok (.iconst 1, 1) := by decide +kernel
theorem dX12_personLine_172 : decode cX12_personLine 172 = .ok (.iadd, 1) := by decide +kernel
theorem dX12_personLine_173 : decode cX12_personLine 173 = .ok (.iastore, 1) := by decide +kernel
theorem dX12_personLine_174 : decode cX12_personLine 174 = .ok (.return_, 1) := by decide +kernel
theorem bitF5 : ∀ a, a < 32 → bitc a ≤ 5 ∧ ∀ k, k < 5 → a.testBit k = false → bitc (a ||| 2 ^ k) = bitc a + 1 := by decide +kernel
theorem keepF_l2 {tp : Nat → Nat} {sz e n k : Nat} {G : bkF} (h : k < 192) : keepF tp sz G e n k = G k := by unfold keepF; rw [if_neg (by omega), if_neg (by omega)]
section
variable {b : Nat} {ad : Nat → Nat} {I J : HI} {L M : HL} {R : HR} {Q : QT} {tp : Nat → Nat} {sz k e : Nat} {G F : bkF} {l : LSt} {s : PS}
theorem z_X12_workLine (h : I 157 13 = nI 1) (hQ : Q none SH I L R) : KK 9 mX12_workLine b ad [.ref (b + 157)] I L R Q := by
  refine K.of (M := mX12_workLine) (lv := [some (.ref (b + 157)), none]) (by decide) (Nat.le_of_ble_eq_true rfl) rfl ?_
  refine v_aload_0 dX12_workLine_0 ?_
  refine u_getI dX12_workLine_1 gf_X12_92 (by first | assumption | rfl | exact led_1 (by assumption) | exact led_2 (by assumption) | exact bk_m (by assumption) (by first | assumption | omega) | exact bk_p (by assumption) (by first | assumption | omega) | exact bk_o (by assumption) (by first | assumption | omega) | exact bk_s (by assumption) (by first | assumption | omega) | exact bk_1 (by assumption) | exact bk_2 (by assumption) | exact bk_3 (by assumption) | exact bk_4 (by assumption) | exact bk_5 (by assumption) | exact bk_6 (by assumption) | exact bk_7 (by assumption) | exact bk_8 (by assumption) | exact sh_ring _ (by first | assumption | omega) | exact sh_imgs _ (by first | assumption | omega)) ?_
  rw [h]
  refine v_if_ne (tgt := 11) dX12_workLine_4 (by decide) (fun hc4 => ?_) (fun hc4 => ?_)
  · (first | rw [bI_0, Bool.not_eq_false] at hc4 | rw [bI_0] at hc4 | rw [show (0 : Int32) = nI 0 from rfl, nI_eq (by omega) (by omega)] at hc4 | skip)
    refine v_iconst (v := nI 0) dX12_workLine_11 (by decide) ?_
    refine v_istore_1 rfl dX12_workLine_12 ?_
    refine v_iload_1 dX12_workLine_13 ?_
    refine v_if_eq (tgt := 83) dX12_workLine_14 (by decide) (fun hc14 => ?_) (fun hc14 => ?_)
    · (first | rw [bI_0, Bool.not_eq_false] at hc14 | rw [bI_0] at hc14 | rw [show (0 : Int32) = nI 0 from rfl, nI_eq (by omega) (by omega)] at hc14 | skip)
      refine v_vret dX12_workLine_83 rfl rfl rfl rfl ?_
      exact hQ
    · exact absurd rfl hc14
  · exact absurd hc4 (by decide)
theorem c_X12_workLine (hR : RO R) (h : LvM I tp sz s.1 s.2.1 s.2.2) (h1 : s.2.1 1 ≤ 5) (hF : ∀ f p, lWork tp sz (6 - s.2.1 1) s = .inl (f, p) → ∀ J : HI, FlM J f p → FrK I J → Q none SH J L R) (hY : ∀ u, lWork tp sz (6 - s.2.1 1) s = .inr u → ∀ J : HI, LvM J tp sz u.1 u.2.1 u.2.2 → FrK I J → Q none SH J L R) : KK 9 mX12_workLine b ad [.ref (b + 157)] I L R Q := by
  have loop : ∀ (n : Nat) (t : PS) (J : HI), n = 6 - t.2.1 1 → t.2.1 1 ≤ 5 → LvM J tp sz t.1 t.2.1 t.2.2 → FrK I J → lWork tp sz n t = lWork tp sz (6 - s.2.1 1) s → VV yX12_workLine cX12_workLine 2 none 9 Q b ad 13 [some (.ref (b + 157)), some (.int (nI 1))] [] J L R := by
    intro n
    induction n with
    | zero => intro t J hn h5; omega
    | succ n ih =>
      intro t J hn h5 hL jk he
      have hf1 := hL.2.2.2.2.1 1 (by decide)
      have t4 := hL.2.2.2.1.1
      have h13 := hL.2.2.1
      refine v_iload_1 dX12_workLine_13 ?_
      refine v_if_eq (tgt := 83) dX12_workLine_14 (by decide) (fun hc14 => ?_) (fun hc14 => ?_)
      · exact absurd hc14 (by decide)
      · (first | rw [bI_0, Bool.not_eq_false] at hc14 | rw [bI_0] at hc14 | rw [show (0 : Int32) = nI 0 from rfl, nI_eq (by omega) (by omega)] at hc14 | skip)
        refine v_aload_0 dX12_workLine_17 ?_
        refine u_callV_0 dX12_workLine_18 ml_X12_239 mv_X12_mustBeNew (by first | assumption | rfl | exact led_1 (by assumption) | exact led_2 (by assumption) | exact bk_m (by assumption) (by first | assumption | omega) | exact bk_p (by assumption) (by first | assumption | omega) | exact bk_o (by assumption) (by first | assumption | omega) | exact bk_s (by assumption) (by first | assumption | omega) | exact bk_1 (by assumption) | exact bk_2 (by assumption) | exact bk_3 (by assumption) | exact bk_4 (by assumption) | exact bk_5 (by assumption) | exact bk_6 (by assumption) | exact bk_7 (by assumption) | exact bk_8 (by assumption) | exact sh_ring _ (by first | assumption | omega) | exact sh_imgs _ (by first | assumption | omega)) (by decide) rfl (by decide) (Nat.le_of_ble_eq_true rfl) (c_X12_mustBeNew (s := t) hR hL NmE.refl (fun f p q J1 j1 j2 => ?_) (fun q1 kk => ?_))
        · refine v_aload_0 dX12_workLine_21 ?_
          refine u_getI dX12_workLine_22 gf_X12_92 (by first | assumption | rfl | exact led_1 (by assumption) | exact led_2 (by assumption) | exact bk_m (by assumption) (by first | assumption | omega) | exact bk_p (by assumption) (by first | assumption | omega) | exact bk_o (by assumption) (by first | assumption | omega) | exact bk_s (by assumption) (by first | assumption | omega) | exact bk_1 (by assumption) | exact bk_2 (by assumption) | exact bk_3 (by assumption) | exact bk_4 (by assumption) | exact bk_5 (by assumption) | exact bk_6 (by assumption) | exact bk_7 (by assumption) | exact bk_8 (by assumption) | exact sh_ring _ (by first | assumption | omega) | exact sh_imgs _ (by first | assumption | omega)) ?_
          rw [j1.1]
          refine v_if_ne (tgt := 47) dX12_workLine_25 (by decide) (fun hc25 => ?_) (fun hc25 => ?_)
          · (first | rw [bI_0, Bool.not_eq_false] at hc25 | rw [bI_0] at hc25 | rw [show (0 : Int32) = nI 0 from rfl, nI_eq (by omega) (by omega)] at hc25 | skip)
            refine v_aload_0 dX12_workLine_47 ?_
            refine u_getI dX12_workLine_48 gf_X12_92 (by first | assumption | rfl | exact led_1 (by assumption) | exact led_2 (by assumption) | exact bk_m (by assumption) (by first | assumption | omega) | exact bk_p (by assumption) (by first | assumption | omega) | exact bk_o (by assumption) (by first | assumption | omega) | exact bk_s (by assumption) (by first | assumption | omega) | exact bk_1 (by assumption) | exact bk_2 (by assumption) | exact bk_3 (by assumption) | exact bk_4 (by assumption) | exact bk_5 (by assumption) | exact bk_6 (by assumption) | exact bk_7 (by assumption) | exact bk_8 (by assumption) | exact sh_ring _ (by first | assumption | omega) | exact sh_imgs _ (by first | assumption | omega)) ?_
            rw [j1.1]
            refine v_if_eq (tgt := 55) dX12_workLine_51 (by decide) (fun hc51 => ?_) (fun hc51 => ?_)
            · exact absurd hc51 (by decide)
            · (first | rw [bI_0, Bool.not_eq_false] at hc51 | rw [bI_0] at hc51 | rw [show (0 : Int32) = nI 0 from rfl, nI_eq (by omega) (by omega)] at hc51 | skip)
              refine v_vret dX12_workLine_54 rfl rfl rfl rfl ?_
              exact hF f p (by rw [← he, lWork, bnd_l q]) _ j1 (jk.trans j2.k)
          · exact absurd hc25 (by decide)
        · refine v_aload_0 dX12_workLine_21 ?_
          refine u_getI dX12_workLine_22 gf_X12_92 (by first | assumption | rfl | exact led_1 (by assumption) | exact led_2 (by assumption) | exact bk_m (by assumption) (by first | assumption | omega) | exact bk_p (by assumption) (by first | assumption | omega) | exact bk_o (by assumption) (by first | assumption | omega) | exact bk_s (by assumption) (by first | assumption | omega) | exact bk_1 (by assumption) | exact bk_2 (by assumption) | exact bk_3 (by assumption) | exact bk_4 (by assumption) | exact bk_5 (by assumption) | exact bk_6 (by assumption) | exact bk_7 (by assumption) | exact bk_8 (by assumption) | exact sh_ring _ (by first | assumption | omega) | exact sh_imgs _ (by first | assumption | omega)) ?_
          rw [h13]
          refine v_if_ne (tgt := 47) dX12_workLine_25 (by decide) (fun hc25 => ?_) (fun hc25 => ?_)
          · exact absurd rfl hc25
          · (first | rw [bI_0, Bool.not_eq_false] at hc25 | rw [bI_0] at hc25 | rw [show (0 : Int32) = nI 0 from rfl, nI_eq (by omega) (by omega)] at hc25 | skip)
            refine v_aload_0 dX12_workLine_28 ?_
            refine u_getR dX12_workLine_29 gf_X12_23 (by first | assumption | rfl | exact led_1 (by assumption) | exact led_2 (by assumption) | exact bk_m (by assumption) (by first | assumption | omega) | exact bk_p (by assumption) (by first | assumption | omega) | exact bk_o (by assumption) (by first | assumption | omega) | exact bk_s (by assumption) (by first | assumption | omega) | exact bk_1 (by assumption) | exact bk_2 (by assumption) | exact bk_3 (by assumption) | exact bk_4 (by assumption) | exact bk_5 (by assumption) | exact bk_6 (by assumption) | exact bk_7 (by assumption) | exact bk_8 (by assumption) | exact sh_ring _ (by first | assumption | omega) | exact sh_imgs _ (by first | assumption | omega)) (ro_X12_16 (by assumption)) ?_
            refine v_iconst (v := nI 1) dX12_workLine_32 (by decide) ?_
            refine u_iald dX12_workLine_33 (by first | assumption | rfl | exact led_1 (by assumption) | exact led_2 (by assumption) | exact bk_m (by assumption) (by first | assumption | omega) | exact bk_p (by assumption) (by first | assumption | omega) | exact bk_o (by assumption) (by first | assumption | omega) | exact bk_s (by assumption) (by first | assumption | omega) | exact bk_1 (by assumption) | exact bk_2 (by assumption) | exact bk_3 (by assumption) | exact bk_4 (by assumption) | exact bk_5 (by assumption) | exact bk_6 (by assumption) | exact bk_7 (by assumption) | exact bk_8 (by assumption) | exact sh_ring _ (by first | assumption | omega) | exact sh_imgs _ (by first | assumption | omega)) (by first | with_reducible rfl | (simp only [nlit, nI_add, pk_mul]; with_reducible rfl) | rfl) (by first | assumption | omega) (by first | assumption | decide) ?_
            rw [hf1.1]
            refine v_iconst (v := nI 5) dX12_workLine_34 (by decide) ?_
            refine v_icmp_ne (tgt := 47) dX12_workLine_35 (by decide) (fun hc35 => ?_) (fun hc35 => ?_)
            · (try rw [nI_eq (by omega) (by omega)] at hc35)
              have k5 : t.2.1 1 < 5 := by omega
              refine v_aload_0 dX12_workLine_47 ?_
              refine u_getI dX12_workLine_48 gf_X12_92 (by first | assumption | rfl | exact led_1 (by assumption) | exact led_2 (by assumption) | exact bk_m (by assumption) (by first | assumption | omega) | exact bk_p (by assumption) (by first | assumption | omega) | exact bk_o (by assumption) (by first | assumption | omega) | exact bk_s (by assumption) (by first | assumption | omega) | exact bk_1 (by assumption) | exact bk_2 (by assumption) | exact bk_3 (by assumption) | exact bk_4 (by assumption) | exact bk_5 (by assumption) | exact bk_6 (by assumption) | exact bk_7 (by assumption) | exact bk_8 (by assumption) | exact sh_ring _ (by first | assumption | omega) | exact sh_imgs _ (by first | assumption | omega)) ?_
              rw [h13]
              refine v_if_eq (tgt := 55) dX12_workLine_51 (by decide) (fun hc51 => ?_) (fun hc51 => ?_)
              · (first | rw [bI_0, Bool.not_eq_false] at hc51 | rw [bI_0] at hc51 | rw [show (0 : Int32) = nI 0 from rfl, nI_eq (by omega) (by omega)] at hc51 | skip)
                refine v_aload_0 dX12_workLine_55 ?_
                refine v_aload_0 dX12_workLine_56 ?_
                refine u_getR dX12_workLine_57 gf_X12_23 (by first | assumption | rfl | exact led_1 (by assumption) | exact led_2 (by assumption) | exact bk_m (by assumption) (by first | assumption | omega) | exact bk_p (by assumption) (by first | assumption | omega) | exact bk_o (by assumption) (by first | assumption | omega) | exact bk_s (by assumption) (by first | assumption | omega) | exact bk_1 (by assumption) | exact bk_2 (by assumption) | exact bk_3 (by assumption) | exact bk_4 (by assumption) | exact bk_5 (by assumption) | exact bk_6 (by assumption) | exact bk_7 (by assumption) | exact bk_8 (by assumption) | exact sh_ring _ (by first | assumption | omega) | exact sh_imgs _ (by first | assumption | omega)) (ro_X12_16 (by assumption)) ?_
                refine v_iconst (v := nI 1) dX12_workLine_60 (by decide) ?_
                refine u_iald dX12_workLine_61 (by first | assumption | rfl | exact led_1 (by assumption) | exact led_2 (by assumption) | exact bk_m (by assumption) (by first | assumption | omega) | exact bk_p (by assumption) (by first | assumption | omega) | exact bk_o (by assumption) (by first | assumption | omega) | exact bk_s (by assumption) (by first | assumption | omega) | exact bk_1 (by assumption) | exact bk_2 (by assumption) | exact bk_3 (by assumption) | exact bk_4 (by assumption) | exact bk_5 (by assumption) | exact bk_6 (by assumption) | exact bk_7 (by assumption) | exact bk_8 (by assumption) | exact sh_ring _ (by first | assumption | omega) | exact sh_imgs _ (by first | assumption | omega)) (by first | with_reducible rfl | (simp only [nlit, nI_add, pk_mul]; with_reducible rfl) | rfl) (by first | assumption | omega) (by first | assumption | decide) ?_
                rw [hf1.1]
                refine u_callV_1 dX12_workLine_62 ml_X12_242 mv_X12_keepName (by first | assumption | rfl | exact led_1 (by assumption) | exact led_2 (by assumption) | exact bk_m (by assumption) (by first | assumption | omega) | exact bk_p (by assumption) (by first | assumption | omega) | exact bk_o (by assumption) (by first | assumption | omega) | exact bk_s (by assumption) (by first | assumption | omega) | exact bk_1 (by assumption) | exact bk_2 (by assumption) | exact bk_3 (by assumption) | exact bk_4 (by assumption) | exact bk_5 (by assumption) | exact bk_6 (by assumption) | exact bk_7 (by assumption) | exact bk_8 (by assumption) | exact sh_ring _ (by first | assumption | omega) | exact sh_imgs _ (by first | assumption | omega)) (by decide) rfl (by decide) (Nat.le_of_ble_eq_true rfl) (c_X12_keepName (n := t.2.1 1) (by omega) hR hL kk (fun J2 j21 j22 => ?_))
                have g1 : keepF tp sz t.2.1 t.1 (t.2.1 1) 1 = t.2.1 1 := keepF_l2 (by decide)
                have hf := j21.2.2.2.2.1 1 (by decide)
                have hW : LvM (ui J2 161 1 (nI (t.2.1 1 + 1))) tp sz (wkS tp sz t).1 (wkS tp sz t).2.1 (wkS tp sz t).2.2 := j21.put (by omega)
                have jw := (jk.trans j22).up (j := 1) (v := nI (t.2.1 1 + 1))
                refine v_aload_0 dX12_workLine_65 ?_
                refine u_getR dX12_workLine_66 gf_X12_23 (by first | assumption | rfl | exact led_1 (by assumption) | exact led_2 (by assumption) | exact bk_m (by assumption) (by first | assumption | omega) | exact bk_p (by assumption) (by first | assumption | omega) | exact bk_o (by assumption) (by first | assumption | omega) | exact bk_s (by assumption) (by first | assumption | omega) | exact bk_1 (by assumption) | exact bk_2 (by assumption) | exact bk_3 (by assumption) | exact bk_4 (by assumption) | exact bk_5 (by assumption) | exact bk_6 (by assumption) | exact bk_7 (by assumption) | exact bk_8 (by assumption) | exact sh_ring _ (by first | assumption | omega) | exact sh_imgs _ (by first | assumption | omega)) (ro_X12_16 (by assumption)) ?_
                refine v_iconst (v := nI 1) dX12_workLine_69 (by decide) ?_
                refine v_dup2 dX12_workLine_70 rfl rfl ?_
                refine u_iald dX12_workLine_71 (by first | assumption | rfl | exact led_1 (by assumption) | exact led_2 (by assumption) | exact bk_m (by assumption) (by first | assumption | omega) | exact bk_p (by assumption) (by first | assumption | omega) | exact bk_o (by assumption) (by first | assumption | omega) | exact bk_s (by assumption) (by first | assumption | omega) | exact bk_1 (by assumption) | exact bk_2 (by assumption) | exact bk_3 (by assumption) | exact bk_4 (by assumption) | exact bk_5 (by assumption) | exact bk_6 (by assumption) | exact bk_7 (by assumption) | exact bk_8 (by assumption) | exact sh_ring _ (by first | assumption | omega) | exact sh_imgs _ (by first | assumption | omega)) (by first | with_reducible rfl | (simp only [nlit, nI_add, pk_mul]; with_reducible rfl) | rfl) (by first | assumption | omega) (by first | assumption | decide) ?_
                rw [hf.1, g1]
                refine v_iconst (v := nI 1) dX12_workLine_72 (by decide) ?_
                refine v_iadd dX12_workLine_73 ?_
                rw [nI_add]
                refine u_iast dX12_workLine_74 (by first | assumption | rfl | exact led_1 (by assumption) | exact led_2 (by assumption) | exact bk_m (by assumption) (by first | assumption | omega) | exact bk_p (by assumption) (by first | assumption | omega) | exact bk_o (by assumption) (by first | assumption | omega) | exact bk_s (by assumption) (by first | assumption | omega) | exact bk_1 (by assumption) | exact bk_2 (by assumption) | exact bk_3 (by assumption) | exact bk_4 (by assumption) | exact bk_5 (by assumption) | exact bk_6 (by assumption) | exact bk_7 (by assumption) | exact bk_8 (by assumption) | exact sh_ring _ (by first | assumption | omega) | exact sh_imgs _ (by first | assumption | omega)) (by first | with_reducible rfl | (simp only [nlit, nI_add, pk_mul]; with_reducible rfl) | rfl) (by first | assumption | omega) (by first | assumption | decide) ?_
                refine v_aload_0 dX12_workLine_75 ?_
                refine u_callV_0 dX12_workLine_76 ml_X12_246 mv_X12_comma (by first | assumption | rfl | exact led_1 (by assumption) | exact led_2 (by assumption) | exact bk_m (by assumption) (by first | assumption | omega) | exact bk_p (by assumption) (by first | assumption | omega) | exact bk_o (by assumption) (by first | assumption | omega) | exact bk_s (by assumption) (by first | assumption | omega) | exact bk_1 (by assumption) | exact bk_2 (by assumption) | exact bk_3 (by assumption) | exact bk_4 (by assumption) | exact bk_5 (by assumption) | exact bk_6 (by assumption) | exact bk_7 (by assumption) | exact bk_8 (by assumption) | exact sh_ring _ (by first | assumption | omega) | exact sh_imgs _ (by first | assumption | omega)) (by decide) rfl (by decide) (Nat.le_of_ble_eq_true rfl) (c_X12_comma hR hW (fun q2 => ?_) (fun q2 J3 j31 j32 => ?_))
                · refine v_istore_1 rfl dX12_workLine_79 ?_
                  refine v_goto (tgt := 13) dX12_workLine_80 (by decide) ?_
                  refine v_iload_1 dX12_workLine_13 ?_
                  refine v_if_eq (tgt := 83) dX12_workLine_14 (by decide) (fun hc14 => ?_) (fun hc14 => ?_)
                  · (first | rw [bI_0, Bool.not_eq_false] at hc14 | rw [bI_0] at hc14 | rw [show (0 : Int32) = nI 0 from rfl, nI_eq (by omega) (by omega)] at hc14 | skip)
                    refine v_vret dX12_workLine_83 rfl rfl rfl rfl ?_
                    exact hY _ (by rw [← he, lWork, bnd_r q1, if_neg (by omega), if_neg q2]) _ hW jw
                  · exact absurd rfl hc14
                · refine v_istore_1 rfl dX12_workLine_79 ?_
                  refine v_goto (tgt := 13) dX12_workLine_80 (by decide) ?_
                  have w1 : (wkS tp sz t).2.1 1 = t.2.1 1 + 1 := setF_s (keepF tp sz t.2.1 t.1 (t.2.1 1)) 1 (t.2.1 1 + 1)
                  exact ih (nx tp sz (wkS tp sz t)) J3 (by show n = 6 - (wkS tp sz t).2.1 1; rw [w1]; omega) (by show (wkS tp sz t).2.1 1 ≤ 5; rw [w1]; omega) j31 (jw.trans j32.k) (by rw [← he, lWork, bnd_r q1, if_neg (by omega), if_pos q2])
              · exact absurd rfl hc51
            · (try rw [nI_eq (by omega) (by omega)] at hc35)
              refine v_aload_0 dX12_workLine_38 ?_
              refine v_iconst (v := nI 5) dX12_workLine_39 (by decide) ?_
              refine v_aload_0 dX12_workLine_40 ?_
              refine u_getI dX12_workLine_41 gf_X12_73 (by first | assumption | rfl | exact led_1 (by assumption) | exact led_2 (by assumption) | exact bk_m (by assumption) (by first | assumption | omega) | exact bk_p (by assumption) (by first | assumption | omega) | exact bk_o (by assumption) (by first | assumption | omega) | exact bk_s (by assumption) (by first | assumption | omega) | exact bk_1 (by assumption) | exact bk_2 (by assumption) | exact bk_3 (by assumption) | exact bk_4 (by assumption) | exact bk_5 (by assumption) | exact bk_6 (by assumption) | exact bk_7 (by assumption) | exact bk_8 (by assumption) | exact sh_ring _ (by first | assumption | omega) | exact sh_imgs _ (by first | assumption | omega)) ?_
              rw [t4]
              refine u_callV_2 dX12_workLine_44 ml_X12_119 mv_X12_wrong (by first | assumption | rfl | exact led_1 (by assumption) | exact led_2 (by assumption) | exact bk_m (by assumption) (by first | assumption | omega) | exact bk_p (by assumption) (by first | assumption | omega) | exact bk_o (by assumption) (by first | assumption | omega) | exact bk_s (by assumption) (by first | assumption | omega) | exact bk_1 (by assumption) | exact bk_2 (by assumption) | exact bk_3 (by assumption) | exact bk_4 (by assumption) | exact bk_5 (by assumption) | exact bk_6 (by assumption) | exact bk_7 (by assumption) | exact bk_8 (by assumption) | exact sh_ring _ (by first | assumption | omega) | exact sh_imgs _ (by first | assumption | omega)) (by decide) rfl (by decide) (Nat.le_of_ble_eq_true rfl) (c_X12_wrong h13 ?_)
              refine v_aload_0 dX12_workLine_47 ?_
              refine u_getI dX12_workLine_48 gf_X12_92 (by first | assumption | rfl | exact led_1 (by assumption) | exact led_2 (by assumption) | exact bk_m (by assumption) (by first | assumption | omega) | exact bk_p (by assumption) (by first | assumption | omega) | exact bk_o (by assumption) (by first | assumption | omega) | exact bk_s (by assumption) (by first | assumption | omega) | exact bk_1 (by assumption) | exact bk_2 (by assumption) | exact bk_3 (by assumption) | exact bk_4 (by assumption) | exact bk_5 (by assumption) | exact bk_6 (by assumption) | exact bk_7 (by assumption) | exact bk_8 (by assumption) | exact sh_ring _ (by first | assumption | omega) | exact sh_imgs _ (by first | assumption | omega)) ?_
              rw [wrong_fl.1.1]
              refine v_if_eq (tgt := 55) dX12_workLine_51 (by decide) (fun hc51 => ?_) (fun hc51 => ?_)
              · exact absurd hc51 (by decide)
              · (first | rw [bI_0, Bool.not_eq_false] at hc51 | rw [bI_0] at hc51 | rw [show (0 : Int32) = nI 0 from rfl, nI_eq (by omega) (by omega)] at hc51 | skip)
                refine v_vret dX12_workLine_54 rfl rfl rfl rfl ?_
                exact hF 5 _ (by rw [← he, lWork, bnd_r q1, if_pos (by omega)]) _ wrong_fl.1 (jk.trans wrong_fl.2.k)
  refine K.of (M := mX12_workLine) (lv := [some (.ref (b + 157)), none]) (by decide) (Nat.le_of_ble_eq_true rfl) rfl ?_
  refine v_aload_0 dX12_workLine_0 ?_
  refine u_getI dX12_workLine_1 gf_X12_92 (by first | assumption | rfl | exact led_1 (by assumption) | exact led_2 (by assumption) | exact bk_m (by assumption) (by first | assumption | omega) | exact bk_p (by assumption) (by first | assumption | omega) | exact bk_o (by assumption) (by first | assumption | omega) | exact bk_s (by assumption) (by first | assumption | omega) | exact bk_1 (by assumption) | exact bk_2 (by assumption) | exact bk_3 (by assumption) | exact bk_4 (by assumption) | exact bk_5 (by assumption) | exact bk_6 (by assumption) | exact bk_7 (by assumption) | exact bk_8 (by assumption) | exact sh_ring _ (by first | assumption | omega) | exact sh_imgs _ (by first | assumption | omega)) ?_
  rw [h.2.2.1]
  refine v_if_ne (tgt := 11) dX12_workLine_4 (by decide) (fun hc4 => ?_) (fun hc4 => ?_)
  · exact absurd rfl hc4
  · (first | rw [bI_0, Bool.not_eq_false] at hc4 | rw [bI_0] at hc4 | rw [show (0 : Int32) = nI 0 from rfl, nI_eq (by omega) (by omega)] at hc4 | skip)
    refine v_iconst (v := nI 1) dX12_workLine_7 (by decide) ?_
    refine v_goto (tgt := 12) dX12_workLine_8 (by decide) ?_
    refine v_istore_1 rfl dX12_workLine_12 ?_
    exact loop (6 - s.2.1 1) s I rfl h1 h FrK.refl rfl
theorem z_X12_maskLine (h : I 157 13 = nI 1) (hQ : Q none SH I L R) : KK 9 mX12_maskLine b ad [.ref (b + 157)] I L R Q := by
  refine K.of (M := mX12_maskLine) (lv := [some (.ref (b + 157)), none, none]) (by decide) (Nat.le_of_ble_eq_true rfl) rfl ?_
  refine v_aload_0 dX12_maskLine_0 ?_
  refine u_getI dX12_maskLine_1 gf_X12_92 (by first | assumption | rfl | exact led_1 (by assumption) | exact led_2 (by assumption) | exact bk_m (by assumption) (by first | assumption | omega) | exact bk_p (by assumption) (by first | assumption | omega) | exact bk_o (by assumption) (by first | assumption | omega) | exact bk_s (by assumption) (by first | assumption | omega) | exact bk_1 (by assumption) | exact bk_2 (by assumption) | exact bk_3 (by assumption) | exact bk_4 (by assumption) | exact bk_5 (by assumption) | exact bk_6 (by assumption) | exact bk_7 (by assumption) | exact bk_8 (by assumption) | exact sh_ring _ (by first | assumption | omega) | exact sh_imgs _ (by first | assumption | omega)) ?_
  rw [h]
  refine v_if_eq (tgt := 8) dX12_maskLine_4 (by decide) (fun hc4 => ?_) (fun hc4 => ?_)
  · exact absurd hc4 (by decide)
  · (first | rw [bI_0, Bool.not_eq_false] at hc4 | rw [bI_0] at hc4 | rw [show (0 : Int32) = nI 0 from rfl, nI_eq (by omega) (by omega)] at hc4 | skip)
    refine v_vret dX12_maskLine_7 rfl rfl rfl rfl ?_
    exact hQ
theorem c_X12_maskLine (hR : RO R) (h : LvM I tp sz s.1 s.2.1 s.2.2) (hI : PInv sz s) (h2 : s.2.1 2 < 6) (hF : ∀ f p, lMask tp sz s = .inl (f, p) → ∀ J : HI, FlM J f p → FrK I J → Q none SH J L R) (hY : ∀ u, lMask tp sz s = .inr u → ∀ J : HI, LvM J tp sz u.1 u.2.1 u.2.2 → FrK I J → Q none SH J L R) : KK 9 mX12_maskLine b ad [.ref (b + 157)] I L R Q := by
  have hL := h
  have hG : NmE s.2.1 s.2.1 := NmE.refl
  have jk : FrK I I := FrK.refl
  have hO := hI.2.1
  have o0 := hO.1
  have o1 := hO.2.1
  have o2 := hO.2.2.1
  have o3 := hO.2.2.2.1
  have o4 := hO.2.2.2.2.1
  have o5 := hO.2.2.2.2.2.1
  have o6 := hO.2.2.2.2.2.2.1
  have es0 : s.2 = s.2 := rfl
  refine K.of (M := mX12_maskLine) (lv := [some (.ref (b + 157)), none, none]) (by decide) (Nat.le_of_ble_eq_true rfl) rfl ?_
  refine v_aload_0 dX12_maskLine_0 ?_
  refine u_getI dX12_maskLine_1 gf_X12_92 (by first | assumption | rfl | exact led_1 (by assumption) | exact led_2 (by assumption) | exact bk_m (by assumption) (by first | assumption | omega) | exact bk_p (by assumption) (by first | assumption | omega) | exact bk_o (by assumption) (by first | assumption | omega) | exact bk_s (by assumption) (by first | assumption | omega) | exact bk_1 (by assumption) | exact bk_2 (by assumption) | exact bk_3 (by assumption) | exact bk_4 (by assumption) | exact bk_5 (by assumption) | exact bk_6 (by assumption) | exact bk_7 (by assumption) | exact bk_8 (by assumption) | exact sh_ring _ (by first | assumption | omega) | exact sh_imgs _ (by first | assumption | omega)) ?_
  rw [hL.2.2.1]
  refine v_if_eq (tgt := 8) dX12_maskLine_4 (by decide) (fun hc4 => ?_) (fun hc4 => ?_)
  · (first | rw [bI_0, Bool.not_eq_false] at hc4 | rw [bI_0] at hc4 | rw [show (0 : Int32) = nI 0 from rfl, nI_eq (by omega) (by omega)] at hc4 | skip)
    refine v_aload_0 dX12_maskLine_8 ?_
    refine u_getR dX12_maskLine_9 gf_X12_23 (by first | assumption | rfl | exact led_1 (by assumption) | exact led_2 (by assumption) | exact bk_m (by assumption) (by first | assumption | omega) | exact bk_p (by assumption) (by first | assumption | omega) | exact bk_o (by assumption) (by first | assumption | omega) | exact bk_s (by assumption) (by first | assumption | omega) | exact bk_1 (by assumption) | exact bk_2 (by assumption) | exact bk_3 (by assumption) | exact bk_4 (by assumption) | exact bk_5 (by assumption) | exact bk_6 (by assumption) | exact bk_7 (by assumption) | exact bk_8 (by assumption) | exact sh_ring _ (by first | assumption | omega) | exact sh_imgs _ (by first | assumption | omega)) (ro_X12_16 (by assumption)) ?_
    refine v_iconst (v := nI 2) dX12_maskLine_12 (by decide) ?_
    refine u_iald dX12_maskLine_13 (by first | assumption | rfl | exact led_1 (by assumption) | exact led_2 (by assumption) | exact bk_m (by assumption) (by first | assumption | omega) | exact bk_p (by assumption) (by first | assumption | omega) | exact bk_o (by assumption) (by first | assumption | omega) | exact bk_s (by assumption) (by first | assumption | omega) | exact bk_1 (by assumption) | exact bk_2 (by assumption) | exact bk_3 (by assumption) | exact bk_4 (by assumption) | exact bk_5 (by assumption) | exact bk_6 (by assumption) | exact bk_7 (by assumption) | exact bk_8 (by assumption) | exact sh_ring _ (by first | assumption | omega) | exact sh_imgs _ (by first | assumption | omega)) (by first | with_reducible rfl | (simp only [nlit, nI_add, pk_mul]; with_reducible rfl) | rfl) (by first | assumption | omega) (by first | assumption | decide) ?_
    rw [(hL.2.2.2.2.1 2 (by decide)).1]
    refine v_istore_1 rfl dX12_maskLine_14 ?_
    refine v_aload_0 dX12_maskLine_15 ?_
    refine u_callV_0 dX12_maskLine_16 ml_X12_239 mv_X12_mustBeNew (by first | assumption | rfl | exact led_1 (by assumption) | exact led_2 (by assumption) | exact bk_m (by assumption) (by first | assumption | omega) | exact bk_p (by assumption) (by first | assumption | omega) | exact bk_o (by assumption) (by first | assumption | omega) | exact bk_s (by assumption) (by first | assumption | omega) | exact bk_1 (by assumption) | exact bk_2 (by assumption) | exact bk_3 (by assumption) | exact bk_4 (by assumption) | exact bk_5 (by assumption) | exact bk_6 (by assumption) | exact bk_7 (by assumption) | exact bk_8 (by assumption) | exact sh_ring _ (by first | assumption | omega) | exact sh_imgs _ (by first | assumption | omega)) (by decide) rfl (by decide) (Nat.le_of_ble_eq_true rfl) (c_X12_mustBeNew (s := s) hR hL hG (fun f p q J j1 j2 => ?_) (fun q1 kk => ?_))
    · have jf := jk.trans j2.k
      refine v_aload_0 dX12_maskLine_19 ?_
      refine u_getI dX12_maskLine_20 gf_X12_92 (by first | assumption | rfl | exact led_1 (by assumption) | exact led_2 (by assumption) | exact bk_m (by assumption) (by first | assumption | omega) | exact bk_p (by assumption) (by first | assumption | omega) | exact bk_o (by assumption) (by first | assumption | omega) | exact bk_s (by assumption) (by first | assumption | omega) | exact bk_1 (by assumption) | exact bk_2 (by assumption) | exact bk_3 (by assumption) | exact bk_4 (by assumption) | exact bk_5 (by assumption) | exact bk_6 (by assumption) | exact bk_7 (by assumption) | exact bk_8 (by assumption) | exact sh_ring _ (by first | assumption | omega) | exact sh_imgs _ (by first | assumption | omega)) ?_
      (try simp only [ui_ne (show (157 : Nat) ≠ 161 by decide)])
      rw [j1.1]
      refine v_if_eq (tgt := 27) dX12_maskLine_23 (by decide) (fun hc23 => ?_) (fun hc23 => ?_)
      · exact absurd hc23 (by decide)
      · (first | rw [bI_0, Bool.not_eq_false] at hc23 | rw [bI_0] at hc23 | rw [show (0 : Int32) = nI 0 from rfl, nI_eq (by omega) (by omega)] at hc23 | skip)
        refine v_vret dX12_maskLine_26 rfl rfl rfl rfl ?_
        refine hF f p (by rw [lMask, bnd_l q]) _ ?_ ?_
        · (repeat (first | exact j1 | apply FlM.put))
        · (repeat (first | exact jf | apply FrK.up))
    · refine v_aload_0 dX12_maskLine_19 ?_
      refine u_getI dX12_maskLine_20 gf_X12_92 (by first | assumption | rfl | exact led_1 (by assumption) | exact led_2 (by assumption) | exact bk_m (by assumption) (by first | assumption | omega) | exact bk_p (by assumption) (by first | assumption | omega) | exact bk_o (by assumption) (by first | assumption | omega) | exact bk_s (by assumption) (by first | assumption | omega) | exact bk_1 (by assumption) | exact bk_2 (by assumption) | exact bk_3 (by assumption) | exact bk_4 (by assumption) | exact bk_5 (by assumption) | exact bk_6 (by assumption) | exact bk_7 (by assumption) | exact bk_8 (by assumption) | exact sh_ring _ (by first | assumption | omega) | exact sh_imgs _ (by first | assumption | omega)) ?_
      rw [hL.2.2.1]
      refine v_if_eq (tgt := 27) dX12_maskLine_23 (by decide) (fun hc23 => ?_) (fun hc23 => ?_)
      · (first | rw [bI_0, Bool.not_eq_false] at hc23 | rw [bI_0] at hc23 | rw [show (0 : Int32) = nI 0 from rfl, nI_eq (by omega) (by omega)] at hc23 | skip)
        refine v_aload_0 dX12_maskLine_27 ?_
        refine v_iconst (v := nI 5) dX12_maskLine_28 (by decide) ?_
        refine v_iload_1 dX12_maskLine_29 ?_
        refine v_iadd dX12_maskLine_30 ?_
        rw [nI_add]
        refine u_callV_1 dX12_maskLine_31 ml_X12_242 mv_X12_keepName (by first | assumption | rfl | exact led_1 (by assumption) | exact led_2 (by assumption) | exact bk_m (by assumption) (by first | assumption | omega) | exact bk_p (by assumption) (by first | assumption | omega) | exact bk_o (by assumption) (by first | assumption | omega) | exact bk_s (by assumption) (by first | assumption | omega) | exact bk_1 (by assumption) | exact bk_2 (by assumption) | exact bk_3 (by assumption) | exact bk_4 (by assumption) | exact bk_5 (by assumption) | exact bk_6 (by assumption) | exact bk_7 (by assumption) | exact bk_8 (by assumption) | exact sh_ring _ (by first | assumption | omega) | exact sh_imgs _ (by first | assumption | omega)) (by decide) rfl (by decide) (Nat.le_of_ble_eq_true rfl) (c_X12_keepName (n := 5 + s.2.1 2) (by omega) hR hL kk (fun J2 hL j22 => ?_))
        have jk := jk.trans j22
        have hG : NmE (kept tp sz (5 + s.2.1 2) s).2.1 (kept tp sz (5 + s.2.1 2) s).2.1 := NmE.refl
        have hc_2 : keepF tp sz s.2.1 s.1 (5 + s.2.1 2) 2 = s.2.1 2 := keepF_l2 (by decide)
        have t4 := hL.2.2.2.1.1
        have cut : ∀ kd, kd < 5 → qKind tp sz (kept tp sz (5 + s.2.1 2) s) = .inr (kd, nx tp sz (kept tp sz (5 + s.2.1 2) s)) → VV yX12_maskLine cX12_maskLine 3 none 9 Q b ad 101 [some (.ref (b + 157)), some (.int (nI (s.2.1 2))), none] [.int (nI kd)] J2 L R := by
          intro kd hkd q2
          refine v_istore_2 rfl dX12_maskLine_101 ?_
          refine v_iload_2 dX12_maskLine_102 ?_
          refine v_if_ge (tgt := 115) dX12_maskLine_103 (by decide) (fun hc103 => ?_) (fun hc103 => ?_)
          · skip
            refine v_aload_0 dX12_maskLine_115 ?_
            refine u_getI dX12_maskLine_116 gf_X12_92 (by first | assumption | rfl | exact led_1 (by assumption) | exact led_2 (by assumption) | exact bk_m (by assumption) (by first | assumption | omega) | exact bk_p (by assumption) (by first | assumption | omega) | exact bk_o (by assumption) (by first | assumption | omega) | exact bk_s (by assumption) (by first | assumption | omega) | exact bk_1 (by assumption) | exact bk_2 (by assumption) | exact bk_3 (by assumption) | exact bk_4 (by assumption) | exact bk_5 (by assumption) | exact bk_6 (by assumption) | exact bk_7 (by assumption) | exact bk_8 (by assumption) | exact sh_ring _ (by first | assumption | omega) | exact sh_imgs _ (by first | assumption | omega)) ?_
            rw [hL.2.2.1]
            refine v_if_eq (tgt := 123) dX12_maskLine_119 (by decide) (fun hc119 => ?_) (fun hc119 => ?_)
            · (first | rw [bI_0, Bool.not_eq_false] at hc119 | rw [bI_0] at hc119 | rw [show (0 : Int32) = nI 0 from rfl, nI_eq (by omega) (by omega)] at hc119 | skip)
              refine v_aload_0 dX12_maskLine_123 ?_
              refine u_callV_0 dX12_maskLine_124 ml_X12_113 mv_X12_next (by first | assumption | rfl | exact led_1 (by assumption) | exact led_2 (by assumption) | exact bk_m (by assumption) (by first | assumption | omega) | exact bk_p (by assumption) (by first | assumption | omega) | exact bk_o (by assumption) (by first | assumption | omega) | exact bk_s (by assumption) (by first | assumption | omega) | exact bk_1 (by assumption) | exact bk_2 (by assumption) | exact bk_3 (by assumption) | exact bk_4 (by assumption) | exact bk_5 (by assumption) | exact bk_6 (by assumption) | exact bk_7 (by assumption) | exact bk_8 (by assumption) | exact sh_ring _ (by first | assumption | omega) | exact sh_imgs _ (by first | assumption | omega)) (by decide) rfl (by decide) (Nat.le_of_ble_eq_true rfl) (c_X12_next hR hL.1 hL.E hL.2.2.2.1.2.1 (fun J3 t1 f1 => ?_))
              have hL := hL.nx hL.E t1 f1
              have jk := jk.trans f1.p.k
              have es0 : (nx tp sz (kept tp sz (5 + s.2.1 2) s)).2 = (kept tp sz (5 + s.2.1 2) s).2 := rfl
              refine v_aload_0 dX12_maskLine_127 ?_
              refine u_getR dX12_maskLine_128 gf_X12_23 (by first | assumption | rfl | exact led_1 (by assumption) | exact led_2 (by assumption) | exact bk_m (by assumption) (by first | assumption | omega) | exact bk_p (by assumption) (by first | assumption | omega) | exact bk_o (by assumption) (by first | assumption | omega) | exact bk_s (by assumption) (by first | assumption | omega) | exact bk_1 (by assumption) | exact bk_2 (by assumption) | exact bk_3 (by assumption) | exact bk_4 (by assumption) | exact bk_5 (by assumption) | exact bk_6 (by assumption) | exact bk_7 (by assumption) | exact bk_8 (by assumption) | exact sh_ring _ (by first | assumption | omega) | exact sh_imgs _ (by first | assumption | omega)) (ro_X12_16 (by assumption)) ?_
              refine v_bipush (v := nI 8) dX12_maskLine_131 (by decide) ?_
              refine v_iload_1 dX12_maskLine_133 ?_
              refine v_iadd dX12_maskLine_134 ?_
              rw [nI_add]
              refine v_iload_2 dX12_maskLine_135 ?_
              refine u_iast dX12_maskLine_136 (by first | assumption | rfl | exact led_1 (by assumption) | exact led_2 (by assumption) | exact bk_m (by assumption) (by first | assumption | omega) | exact bk_p (by assumption) (by first | assumption | omega) | exact bk_o (by assumption) (by first | assumption | omega) | exact bk_s (by assumption) (by first | assumption | omega) | exact bk_1 (by assumption) | exact bk_2 (by assumption) | exact bk_3 (by assumption) | exact bk_4 (by assumption) | exact bk_5 (by assumption) | exact bk_6 (by assumption) | exact bk_7 (by assumption) | exact bk_8 (by assumption) | exact sh_ring _ (by first | assumption | omega) | exact sh_imgs _ (by first | assumption | omega)) (by first | with_reducible rfl | (simp only [nlit, nI_add, pk_mul]; with_reducible rfl) | rfl) (by first | assumption | omega) (by first | assumption | decide) ?_
              have hL := hL.put (j := 8 + s.2.1 2) (v := kd) (by omega)
              have hG := hG.put (j := 8 + s.2.1 2) (v := kd) (by omega)
              have jk := jk.up (j := 8 + s.2.1 2) (v := nI (kd))
              have hc_2 := (setF_n (k := 8 + s.2.1 2) (v := kd) (show 2 ≠ 8 + s.2.1 2 by omega)).trans hc_2
              refine v_aload_0 dX12_maskLine_137 ?_
              refine u_getR dX12_maskLine_138 gf_X12_23 (by first | assumption | rfl | exact led_1 (by assumption) | exact led_2 (by assumption) | exact bk_m (by assumption) (by first | assumption | omega) | exact bk_p (by assumption) (by first | assumption | omega) | exact bk_o (by assumption) (by first | assumption | omega) | exact bk_s (by assumption) (by first | assumption | omega) | exact bk_1 (by assumption) | exact bk_2 (by assumption) | exact bk_3 (by assumption) | exact bk_4 (by assumption) | exact bk_5 (by assumption) | exact bk_6 (by assumption) | exact bk_7 (by assumption) | exact bk_8 (by assumption) | exact sh_ring _ (by first | assumption | omega) | exact sh_imgs _ (by first | assumption | omega)) (ro_X12_16 (by assumption)) ?_
              refine v_bipush (v := nI 14) dX12_maskLine_141 (by decide) ?_
              refine v_iload_1 dX12_maskLine_143 ?_
              refine v_iadd dX12_maskLine_144 ?_
              rw [nI_add]
              refine v_aload_0 dX12_maskLine_145 ?_
              refine v_ldcS (i := 41) dX12_maskLine_146 (by decide) rfl rfl ?_
              refine v_iconst (v := nI 1) dX12_maskLine_148 (by decide) ?_
              refine v_bipush (v := nI 9) dX12_maskLine_149 (by decide) ?_
              refine u_callV_3 dX12_maskLine_151 ml_X12_235 mv_X12_told (by first | assumption | rfl | exact led_1 (by assumption) | exact led_2 (by assumption) | exact bk_m (by assumption) (by first | assumption | omega) | exact bk_p (by assumption) (by first | assumption | omega) | exact bk_o (by assumption) (by first | assumption | omega) | exact bk_s (by assumption) (by first | assumption | omega) | exact bk_1 (by assumption) | exact bk_2 (by assumption) | exact bk_3 (by assumption) | exact bk_4 (by assumption) | exact bk_5 (by assumption) | exact bk_6 (by assumption) | exact bk_7 (by assumption) | exact bk_8 (by assumption) | exact sh_ring _ (by first | assumption | omega) | exact sh_imgs _ (by first | assumption | omega)) (by decide) rfl (by decide) (Nat.le_of_ble_eq_true rfl) (c_X12_told (i := 41) (lo := 1) (hi := 9) (s := (nx tp sz (kept tp sz (5 + s.2.1 2) s))) (by decide) (by omega) (by omega) hR hL (fun f p q J j1 j2 => ?_) (fun v3 u3 q3 e3 g3 h3 w3 J3 j31 j32 => ?_))
              · have q : qWhole tp sz (wd 12) 1 9 (nx tp sz (kept tp sz (5 + s.2.1 2) s)) = .inl (f, p) := q
                have jf := jk.trans j2.k
                refine u_iast dX12_maskLine_154 (by first | assumption | rfl | exact led_1 (by assumption) | exact led_2 (by assumption) | exact bk_m (by assumption) (by first | assumption | omega) | exact bk_p (by assumption) (by first | assumption | omega) | exact bk_o (by assumption) (by first | assumption | omega) | exact bk_s (by assumption) (by first | assumption | omega) | exact bk_1 (by assumption) | exact bk_2 (by assumption) | exact bk_3 (by assumption) | exact bk_4 (by assumption) | exact bk_5 (by assumption) | exact bk_6 (by assumption) | exact bk_7 (by assumption) | exact bk_8 (by assumption) | exact sh_ring _ (by first | assumption | omega) | exact sh_imgs _ (by first | assumption | omega)) (by first | with_reducible rfl | (simp only [nlit, nI_add, pk_mul]; with_reducible rfl) | rfl) (by first | assumption | omega) (by first | assumption | decide) ?_
                refine v_aload_0 dX12_maskLine_155 ?_
                refine u_getR dX12_maskLine_156 gf_X12_23 (by first | assumption | rfl | exact led_1 (by assumption) | exact led_2 (by assumption) | exact bk_m (by assumption) (by first | assumption | omega) | exact bk_p (by assumption) (by first | assumption | omega) | exact bk_o (by assumption) (by first | assumption | omega) | exact bk_s (by assumption) (by first | assumption | omega) | exact bk_1 (by assumption) | exact bk_2 (by assumption) | exact bk_3 (by assumption) | exact bk_4 (by assumption) | exact bk_5 (by assumption) | exact bk_6 (by assumption) | exact bk_7 (by assumption) | exact bk_8 (by assumption) | exact sh_ring _ (by first | assumption | omega) | exact sh_imgs _ (by first | assumption | omega)) (ro_X12_16 (by assumption)) ?_
                refine v_bipush (v := nI 20) dX12_maskLine_159 (by decide) ?_
                refine v_iload_1 dX12_maskLine_161 ?_
                refine v_iadd dX12_maskLine_162 ?_
                refine v_aload_0 dX12_maskLine_163 ?_
                refine v_ldcSw (i := 46) dX12_maskLine_164 (by decide) rfl rfl ?_
                refine v_iconst (v := nI 0) dX12_maskLine_167 (by decide) ?_
                refine v_bipush (v := nI 99) dX12_maskLine_168 (by decide) ?_
                refine u_callV_3 dX12_maskLine_170 ml_X12_235 mv_X12_told (by first | assumption | rfl | exact led_1 (by assumption) | exact led_2 (by assumption) | exact bk_m (by assumption) (by first | assumption | omega) | exact bk_p (by assumption) (by first | assumption | omega) | exact bk_o (by assumption) (by first | assumption | omega) | exact bk_s (by assumption) (by first | assumption | omega) | exact bk_1 (by assumption) | exact bk_2 (by assumption) | exact bk_3 (by assumption) | exact bk_4 (by assumption) | exact bk_5 (by assumption) | exact bk_6 (by assumption) | exact bk_7 (by assumption) | exact bk_8 (by assumption) | exact sh_ring _ (by first | assumption | omega) | exact sh_imgs _ (by first | assumption | omega)) (by decide) rfl (by decide) (Nat.le_of_ble_eq_true rfl) (z_X12_told (by (try simp only [ui_ne (show (157 : Nat) ≠ 161 by decide)]); exact j1.1) ?_)
                refine u_iast dX12_maskLine_173 (by first | assumption | rfl | exact led_1 (by assumption) | exact led_2 (by assumption) | exact bk_m (by assumption) (by first | assumption | omega) | exact bk_p (by assumption) (by first | assumption | omega) | exact bk_o (by assumption) (by first | assumption | omega) | exact bk_s (by assumption) (by first | assumption | omega) | exact bk_1 (by assumption) | exact bk_2 (by assumption) | exact bk_3 (by assumption) | exact bk_4 (by assumption) | exact bk_5 (by assumption) | exact bk_6 (by assumption) | exact bk_7 (by assumption) | exact bk_8 (by assumption) | exact sh_ring _ (by first | assumption | omega) | exact sh_imgs _ (by first | assumption | omega)) (by first | with_reducible rfl | (simp only [nlit, nI_add, pk_mul]; with_reducible rfl) | rfl) (by first | assumption | omega) (by first | assumption | decide) ?_
                refine v_aload_0 dX12_maskLine_174 ?_
                refine u_getR dX12_maskLine_175 gf_X12_23 (by first | assumption | rfl | exact led_1 (by assumption) | exact led_2 (by assumption) | exact bk_m (by assumption) (by first | assumption | omega) | exact bk_p (by assumption) (by first | assumption | omega) | exact bk_o (by assumption) (by first | assumption | omega) | exact bk_s (by assumption) (by first | assumption | omega) | exact bk_1 (by assumption) | exact bk_2 (by assumption) | exact bk_3 (by assumption) | exact bk_4 (by assumption) | exact bk_5 (by assumption) | exact bk_6 (by assumption) | exact bk_7 (by assumption) | exact bk_8 (by assumption) | exact sh_ring _ (by first | assumption | omega) | exact sh_imgs _ (by first | assumption | omega)) (ro_X12_16 (by assumption)) ?_
                refine v_iconst (v := nI 2) dX12_maskLine_178 (by decide) ?_
                refine v_dup2 dX12_maskLine_179 rfl rfl ?_
                refine u_iald dX12_maskLine_180 (by first | assumption | rfl | exact led_1 (by assumption) | exact led_2 (by assumption) | exact bk_m (by assumption) (by first | assumption | omega) | exact bk_p (by assumption) (by first | assumption | omega) | exact bk_o (by assumption) (by first | assumption | omega) | exact bk_s (by assumption) (by first | assumption | omega) | exact bk_1 (by assumption) | exact bk_2 (by assumption) | exact bk_3 (by assumption) | exact bk_4 (by assumption) | exact bk_5 (by assumption) | exact bk_6 (by assumption) | exact bk_7 (by assumption) | exact bk_8 (by assumption) | exact sh_ring _ (by first | assumption | omega) | exact sh_imgs _ (by first | assumption | omega)) (by first | with_reducible rfl | (simp only [nlit, nI_add, pk_mul]; with_reducible rfl) | rfl) (by first | assumption | omega) (by first | assumption | decide) ?_
                refine v_iconst (v := nI 1) dX12_maskLine_181 (by decide) ?_
                refine v_iadd dX12_maskLine_182 ?_
                refine u_iast dX12_maskLine_183 (by first | assumption | rfl | exact led_1 (by assumption) | exact led_2 (by assumption) | exact bk_m (by assumption) (by first | assumption | omega) | exact bk_p (by assumption) (by first | assumption | omega) | exact bk_o (by assumption) (by first | assumption | omega) | exact bk_s (by assumption) (by first | assumption | omega) | exact bk_1 (by assumption) | exact bk_2 (by assumption) | exact bk_3 (by assumption) | exact bk_4 (by assumption) | exact bk_5 (by assumption) | exact bk_6 (by assumption) | exact bk_7 (by assumption) | exact bk_8 (by assumption) | exact sh_ring _ (by first | assumption | omega) | exact sh_imgs _ (by first | assumption | omega)) (by first | with_reducible rfl | (simp only [nlit, nI_add, pk_mul]; with_reducible rfl) | rfl) (by first | assumption | omega) (by first | assumption | decide) ?_
                refine v_vret dX12_maskLine_184 rfl rfl rfl rfl ?_
                refine hF f p (by rw [lMask, bnd_r q1, bnd_r q2, bnd_l q]) _ ?_ ?_
                · (repeat (first | exact j1 | apply FlM.put))
                · (repeat (first | exact jf | apply FrK.up))
              · have q3 : qWhole tp sz (wd 12) 1 9 (nx tp sz (kept tp sz (5 + s.2.1 2) s)) = .inr (v3, u3) := q3
                have es3 : u3.2 = (kept tp sz (5 + s.2.1 2) s).2 := e3.trans es0
                have hL := j31
                have jk := jk.trans j32.k
                refine u_iast dX12_maskLine_154 (by first | assumption | rfl | exact led_1 (by assumption) | exact led_2 (by assumption) | exact bk_m (by assumption) (by first | assumption | omega) | exact bk_p (by assumption) (by first | assumption | omega) | exact bk_o (by assumption) (by first | assumption | omega) | exact bk_s (by assumption) (by first | assumption | omega) | exact bk_1 (by assumption) | exact bk_2 (by assumption) | exact bk_3 (by assumption) | exact bk_4 (by assumption) | exact bk_5 (by assumption) | exact bk_6 (by assumption) | exact bk_7 (by assumption) | exact bk_8 (by assumption) | exact sh_ring _ (by first | assumption | omega) | exact sh_imgs _ (by first | assumption | omega)) (by first | with_reducible rfl | (simp only [nlit, nI_add, pk_mul]; with_reducible rfl) | rfl) (by first | assumption | omega) (by first | assumption | decide) ?_
                have hL := hL.put (j := 14 + s.2.1 2) (v := v3) (by omega)
                have hG := hG.put (j := 14 + s.2.1 2) (v := v3) (by omega)
                have jk := jk.up (j := 14 + s.2.1 2) (v := nI (v3))
                have hc_2 := (setF_n (k := 14 + s.2.1 2) (v := v3) (show 2 ≠ 14 + s.2.1 2 by omega)).trans hc_2
                refine v_aload_0 dX12_maskLine_155 ?_
                refine u_getR dX12_maskLine_156 gf_X12_23 (by first | assumption | rfl | exact led_1 (by assumption) | exact led_2 (by assumption) | exact bk_m (by assumption) (by first | assumption | omega) | exact bk_p (by assumption) (by first | assumption | omega) | exact bk_o (by assumption) (by first | assumption | omega) | exact bk_s (by assumption) (by first | assumption | omega) | exact bk_1 (by assumption) | exact bk_2 (by assumption) | exact bk_3 (by assumption) | exact bk_4 (by assumption) | exact bk_5 (by assumption) | exact bk_6 (by assumption) | exact bk_7 (by assumption) | exact bk_8 (by assumption) | exact sh_ring _ (by first | assumption | omega) | exact sh_imgs _ (by first | assumption | omega)) (ro_X12_16 (by assumption)) ?_
                refine v_bipush (v := nI 20) dX12_maskLine_159 (by decide) ?_
                refine v_iload_1 dX12_maskLine_161 ?_
                refine v_iadd dX12_maskLine_162 ?_
                rw [nI_add]
                refine v_aload_0 dX12_maskLine_163 ?_
                refine v_ldcSw (i := 46) dX12_maskLine_164 (by decide) rfl rfl ?_
                refine v_iconst (v := nI 0) dX12_maskLine_167 (by decide) ?_
                refine v_bipush (v := nI 99) dX12_maskLine_168 (by decide) ?_
                refine u_callV_3 dX12_maskLine_170 ml_X12_235 mv_X12_told (by first | assumption | rfl | exact led_1 (by assumption) | exact led_2 (by assumption) | exact bk_m (by assumption) (by first | assumption | omega) | exact bk_p (by assumption) (by first | assumption | omega) | exact bk_o (by assumption) (by first | assumption | omega) | exact bk_s (by assumption) (by first | assumption | omega) | exact bk_1 (by assumption) | exact bk_2 (by assumption) | exact bk_3 (by assumption) | exact bk_4 (by assumption) | exact bk_5 (by assumption) | exact bk_6 (by assumption) | exact bk_7 (by assumption) | exact bk_8 (by assumption) | exact sh_ring _ (by first | assumption | omega) | exact sh_imgs _ (by first | assumption | omega)) (by decide) rfl (by decide) (Nat.le_of_ble_eq_true rfl) (c_X12_told (i := 46) (lo := 0) (hi := 99) (s := u3) (by decide) (by omega) (by omega) hR hL (fun f p q J j1 j2 => ?_) (fun v4 u4 q4 e4 g4 h4 w4 J4 j41 j42 => ?_))
                · have q : qWhole tp sz (wd 18) 0 99 u3 = .inl (f, p) := q
                  have jf := jk.trans j2.k
                  refine u_iast dX12_maskLine_173 (by first | assumption | rfl | exact led_1 (by assumption) | exact led_2 (by assumption) | exact bk_m (by assumption) (by first | assumption | omega) | exact bk_p (by assumption) (by first | assumption | omega) | exact bk_o (by assumption) (by first | assumption | omega) | exact bk_s (by assumption) (by first | assumption | omega) | exact bk_1 (by assumption) | exact bk_2 (by assumption) | exact bk_3 (by assumption) | exact bk_4 (by assumption) | exact bk_5 (by assumption) | exact bk_6 (by assumption) | exact bk_7 (by assumption) | exact bk_8 (by assumption) | exact sh_ring _ (by first | assumption | omega) | exact sh_imgs _ (by first | assumption | omega)) (by first | with_reducible rfl | (simp only [nlit, nI_add, pk_mul]; with_reducible rfl) | rfl) (by first | assumption | omega) (by first | assumption | decide) ?_
                  refine v_aload_0 dX12_maskLine_174 ?_
                  refine u_getR dX12_maskLine_175 gf_X12_23 (by first | assumption | rfl | exact led_1 (by assumption) | exact led_2 (by assumption) | exact bk_m (by assumption) (by first | assumption | omega) | exact bk_p (by assumption) (by first | assumption | omega) | exact bk_o (by assumption) (by first | assumption | omega) | exact bk_s (by assumption) (by first | assumption | omega) | exact bk_1 (by assumption) | exact bk_2 (by assumption) | exact bk_3 (by assumption) | exact bk_4 (by assumption) | exact bk_5 (by assumption) | exact bk_6 (by assumption) | exact bk_7 (by assumption) | exact bk_8 (by assumption) | exact sh_ring _ (by first | assumption | omega) | exact sh_imgs _ (by first | assumption | omega)) (ro_X12_16 (by assumption)) ?_
                  refine v_iconst (v := nI 2) dX12_maskLine_178 (by decide) ?_
                  refine v_dup2 dX12_maskLine_179 rfl rfl ?_
                  refine u_iald dX12_maskLine_180 (by first | assumption | rfl | exact led_1 (by assumption) | exact led_2 (by assumption) | exact bk_m (by assumption) (by first | assumption | omega) | exact bk_p (by assumption) (by first | assumption | omega) | exact bk_o (by assumption) (by first | assumption | omega) | exact bk_s (by assumption) (by first | assumption | omega) | exact bk_1 (by assumption) | exact bk_2 (by assumption) | exact bk_3 (by assumption) | exact bk_4 (by assumption) | exact bk_5 (by assumption) | exact bk_6 (by assumption) | exact bk_7 (by assumption) | exact bk_8 (by assumption) | exact sh_ring _ (by first | assumption | omega) | exact sh_imgs _ (by first | assumption | omega)) (by first | with_reducible rfl | (simp only [nlit, nI_add, pk_mul]; with_reducible rfl) | rfl) (by first | assumption | omega) (by first | assumption | decide) ?_
                  refine v_iconst (v := nI 1) dX12_maskLine_181 (by decide) ?_
                  refine v_iadd dX12_maskLine_182 ?_
                  refine u_iast dX12_maskLine_183 (by first | assumption | rfl | exact led_1 (by assumption) | exact led_2 (by assumption) | exact bk_m (by assumption) (by first | assumption | omega) | exact bk_p (by assumption) (by first | assumption | omega) | exact bk_o (by assumption) (by first | assumption | omega) | exact bk_s (by assumption) (by first | assumption | omega) | exact bk_1 (by assumption) | exact bk_2 (by assumption) | exact bk_3 (by assumption) | exact bk_4 (by assumption) | exact bk_5 (by assumption) | exact bk_6 (by assumption) | exact bk_7 (by assumption) | exact bk_8 (by assumption) | exact sh_ring _ (by first | assumption | omega) | exact sh_imgs _ (by first | assumption | omega)) (by first | with_reducible rfl | (simp only [nlit, nI_add, pk_mul]; with_reducible rfl) | rfl) (by first | assumption | omega) (by first | assumption | decide) ?_
                  refine v_vret dX12_maskLine_184 rfl rfl rfl rfl ?_
                  refine hF f p (by rw [lMask, bnd_r q1, bnd_r q2, bnd_r q3, bnd_l q]) _ ?_ ?_
                  · (repeat (first | exact j1 | apply FlM.put))
                  · (repeat (first | exact jf | apply FrK.up))
                · have q4 : qWhole tp sz (wd 18) 0 99 u3 = .inr (v4, u4) := q4
                  have es4 : u4.2 = (kept tp sz (5 + s.2.1 2) s).2 := e4.trans es3
                  have hL := j41
                  have jk := jk.trans j42.k
                  refine u_iast dX12_maskLine_173 (by first | assumption | rfl | exact led_1 (by assumption) | exact led_2 (by assumption) | exact bk_m (by assumption) (by first | assumption | omega) | exact bk_p (by assumption) (by first | assumption | omega) | exact bk_o (by assumption) (by first | assumption | omega) | exact bk_s (by assumption) (by first | assumption | omega) | exact bk_1 (by assumption) | exact bk_2 (by assumption) | exact bk_3 (by assumption) | exact bk_4 (by assumption) | exact bk_5 (by assumption) | exact bk_6 (by assumption) | exact bk_7 (by assumption) | exact bk_8 (by assumption) | exact sh_ring _ (by first | assumption | omega) | exact sh_imgs _ (by first | assumption | omega)) (by first | with_reducible rfl | (simp only [nlit, nI_add, pk_mul]; with_reducible rfl) | rfl) (by first | assumption | omega) (by first | assumption | decide) ?_
                  have hL := hL.put (j := 20 + s.2.1 2) (v := v4) (by omega)
                  have hG := hG.put (j := 20 + s.2.1 2) (v := v4) (by omega)
                  have jk := jk.up (j := 20 + s.2.1 2) (v := nI (v4))
                  have hc_2 := (setF_n (k := 20 + s.2.1 2) (v := v4) (show 2 ≠ 20 + s.2.1 2 by omega)).trans hc_2
                  refine v_aload_0 dX12_maskLine_174 ?_
                  refine u_getR dX12_maskLine_175 gf_X12_23 (by first | assumption | rfl | exact led_1 (by assumption) | exact led_2 (by assumption) | exact bk_m (by assumption) (by first | assumption | omega) | exact bk_p (by assumption) (by first | assumption | omega) | exact bk_o (by assumption) (by first | assumption | omega) | exact bk_s (by assumption) (by first | assumption | omega) | exact bk_1 (by assumption) | exact bk_2 (by assumption) | exact bk_3 (by assumption) | exact bk_4 (by assumption) | exact bk_5 (by assumption) | exact bk_6 (by assumption) | exact bk_7 (by assumption) | exact bk_8 (by assumption) | exact sh_ring _ (by first | assumption | omega) | exact sh_imgs _ (by first | assumption | omega)) (ro_X12_16 (by assumption)) ?_
                  refine v_iconst (v := nI 2) dX12_maskLine_178 (by decide) ?_
                  refine v_dup2 dX12_maskLine_179 rfl rfl ?_
                  refine u_iald dX12_maskLine_180 (by first | assumption | rfl | exact led_1 (by assumption) | exact led_2 (by assumption) | exact bk_m (by assumption) (by first | assumption | omega) | exact bk_p (by assumption) (by first | assumption | omega) | exact bk_o (by assumption) (by first | assumption | omega) | exact bk_s (by assumption) (by first | assumption | omega) | exact bk_1 (by assumption) | exact bk_2 (by assumption) | exact bk_3 (by assumption) | exact bk_4 (by assumption) | exact bk_5 (by assumption) | exact bk_6 (by assumption) | exact bk_7 (by assumption) | exact bk_8 (by assumption) | exact sh_ring _ (by first | assumption | omega) | exact sh_imgs _ (by first | assumption | omega)) (by first | with_reducible rfl | (simp only [nlit, nI_add, pk_mul]; with_reducible rfl) | rfl) (by first | assumption | omega) (by first | assumption | decide) ?_
                  rw [(hL.2.2.2.2.1 2 (by decide)).1, hc_2]
                  refine v_iconst (v := nI 1) dX12_maskLine_181 (by decide) ?_
                  refine v_iadd dX12_maskLine_182 ?_
                  rw [nI_add]
                  refine u_iast dX12_maskLine_183 (by first | assumption | rfl | exact led_1 (by assumption) | exact led_2 (by assumption) | exact bk_m (by assumption) (by first | assumption | omega) | exact bk_p (by assumption) (by first | assumption | omega) | exact bk_o (by assumption) (by first | assumption | omega) | exact bk_s (by assumption) (by first | assumption | omega) | exact bk_1 (by assumption) | exact bk_2 (by assumption) | exact bk_3 (by assumption) | exact bk_4 (by assumption) | exact bk_5 (by assumption) | exact bk_6 (by assumption) | exact bk_7 (by assumption) | exact bk_8 (by assumption) | exact sh_ring _ (by first | assumption | omega) | exact sh_imgs _ (by first | assumption | omega)) (by first | with_reducible rfl | (simp only [nlit, nI_add, pk_mul]; with_reducible rfl) | rfl) (by first | assumption | omega) (by first | assumption | decide) ?_
                  have hL := hL.put (j := 2) (v := s.2.1 2 + 1) (by omega)
                  have hG := hG.put (j := 2) (v := s.2.1 2 + 1) (by omega)
                  have jk := jk.up (j := 2) (v := nI (s.2.1 2 + 1))
                  refine v_vret dX12_maskLine_184 rfl rfl rfl rfl ?_
                  refine hY _ (by rw [lMask, bnd_r q1, bnd_r q2, bnd_r q3, bnd_r q4]) _ ?_ jk
                  show LvM _ _ _ _ (setF (setF (setF (setF u4.2.1 (8 + s.2.1 2) kd) (14 + s.2.1 2) v3) (20 + s.2.1 2) v4) 2 (s.2.1 2 + 1)) u4.2.2
                  rw [es4]
                  exact hL
            · exact absurd rfl hc119
          · exact absurd (nI_pos2 (by omega)) hc103
        refine v_aload_0 dX12_maskLine_34 ?_
        refine v_ldcS (i := 42) dX12_maskLine_35 (by decide) rfl rfl ?_
        refine u_callV_1 dX12_maskLine_37 ml_X12_109 mv_X12_isWord (by first | assumption | rfl | exact led_1 (by assumption) | exact led_2 (by assumption) | exact bk_m (by assumption) (by first | assumption | omega) | exact bk_p (by assumption) (by first | assumption | omega) | exact bk_o (by assumption) (by first | assumption | omega) | exact bk_s (by assumption) (by first | assumption | omega) | exact bk_1 (by assumption) | exact bk_2 (by assumption) | exact bk_3 (by assumption) | exact bk_4 (by assumption) | exact bk_5 (by assumption) | exact bk_6 (by assumption) | exact bk_7 (by assumption) | exact bk_8 (by assumption) | exact sh_ring _ (by first | assumption | omega) | exact sh_imgs _ (by first | assumption | omega)) (by decide) rfl (by decide) (Nat.le_of_ble_eq_true rfl) (c_X12_isWord (by decide) hR hL ?_)
        refine v_if_eq (tgt := 47) dX12_maskLine_40 (by decide) (fun hc40 => ?_) (fun hc40 => ?_)
        · (first | rw [bI_0, Bool.not_eq_false] at hc40 | rw [bI_0] at hc40 | rw [show (0 : Int32) = nI 0 from rfl, nI_eq (by omega) (by omega)] at hc40 | skip)
          refine v_aload_0 dX12_maskLine_47 ?_
          refine v_ldcS (i := 38) dX12_maskLine_48 (by decide) rfl rfl ?_
          refine u_callV_1 dX12_maskLine_50 ml_X12_109 mv_X12_isWord (by first | assumption | rfl | exact led_1 (by assumption) | exact led_2 (by assumption) | exact bk_m (by assumption) (by first | assumption | omega) | exact bk_p (by assumption) (by first | assumption | omega) | exact bk_o (by assumption) (by first | assumption | omega) | exact bk_s (by assumption) (by first | assumption | omega) | exact bk_1 (by assumption) | exact bk_2 (by assumption) | exact bk_3 (by assumption) | exact bk_4 (by assumption) | exact bk_5 (by assumption) | exact bk_6 (by assumption) | exact bk_7 (by assumption) | exact bk_8 (by assumption) | exact sh_ring _ (by first | assumption | omega) | exact sh_imgs _ (by first | assumption | omega)) (by decide) rfl (by decide) (Nat.le_of_ble_eq_true rfl) (c_X12_isWord (by decide) hR hL ?_)
          refine v_if_eq (tgt := 60) dX12_maskLine_53 (by decide) (fun hc53 => ?_) (fun hc53 => ?_)
          · (first | rw [bI_0, Bool.not_eq_false] at hc53 | rw [bI_0] at hc53 | rw [show (0 : Int32) = nI 0 from rfl, nI_eq (by omega) (by omega)] at hc53 | skip)
            refine v_aload_0 dX12_maskLine_60 ?_
            refine v_ldcS (i := 43) dX12_maskLine_61 (by decide) rfl rfl ?_
            refine u_callV_1 dX12_maskLine_63 ml_X12_109 mv_X12_isWord (by first | assumption | rfl | exact led_1 (by assumption) | exact led_2 (by assumption) | exact bk_m (by assumption) (by first | assumption | omega) | exact bk_p (by assumption) (by first | assumption | omega) | exact bk_o (by assumption) (by first | assumption | omega) | exact bk_s (by assumption) (by first | assumption | omega) | exact bk_1 (by assumption) | exact bk_2 (by assumption) | exact bk_3 (by assumption) | exact bk_4 (by assumption) | exact bk_5 (by assumption) | exact bk_6 (by assumption) | exact bk_7 (by assumption) | exact bk_8 (by assumption) | exact sh_ring _ (by first | assumption | omega) | exact sh_imgs _ (by first | assumption | omega)) (by decide) rfl (by decide) (Nat.le_of_ble_eq_true rfl) (c_X12_isWord (by decide) hR hL ?_)
            refine v_if_eq (tgt := 73) dX12_maskLine_66 (by decide) (fun hc66 => ?_) (fun hc66 => ?_)
            · (first | rw [bI_0, Bool.not_eq_false] at hc66 | rw [bI_0] at hc66 | rw [show (0 : Int32) = nI 0 from rfl, nI_eq (by omega) (by omega)] at hc66 | skip)
              refine v_aload_0 dX12_maskLine_73 ?_
              refine v_ldcS (i := 44) dX12_maskLine_74 (by decide) rfl rfl ?_
              refine u_callV_1 dX12_maskLine_76 ml_X12_109 mv_X12_isWord (by first | assumption | rfl | exact led_1 (by assumption) | exact led_2 (by assumption) | exact bk_m (by assumption) (by first | assumption | omega) | exact bk_p (by assumption) (by first | assumption | omega) | exact bk_o (by assumption) (by first | assumption | omega) | exact bk_s (by assumption) (by first | assumption | omega) | exact bk_1 (by assumption) | exact bk_2 (by assumption) | exact bk_3 (by assumption) | exact bk_4 (by assumption) | exact bk_5 (by assumption) | exact bk_6 (by assumption) | exact bk_7 (by assumption) | exact bk_8 (by assumption) | exact sh_ring _ (by first | assumption | omega) | exact sh_imgs _ (by first | assumption | omega)) (by decide) rfl (by decide) (Nat.le_of_ble_eq_true rfl) (c_X12_isWord (by decide) hR hL ?_)
              refine v_if_eq (tgt := 86) dX12_maskLine_79 (by decide) (fun hc79 => ?_) (fun hc79 => ?_)
              · (first | rw [bI_0, Bool.not_eq_false] at hc79 | rw [bI_0] at hc79 | rw [show (0 : Int32) = nI 0 from rfl, nI_eq (by omega) (by omega)] at hc79 | skip)
                refine v_aload_0 dX12_maskLine_86 ?_
                refine v_ldcSw (i := 45) dX12_maskLine_87 (by decide) rfl rfl ?_
                refine u_callV_1 dX12_maskLine_90 ml_X12_109 mv_X12_isWord (by first | assumption | rfl | exact led_1 (by assumption) | exact led_2 (by assumption) | exact bk_m (by assumption) (by first | assumption | omega) | exact bk_p (by assumption) (by first | assumption | omega) | exact bk_o (by assumption) (by first | assumption | omega) | exact bk_s (by assumption) (by first | assumption | omega) | exact bk_1 (by assumption) | exact bk_2 (by assumption) | exact bk_3 (by assumption) | exact bk_4 (by assumption) | exact bk_5 (by assumption) | exact bk_6 (by assumption) | exact bk_7 (by assumption) | exact bk_8 (by assumption) | exact sh_ring _ (by first | assumption | omega) | exact sh_imgs _ (by first | assumption | omega)) (by decide) rfl (by decide) (Nat.le_of_ble_eq_true rfl) (c_X12_isWord (by decide) hR hL ?_)
                refine v_if_eq (tgt := 100) dX12_maskLine_93 (by decide) (fun hc93 => ?_) (fun hc93 => ?_)
                · (first | rw [bI_0, Bool.not_eq_false] at hc93 | rw [bI_0] at hc93 | rw [show (0 : Int32) = nI 0 from rfl, nI_eq (by omega) (by omega)] at hc93 | skip)
                  refine v_iconst (v := -1) dX12_maskLine_100 (by decide) ?_
                  refine v_istore_2 rfl dX12_maskLine_101 ?_
                  refine v_iload_2 dX12_maskLine_102 ?_
                  refine v_if_ge (tgt := 115) dX12_maskLine_103 (by decide) (fun hc103 => ?_) (fun hc103 => ?_)
                  · exact absurd hc103 (by decide)
                  · skip
                    refine v_aload_0 dX12_maskLine_106 ?_
                    refine v_iconst (v := nI 1) dX12_maskLine_107 (by decide) ?_
                    refine v_aload_0 dX12_maskLine_108 ?_
                    refine u_getI dX12_maskLine_109 gf_X12_73 (by first | assumption | rfl | exact led_1 (by assumption) | exact led_2 (by assumption) | exact bk_m (by assumption) (by first | assumption | omega) | exact bk_p (by assumption) (by first | assumption | omega) | exact bk_o (by assumption) (by first | assumption | omega) | exact bk_s (by assumption) (by first | assumption | omega) | exact bk_1 (by assumption) | exact bk_2 (by assumption) | exact bk_3 (by assumption) | exact bk_4 (by assumption) | exact bk_5 (by assumption) | exact bk_6 (by assumption) | exact bk_7 (by assumption) | exact bk_8 (by assumption) | exact sh_ring _ (by first | assumption | omega) | exact sh_imgs _ (by first | assumption | omega)) ?_
                    rw [t4]
                    refine u_callV_2 dX12_maskLine_112 ml_X12_119 mv_X12_wrong (by first | assumption | rfl | exact led_1 (by assumption) | exact led_2 (by assumption) | exact bk_m (by assumption) (by first | assumption | omega) | exact bk_p (by assumption) (by first | assumption | omega) | exact bk_o (by assumption) (by first | assumption | omega) | exact bk_s (by assumption) (by first | assumption | omega) | exact bk_1 (by assumption) | exact bk_2 (by assumption) | exact bk_3 (by assumption) | exact bk_4 (by assumption) | exact bk_5 (by assumption) | exact bk_6 (by assumption) | exact bk_7 (by assumption) | exact bk_8 (by assumption) | exact sh_ring _ (by first | assumption | omega) | exact sh_imgs _ (by first | assumption | omega)) (by decide) rfl (by decide) (Nat.le_of_ble_eq_true rfl) (c_X12_wrong hL.2.2.1 ?_)
                    refine v_aload_0 dX12_maskLine_115 ?_
                    refine u_getI dX12_maskLine_116 gf_X12_92 (by first | assumption | rfl | exact led_1 (by assumption) | exact led_2 (by assumption) | exact bk_m (by assumption) (by first | assumption | omega) | exact bk_p (by assumption) (by first | assumption | omega) | exact bk_o (by assumption) (by first | assumption | omega) | exact bk_s (by assumption) (by first | assumption | omega) | exact bk_1 (by assumption) | exact bk_2 (by assumption) | exact bk_3 (by assumption) | exact bk_4 (by assumption) | exact bk_5 (by assumption) | exact bk_6 (by assumption) | exact bk_7 (by assumption) | exact bk_8 (by assumption) | exact sh_ring _ (by first | assumption | omega) | exact sh_imgs _ (by first | assumption | omega)) ?_
                    rw [wrong_fl.1.1]
                    refine v_if_eq (tgt := 123) dX12_maskLine_119 (by decide) (fun hc119 => ?_) (fun hc119 => ?_)
                    · exact absurd hc119 (by decide)
                    · (first | rw [bI_0, Bool.not_eq_false] at hc119 | rw [bI_0] at hc119 | rw [show (0 : Int32) = nI 0 from rfl, nI_eq (by omega) (by omega)] at hc119 | skip)
                      refine v_vret dX12_maskLine_122 rfl rfl rfl rfl ?_
                      exact hF 1 _ (by rw [lMask, bnd_r q1, bnd_l (show qKind tp sz (kept tp sz (5 + s.2.1 2) s) = .inl (1, tA tp sz (kept tp sz (5 + s.2.1 2) s).1) by unfold qKind; rw [if_neg (by rw [show isW tp sz (wd 14) (kept tp sz (5 + s.2.1 2) s).1 = false from hc40]; decide), if_neg (by rw [show isW tp sz (wd 9) (kept tp sz (5 + s.2.1 2) s).1 = false from hc53]; decide), if_neg (by rw [show isW tp sz (wd 15) (kept tp sz (5 + s.2.1 2) s).1 = false from hc66]; decide), if_neg (by rw [show isW tp sz (wd 16) (kept tp sz (5 + s.2.1 2) s).1 = false from hc79]; decide), if_neg (by rw [show isW tp sz (wd 17) (kept tp sz (5 + s.2.1 2) s).1 = false from hc93]; decide)])]; rfl) _ wrong_fl.1 (jk.trans wrong_fl.2.k)
                · (first | rw [bI_0, Bool.not_eq_false] at hc93 | rw [bI_0] at hc93 | rw [show (0 : Int32) = nI 0 from rfl, nI_eq (by omega) (by omega)] at hc93 | skip)
                  refine v_iconst (v := nI 4) dX12_maskLine_96 (by decide) ?_
                  refine v_goto (tgt := 101) dX12_maskLine_97 (by decide) ?_
                  exact cut 4 (by decide) (by unfold qKind; rw [if_neg (by rw [show isW tp sz (wd 14) (kept tp sz (5 + s.2.1 2) s).1 = false from hc40]; decide), if_neg (by rw [show isW tp sz (wd 9) (kept tp sz (5 + s.2.1 2) s).1 = false from hc53]; decide), if_neg (by rw [show isW tp sz (wd 15) (kept tp sz (5 + s.2.1 2) s).1 = false from hc66]; decide), if_neg (by rw [show isW tp sz (wd 16) (kept tp sz (5 + s.2.1 2) s).1 = false from hc79]; decide), if_pos (show isW tp sz (wd 17) (kept tp sz (5 + s.2.1 2) s).1 = true from hc93)])
              · (first | rw [bI_0, Bool.not_eq_false] at hc79 | rw [bI_0] at hc79 | rw [show (0 : Int32) = nI 0 from rfl, nI_eq (by omega) (by omega)] at hc79 | skip)
                refine v_iconst (v := nI 3) dX12_maskLine_82 (by decide) ?_
                refine v_goto (tgt := 101) dX12_maskLine_83 (by decide) ?_
                exact cut 3 (by decide) (by unfold qKind; rw [if_neg (by rw [show isW tp sz (wd 14) (kept tp sz (5 + s.2.1 2) s).1 = false from hc40]; decide), if_neg (by rw [show isW tp sz (wd 9) (kept tp sz (5 + s.2.1 2) s).1 = false from hc53]; decide), if_neg (by rw [show isW tp sz (wd 15) (kept tp sz (5 + s.2.1 2) s).1 = false from hc66]; decide), if_pos (show isW tp sz (wd 16) (kept tp sz (5 + s.2.1 2) s).1 = true from hc79)])
            · (first | rw [bI_0, Bool.not_eq_false] at hc66 | rw [bI_0] at hc66 | rw [show (0 : Int32) = nI 0 from rfl, nI_eq (by omega) (by omega)] at hc66 | skip)
              refine v_iconst (v := nI 2) dX12_maskLine_69 (by decide) ?_
              refine v_goto (tgt := 101) dX12_maskLine_70 (by decide) ?_
              exact cut 2 (by decide) (by unfold qKind; rw [if_neg (by rw [show isW tp sz (wd 14) (kept tp sz (5 + s.2.1 2) s).1 = false from hc40]; decide), if_neg (by rw [show isW tp sz (wd 9) (kept tp sz (5 + s.2.1 2) s).1 = false from hc53]; decide), if_pos (show isW tp sz (wd 15) (kept tp sz (5 + s.2.1 2) s).1 = true from hc66)])
          · (first | rw [bI_0, Bool.not_eq_false] at hc53 | rw [bI_0] at hc53 | rw [show (0 : Int32) = nI 0 from rfl, nI_eq (by omega) (by omega)] at hc53 | skip)
            refine v_iconst (v := nI 1) dX12_maskLine_56 (by decide) ?_
            refine v_goto (tgt := 101) dX12_maskLine_57 (by decide) ?_
            exact cut 1 (by decide) (by unfold qKind; rw [if_neg (by rw [show isW tp sz (wd 14) (kept tp sz (5 + s.2.1 2) s).1 = false from hc40]; decide), if_pos (show isW tp sz (wd 9) (kept tp sz (5 + s.2.1 2) s).1 = true from hc53)])
        · (first | rw [bI_0, Bool.not_eq_false] at hc40 | rw [bI_0] at hc40 | rw [show (0 : Int32) = nI 0 from rfl, nI_eq (by omega) (by omega)] at hc40 | skip)
          refine v_iconst (v := nI 0) dX12_maskLine_43 (by decide) ?_
          refine v_goto (tgt := 101) dX12_maskLine_44 (by decide) ?_
          exact cut 0 (by decide) (by unfold qKind; rw [if_pos (show isW tp sz (wd 14) (kept tp sz (5 + s.2.1 2) s).1 = true from hc40)])
      · exact absurd rfl hc23
  · exact absurd rfl hc4
end
