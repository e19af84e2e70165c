theorem dX12_worthBy_0 : decode cX12_worthBy 0 = .ok (.iconst 0, 1) := by decide +kernel
theorem dX12_worthBy_1 : decode cX12_worthBy 1 = .ok (.istore 4, 2) := by decide +kernel
theorem dX12_worthBy_3 : decode cX12_worthBy 3 = .ok (.iconst 0, 1) := by decide +kernel
theorem dX12_worthBy_4 : decode cX12_worthBy 4 = .ok (.istore 5, 2) := by decide +kernel
theorem dX12_worthBy_6 : decode cX12_worthBy 6 = .ok (.iload 5, 2) := by decide +kernel
theorem dX12_worthBy_8 : decode cX12_worthBy 8 = .ok (.aload_n 0, 1) := by decide +kernel
theorem dX12_worthBy_9 : decode cX12_worthBy 9 = .ok (.getfield 20, 3) := by decide +kernel
theorem dX12_worthBy_12 : decode cX12_worthBy 12 = .ok (.iconst 4, 1) := by decide +kernel
theorem dX12_worthBy_13 : decode cX12_worthBy 13 = .ok (.iaload, 1) := by decide +kernel
theorem dX12_worthBy_14 : decode cX12_worthBy 14 = .ok (.if_icmp .ge 73, 3) := by decide +kernel
theorem dX12_worthBy_17 : decode cX12_worthBy 17 = .ok (.aload_n 0, 1) := by decide +kernel
theorem dX12_worthBy_18 : decode cX12_worthBy 18 = .ok (.iload 5, 2) := by decide +kernel
theorem dX12_worthBy_20 : decode cX12_worthBy 20 = .ok (.iconst 0, 1) := by decide +kernel
theorem dX12_worthBy_21 : decode cX12_worthBy 21 = .ok (.invokevirtual 319, 3) := by decide +kernel
theorem dX12_worthBy_24 : decode cX12_worthBy 24 = .ok (.iload_n 1, 1) := by decide +kernel
theorem dX12_worthBy_25 : decode cX12_worthBy 25 = .ok (.if_icmp .ne 56, 3) := by decide +kernel
theorem dX12_worthBy_28 : decode cX12_worthBy 28 = .ok (.aload_n 0, 1) := by decide +kernel
theorem dX12_worthBy_29 : decode cX12_worthBy 29 = .ok (.iload 5, 2) := by decide +kernel
theorem dX12_worthBy_31 : decode cX12_worthBy 31 = .ok (.iconst 2, 1) := by decide +kernel
theorem dX12_worthBy_32 : decode cX12_worthBy 32 = .ok (.invokevirtual 319, 3) := by decide +kernel
theorem dX12_worthBy_35 : decode cX12_worthBy 35 = .ok (.iload_n 2, 1) := by decide +kernel
theorem dX12_worthBy_36 : decode cX12_worthBy 36 = .ok (.if_icmp .eq 6, 3) := by decide +kernel
theorem dX12_worthBy_39 : decode cX12_worthBy 39 = .ok (.goto 42, 3) := by decide +kernel
theorem dX12_worthBy_42 : decode cX12_worthBy 42 = .ok (.iload 4, 2) := by decide +kernel
theorem dX12_worthBy_44 : decode cX12_worthBy 44 = .ok (.iload_n 3, 1) := by decide +kernel
theorem dX12_worthBy_45 : decode cX12_worthBy 45 = .ok (.bipush (-2), 2) := by decide +kernel
theorem dX12_worthBy_47 : decode cX12_worthBy 47 = .ok (.if_icmp .eq 23, 3) := by decide +kernel
theorem dX12_worthBy_50 : decode cX12_worthBy 50 = .ok (.aload_n 0, 1) := by decide +kernel
theorem dX12_worthBy_51 : decode cX12_worthBy 51 = .ok (.iload 5, 2) := by decide +kernel
theorem dX12_worthBy_53 : decode cX12_worthBy 53 = .ok (.iload_n 3, 1) := by decide +kernel
theorem dX12_worthBy_54 : decode cX12_worthBy 54 = .ok (.invokevirtual 328, 3) := by decide +kernel
theorem dX12_worthBy_57 : decode cX12_worthBy 57 = .ok (.ifCond .eq 13, 3) := by decide +kernel
theorem dX12_worthBy_60 : decode cX12_worthBy 60 = .ok (.aload_n 0, 1) := by decide +kernel
theorem dX12_worthBy_61 : decode cX12_worthBy 61 = .ok (.iload 5, 2) := by decide +kernel
theorem dX12_worthBy_63 : decode cX12_worthBy 63 = .ok (.iconst 3, 1) := by decide +kernel
theorem dX12_worthBy_64 : decode cX12_worthBy 64 = .ok (.invokevirtual 319, 3) := by decide +kernel
theorem dX12_worthBy_67 : decode cX12_worthBy 67 = .ok (.goto 11, 3) := by decide +kernel
theorem dX12_worthBy_70 : decode cX12_worthBy 70 = .ok (.aload_n 0, 1) := by decide +kernel
theorem dX12_worthBy_71 : decode cX12_worthBy 71 = .ok (.iload 5, 2) := by decide +kernel
theorem dX12_worthBy_73 : decode cX12_worthBy 73 = .ok (.iconst 4, 1) := by decide +kernel
theorem dX12_worthBy_74 : decode cX12_worthBy 74 = .ok (.invokevirtual 319, 3) := by decide +kernel
theorem dX12_worthBy_77 : decode cX12_worthBy 77 = .ok (.ineg, 1) := by decide +kernel
theorem dX12_worthBy_78 : decode cX12_worthBy 78 = .ok (.iadd, 1) := by decide +kernel
theorem dX12_worthBy_79 : decode cX12_worthBy 79 = .ok (.istore 4, 2) := by decide +kernel
theorem dX12_worthBy_81 : decode cX12_worthBy 81 = .ok (.iinc 5 1, 3) := by decide +kernel
theorem dX12_worthBy_84 : decode cX12_worthBy 84 = .ok (.goto (-78), 3) := by decide +kernel
theorem dX12_worthBy_87 : decode cX12_worthBy 87 = .ok (.iload 4, 2) := by decide +kernel
theorem dX12_worthBy_89 : decode cX12_worthBy 89 = .ok (.ireturn, 1) := by decide +kernel
theorem dX12_layPlan_0 : decode cX12_layPlan 0 = .ok (.aload_n 0, 1) := by decide +kernel
theorem dX12_layPlan_1 : decode cX12_layPlan 1 = .ok (.getfield 20, 3) := by decide +kernel
theorem dX12_layPlan_4 : decode cX12_layPlan 4 = .ok (.iconst 2, 1) := by decide +kernel
theorem dX12_layPlan_5 : decode cX12_layPlan 5 = .ok (.iaload, 1) := by decide +kernel
theorem dX12_layPlan_6 : decode cX12_layPlan 6 = .ok (.istore_n 3, 1) := by decide +kernel
theorem dX12_layPlan_7 : decode cX12_layPlan 7 = .ok (.iconst 0, 1) := by decide +kernel
theorem dX12_layPlan_8 : decode cX12_layPlan 8 = .ok (.istore 4, 2) := by decide +kernel
theorem dX12_layPlan_10 : decode cX12_layPlan 10 = .ok (.iload 4, 2) := by decide +kernel
theorem dX12_layPlan_12 : decode cX12_layPlan 12 = .ok (.iload_n 3, 1) := by decide +kernel
theorem dX12_layPlan_13 : decode cX12_layPlan 13 = .ok (.if_icmp .ge 63, 3) := by decide +kernel
theorem dX12_layPlan_16 : decode cX12_layPlan 16 = .ok (.iconst (-1), 1) := by decide +kernel
theorem dX12_layPlan_17 : decode cX12_layPlan 17 = .ok (.istore 5, 2) := by decide +kernel
theorem dX12_layPlan_19 : decode cX12_layPlan 19 = .ok (.iload 5, 2) := by decide +kernel
theorem dX12_layPlan_21 : decode cX12_layPlan 21 = .ok (.aload_n 0, 1) := by decide +kernel
theorem dX12_layPlan_22 : decode cX12_layPlan 22 = .ok (.getfield 20, 3) := by decide +kernel
theorem dX12_layPlan_25 : decode cX12_layPlan 25 = .ok (.iconst 3, 1) := by decide +kernel
theorem dX12_layPlan_26 : decode cX12_layPlan 26 = .ok (.iaload, 1) := by decide +kernel
theorem dX12_layPlan_27 : decode cX12_layPlan 27 = .ok (.if_icmp .ge 43, 3) := by decide +kernel
theorem dX12_layPlan_30 : decode cX12_layPlan 30 = .ok (.aload_n 0, 1) := by decide +kernel
theorem dX12_layPlan_31 : decode cX12_layPlan 31 = .ok (.getfield 47, 3) := by decide +kernel
theorem dX12_layPlan_34 : decode cX12_layPlan 34 = .ok (.bipush 7, 2) := by decide +kernel
theorem dX12_layPlan_36 : decode cX12_layPlan 36 = .ok (.iload 4, 2) := by decide +kernel
theorem dX12_layPlan_38 : decode cX12_layPlan 38 = .ok (.imul, 1) := by decide +kernel
theorem dX12_layPlan_39 : decode cX12_layPlan 39 = .ok (.iload 5, 2) := by decide +kernel
theorem dX12_layPlan_41 : decode cX12_layPlan 41 = .ok (.iadd, 1) := by decide +kernel
theorem dX12_layPlan_42 : decode cX12_layPlan 42 = .ok (.iconst 1, 1) := by decide +kernel
theorem dX12_layPlan_43 : decode cX12_layPlan 43 = .ok (.iadd, 1) := by decide +kernel
theorem dX12_layPlan_44 : decode cX12_layPlan 44 = .ok (.aload_n 0, 1) := by decide +kernel
theorem dX12_layPlan_45 : decode cX12_layPlan 45 = .ok (.iload 4, 2) := by decide +kernel
theorem dX12_layPlan_47 : decode cX12_layPlan 47 = .ok (.iload_n 1, 1) := by decide +kernel
theorem dX12_layPlan_48 : decode cX12_layPlan 48 = .ok (.iload 5, 2) := by decide +kernel
theorem dX12_layPlan_50 : decode cX12_layPlan 50 = .ok (.ifCond .ge 8, 3) := by decide +kernel
theorem dX12_layPlan_53 : decode cX12_layPlan 53 = .ok (.bipush (-2), 2) := by decide +kernel
theorem dX12_layPlan_55 : decode cX12_layPlan 55 = .ok (.goto 5, 3) := by decide +kernel
theorem dX12_layPlan_58 : decode cX12_layPlan 58 = .ok (.iload 5, 2) := by decide +kernel
theorem dX12_layPlan_60 : decode cX12_layPlan 60 = .ok (.invokevirtual 346, 3) := by decide +kernel
theorem dX12_layPlan_63 : decode cX12_layPlan 63 = .ok (.iastore, 1) := by decide +kernel
theorem dX12_layPlan_64 : decode cX12_layPlan 64 = .ok (.iinc 5 1, 3) := by decide +kernel
theorem dX12_layPlan_67 : decode cX12_layPlan 67 = .ok (.goto (-48), 3) := by decide +kernel
theorem dX12_layPlan_70 : decode cX12_layPlan 70 = .ok (.iinc 4 1, 3) := by decide +kernel
theorem dX12_layPlan_73 : decode cX12_layPlan 73 = .ok (.goto (-63), 3) := by decide +kernel
theorem dX12_layPlan_76 : decode cX12_layPlan 76 = .ok (.iconst 0, 1) := by decide +kernel
theorem dX12_layPlan_77 : decode cX12_layPlan 77 = .ok (.istore 4, 2) := by decide +kernel
theorem dX12_layPlan_79 : decode cX12_layPlan 79 = .ok (.iload 4, 2) := by decide +kernel
theorem dX12_layPlan_81 : decode cX12_layPlan 81 = .ok (.bipush 64, 2) := by decide +kernel
theorem dX12_layPlan_83 : decode cX12_layPlan 83 = .ok (.if_icmp .ge 22, 3) := by decide +kernel
theorem dX12_layPlan_86 : decode cX12_layPlan 86 = .ok (.aload_n 0, 1) := by decide +kernel
theorem dX12_layPlan_87 : decode cX12_layPlan 87 = .ok (.getfield 44, 3) := by decide +kernel
theorem dX12_layPlan_90 : decode cX12_layPlan 90 = .ok (.bipush 64, 2) := by decide +kernel
theorem dX12_layPlan_92 : decode cX12_layPlan 92 = .ok (.iload_n 3, 1) := by decide +kernel
theorem dX12_layPlan_93 : decode cX12_layPlan 93 = .ok (.imul, 1) := by decide +kernel
theorem dX12_layPlan_94 : decode cX12_layPlan 94 = .ok (.iload 4, 2) := by decide +kernel
theorem dX12_layPlan_96 : decode cX12_layPlan 96 = .ok (.iadd, 1) := by decide +kernel
theorem dX12_layPlan_97 : decode cX12_layPlan 97 = .ok (.iconst 0, 1) := by decide +kernel
theorem dX12_layPlan_98 : decode cX12_layPlan 98 = .ok (.iastore, 1) := by decide +kernel
theorem dX12_layPlan_99 : decode cX12_layPlan 99 = .ok (.iinc 4 1, 3) := by decide +kernel
theorem dX12_layPlan_102 : decode cX12_layPlan 102 = .ok (.goto (-23), 3) := by decide +kernel
theorem dX12_layPlan_105 : decode cX12_layPlan 105 = .ok (.iload_n 3, 1) := by decide +kernel
theorem dX12_layPlan_106 : decode cX12_layPlan 106 = .ok (.iconst 1, 1) := by decide +kernel
theorem dX12_layPlan_107 : decode cX12_layPlan 107 = .ok (.isub, 1) := by decide +kernel
theorem dX12_layPlan_108 : decode cX12_layPlan 108 = .ok (.istore 4, 2) := by decide +kernel
theorem dX12_layPlan_110 : decode cX12_layPlan 110 = .ok (.iload 4, 2) := by decide +kernel
theorem dX12_layPlan_112 : decode cX12_layPlan 112 = .ok (.ifCond .lt 175, 3) := by decide +kernel
theorem dX12_layPlan_115 : decode cX12_layPlan 115 = .ok (.iconst 0, 1) := by decide +kernel
theorem dX12_layPlan_116 : decode cX12_layPlan 116 = .ok (.istore 5, 2) := by decide +kernel
theorem dX12_layPlan_118 : decode cX12_layPlan 118 = .ok (.iload 5, 2) := by decide +kernel
theorem dX12_layPlan_120 : decode cX12_layPlan 120 = .ok (.bipush 64, 2) := by decide +kernel
theorem dX12_layPlan_122 : decode cX12_layPlan 122 = .ok (.if_icmp .ge 159, 3) := by decide +kernel
theorem dX12_layPlan_125 : decode cX12_layPlan 125 = .ok (.aload_n 0, 1) := by decide +kernel
theorem dX12_layPlan_126 : decode cX12_layPlan 126 = .ok (.getfield 47, 3) := by decide +kernel
theorem dX12_layPlan_129 : decode cX12_layPlan 129 = .ok (.bipush 7, 2) := by decide +kernel
theorem dX12_layPlan_131 : decode cX12_layPlan 131 = .ok (.iload 4, 2) := by decide +kernel
theorem dX12_layPlan_133 : decode cX12_layPlan 133 = .ok (.imul, 1) := by decide +kernel
theorem dX12_layPlan_134 : decode cX12_layPlan 134 = .ok (.iaload, 1) := by decide +kernel
theorem dX12_layPlan_135 : decode cX12_layPlan 135 = .ok (.aload_n 0, 1) := by decide +kernel
theorem dX12_layPlan_136 : decode cX12_layPlan 136 = .ok (.getfield 44, 3) := by decide +kernel
theorem dX12_layPlan_139 : decode cX12_layPlan 139 = .ok (.bipush 64, 2) := by decide +kernel
theorem dX12_layPlan_141 : decode cX12_layPlan 141 = .ok (.iload 4, 2) := by decide +kernel
theorem dX12_layPlan_143 : decode cX12_layPlan 143 = .ok (.iconst 1, 1) := by decide +kernel
theorem dX12_layPlan_144 : decode cX12_layPlan 144 = .ok (.iadd, 1) := by decide +kernel
theorem dX12_layPlan_145 : decode cX12_layPlan 145 = .ok (.imul, 1) := by decide +kernel
theorem dX12_layPlan_146 : decode cX12_layPlan 146 = .ok (.iload 5, 2) := by decide +kernel
theorem dX12_layPlan_148 : decode cX12_layPlan 148 = .ok (.iadd, 1) := by decide +kernel
theorem dX12_layPlan_149 : decode cX12_layPlan 149 = .ok (.iaload, 1) := by decide +kernel
theorem dX12_layPlan_150 : decode cX12_layPlan 150 = .ok (.iadd, 1) := by decide +kernel
theorem dX12_layPlan_151 : decode cX12_layPlan 151 = .ok (.istore 6, 2) := by decide +kernel
theorem dX12_layPlan_153 : decode cX12_layPlan 153 = .ok (.iconst 0, 1) := by decide +kernel
theorem dX12_layPlan_154 : decode cX12_layPlan 154 = .ok (.istore 7, 2) := by decide +kernel
theorem dX12_layPlan_156 : decode cX12_layPlan 156 = .ok (.iload 7, 2) := by decide +kernel
theorem dX12_layPlan_158 : decode cX12_layPlan 158 = .ok (.aload_n 0, 1) := by decide +kernel
theorem dX12_layPlan_159 : decode cX12_layPlan 159 = .ok (.getfield 20, 3) := by decide +kernel
theorem dX12_layPlan_162 : decode cX12_layPlan 162 = .ok (.iconst 3, 1) := by decide +kernel
theorem dX12_layPlan_163 : decode cX12_layPlan 163 = .ok (.iaload, 1) := by decide +kernel
theorem dX12_layPlan_164 : decode cX12_layPlan 164 = .ok (.if_icmp .ge 96, 3) := by decide +kernel
theorem dX12_layPlan_167 : decode cX12_layPlan 167 = .ok (.iload 5, 2) := by decide +kernel
theorem dX12_layPlan_169 : decode cX12_layPlan 169 = .ok (.iload 7, 2) := by decide +kernel
theorem dX12_layPlan_171 : decode cX12_layPlan 171 = .ok (.invokestatic 158, 3) := by decide +kernel
theorem dX12_layPlan_174 : decode cX12_layPlan 174 = .ok (.ifCond .ne 80, 3) := by decide +kernel
theorem dX12_layPlan_177 : decode cX12_layPlan 177 = .ok (.iload 7, 2) := by decide +kernel
theorem dX12_layPlan_179 : decode cX12_layPlan 179 = .ok (.iload_n 2, 1) := by decide +kernel
theorem dX12_layPlan_180 : decode cX12_layPlan 180 = .ok (.if_icmp .eq 74, 3) := by decide +kernel
theorem dX12_layPlan_183 : decode cX12_layPlan 183 = .ok (.aload_n 0, 1) := by decide +kernel
theorem dX12_layPlan_184 : decode cX12_layPlan 184 = .ok (.getfield 20, 3) := by decide +kernel
theorem dX12_layPlan_187 : decode cX12_layPlan 187 = .ok (.iload 4, 2) := by decide +kernel
theorem dX12_layPlan_189 : decode cX12_layPlan 189 = .ok (.iload 7, 2) := by decide +kernel
theorem dX12_layPlan_191 : decode cX12_layPlan 191 = .ok (.invokestatic 296, 3) := by decide +kernel
theorem dX12_layPlan_194 : decode cX12_layPlan 194 = .ok (.ifCond .ne 6, 3) := by decide +kernel
theorem dX12_layPlan_197 : decode cX12_layPlan 197 = .ok (.goto 57, 3) := by decide +kernel
theorem dX12_layPlan_200 : decode cX12_layPlan 200 = .ok (.aload_n 0, 1) := by decide +kernel
theorem dX12_layPlan_201 : decode cX12_layPlan 201 = .ok (.getfield 47, 3) := by decide +kernel
theorem dX12_layPlan_204 : decode cX12_layPlan 204 = .ok (.bipush 7, 2) := by decide +kernel
theorem dX12_layPlan_206 : decode cX12_layPlan 206 = .ok (.iload 4, 2) := by decide +kernel
theorem dX12_layPlan_208 : decode cX12_layPlan 208 = .ok (.imul, 1) := by decide +kernel
theorem dX12_layPlan_209 : decode cX12_layPlan 209 = .ok (.iload 7, 2) := by decide +kernel
theorem dX12_layPlan_211 : decode cX12_layPlan 211 = .ok (.iadd, 1) := by decide +kernel
theorem dX12_layPlan_212 : decode cX12_layPlan 212 = .ok (.iconst 1, 1) := by decide +kernel
theorem dX12_layPlan_213 : decode cX12_layPlan 213 = .ok (.iadd, 1) := by decide +kernel
theorem dX12_layPlan_214 : decode cX12_layPlan 214 = .ok (.iaload, 1) := by decide +kernel
theorem dX12_layPlan_215 : decode cX12_layPlan 215 = .ok (.aload_n 0, 1) := by decide +kernel
theorem dX12_layPlan_216 : decode cX12_layPlan 216 = .ok (.getfield 44, 3) := by decide +kernel
theorem dX12_layPlan_219 : decode cX12_layPlan 219 = .ok (.bipush 64, 2) := by decide +kernel
theorem dX12_layPlan_221 : decode cX12_layPlan 221 = .ok (.iload 4, 2) := by decide +kernel
theorem dX12_layPlan_223 : decode cX12_layPlan 223 = .ok (.iconst 1, 1) := by decide +kernel
theorem dX12_layPlan_224 : decode cX12_layPlan 224 = .ok (.iadd, 1) := by decide +kernel
theorem dX12_layPlan_225 : decode cX12_layPlan 225 = .ok (.imul, 1) := by decide +kernel
theorem dX12_layPlan_226 : decode cX12_layPlan 226 = .ok (.iload 5, 2) := by decide +kernel
theorem dX12_layPlan_228 : decode cX12_layPlan 228 = .ok (.iconst 1, 1) := by decide +kernel
theorem dX12_layPlan_229 : decode cX12_layPlan 229 = .ok (.iload 7, 2) := by decide +kernel
theorem dX12_layPlan_231 : decode cX12_layPlan 231 = .ok (.ishl, 1) := by decide +kernel
theorem dX12_layPlan_232 : decode cX12_layPlan 232 = .ok (.ior, 1) := by decide +kernel
theorem dX12_layPlan_233 : decode cX12_layPlan 233 = .ok (.iadd, 1) := by decide +kernel
theorem dX12_layPlan_234 : decode cX12_layPlan 234 = .ok (.iaload, 1) := by decide +kernel
theorem dX12_layPlan_235 : decode cX12_layPlan 235 = .ok (.iadd, 1) := by decide +kernel
theorem dX12_layPlan_236 : decode cX12_layPlan 236 = .ok (.istore 8, 2) := by decide +kernel
theorem dX12_layPlan_238 : decode cX12_layPlan 238 = .ok (.iload 8, 2) := by decide +kernel
theorem dX12_layPlan_240 : decode cX12_layPlan 240 = .ok (.iload 6, 2) := by decide +kernel
theorem dX12_layPlan_242 : decode cX12_layPlan 242 = .ok (.if_icmp .le 8, 3) := by decide +kernel
theorem dX12_layPlan_245 : decode cX12_layPlan 245 = .ok (.iload 8, 2) := by decide +kernel
theorem dX12_layPlan_247 : decode cX12_layPlan 247 = .ok (.goto 5, 3) := by decide +kernel
theorem dX12_layPlan_250 : decode cX12_layPlan 250 = .ok (.iload 6, 2) := by decide +kernel
theorem dX12_layPlan_252 : decode cX12_layPlan 252 = .ok (.istore 6, 2) := by decide +kernel
theorem dX12_layPlan_254 : decode cX12_layPlan 254 = .ok (.iinc 7 1, 3) := by decide +kernel
theorem dX12_layPlan_257 : decode cX12_layPlan 257 = .ok (.goto (-101), 3) := by decide +kernel
theorem dX12_layPlan_260 : decode cX12_layPlan 260 = .ok (.aload_n 0, 1) := by decide +kernel
theorem dX12_layPlan_261 : decode cX12_layPlan 261 = .ok (.getfield 44, 3) := by decide +kernel
theorem dX12_layPlan_264 : decode cX12_layPlan 264 = .ok (.bipush 64, 2) := by decide +kernel
theorem dX12_layPlan_266 : decode cX12_layPlan 266 = .ok (.iload 4, 2) := by decide +kernel
theorem dX12_layPlan_268 : decode cX12_layPlan 268 = .ok (.imul, 1) := by decide +kernel
theorem dX12_layPlan_269 : decode cX12_layPlan 269 = .ok (.iload 5, 2) := by decide +kernel
theorem dX12_layPlan_271 : decode cX12_layPlan 271 = .ok (.iadd, 1) := by decide +kernel
theorem dX12_layPlan_272 : decode cX12_layPlan 272 = .ok (.iload 6, 2) := by decide +kernel
theorem dX12_layPlan_274 : decode cX12_layPlan 274 = .ok (.iastore, 1) := by decide +kernel
theorem dX12_layPlan_275 : decode cX12_layPlan 275 = .ok (.iinc 5 1, 3) := by decide +kernel
theorem dX12_layPlan_278 : decode cX12_layPlan 278 = .ok (.goto (-160), 3) := by decide +kernel
theorem dX12_layPlan_281 : decode cX12_layPlan 281 = .ok (.iinc 4 (-1), 3) := by decide +kernel
theorem dX12_layPlan_284 : decode cX12_layPlan 284 = .ok (.goto (-174), 3) := by decide +kernel
theorem dX12_layPlan_287 : decode cX12_layPlan 287 = .ok (.aload_n 0, 1) := by decide +kernel
theorem dX12_layPlan_288 : decode cX12_layPlan 288 = .ok (.getfield 44, 3) := by decide +kernel
theorem dX12_layPlan_291 : decode cX12_layPlan 291 = .ok (.iconst 0, 1) := by decide +kernel
theorem dX12_layPlan_292 : decode cX12_layPlan 292 = .ok (.iaload, 1) := by decide +kernel
theorem dX12_layPlan_293 : decode cX12_layPlan 293 = .ok (.ireturn, 1) := by decide +kernel
theorem dX12_value_0 : decode cX12_value 0 = .ok (.aload_n 0, 1) := by decide +kernel
theorem dX12_value_1 : decode cX12_value 1 = .ok (.invokevirtual 173, 3) := by decide +kernel
theorem dX12_value_4 : decode cX12_value 4 = .ok (.aload_n 0, 1) := by decide +kernel
theorem dX12_value_5 : decode cX12_value 5 = .ok (.iload_n 1, 1) := by decide +kernel
theorem dX12_value_6 : decode cX12_value 6 = .ok (.invokevirtual 350, 3) := by decide +kernel
theorem dX12_value_9 : decode cX12_value 9 = .ok (.istore_n 2, 1) := by decide +kernel
theorem dX12_value_10 : decode cX12_value 10 = .ok (.iload_n 2, 1) := by decide +kernel
theorem dX12_value_11 : decode cX12_value 11 = .ok (.ifCond .eq 14, 3) := by decide +kernel
theorem dX12_value_14 : decode cX12_value 14 = .ok (.aload_n 0, 1) := by decide +kernel
theorem dX12_value_15 : decode cX12_value 15 = .ok (.iload_n 2, 1) := by decide +kernel
theorem dX12_value_16 : decode cX12_value 16 = .ok (.sipush (-10000), 3) := by decide +kernel
theorem dX12_value_19 : decode cX12_value 19 = .ok (.invokevirtual 343, 3) := by decide +kernel
theorem dX12_value_22 : decode cX12_value 22 = .ok (.goto 9, 3) := by decide +kernel
theorem dX12_value_25 : decode cX12_value 25 = .ok (.aload_n 0, 1) := by decide +kernel
theorem dX12_value_26 : decode cX12_value 26 = .ok (.iload_n 1, 1) := by decide +kernel
theorem dX12_value_27 : decode cX12_value 27 = .ok (.iconst (-1), 1) := by decide +kernel
theorem dX12_value_28 : decode cX12_value 28 = .ok (.invokevirtual 353, 3) := by decide +kernel
theorem dX12_value_31 : decode cX12_value 31 = .ok (.ireturn, 1) := by decide +kernel
theorem dX12_plan_0 : decode cX12_plan 0 = .ok (.aload_n 0, 1) := by decide +kernel
theorem dX12_plan_1 : decode cX12_plan 1 = .ok (.invokevirtual 173, 3) := by decide +kernel
theorem dX12_plan_4 : decode cX12_plan 4 = .ok (.aload_n 0, 1) := by decide +kernel
theorem dX12_plan_5 : decode cX12_plan 5 = .ok (.iload_n 2, 1) := by decide +kernel
theorem dX12_plan_6 : decode cX12_plan 6 = .ok (.invokevirtual 307, 3) := by decide +kernel
theorem dX12_plan_9 : decode cX12_plan 9 = .ok (.ifCond .ne 9, 3) := by decide +kernel
theorem dX12_plan_12 : decode cX12_plan 12 = .ok (.aload_n 0, 1) := by decide +kernel
theorem dX12_plan_13 : decode cX12_plan 13 = .ok (.iconst 1, 1) := by decide +kernel
theorem dX12_plan_14 : decode cX12_plan 14 = .ok (.invokevirtual 176, 3) := by decide +kernel
theorem dX12_plan_17 : decode cX12_plan 17 = .ok (.ireturn, 1) := by decide +kernel
theorem dX12_plan_18 : decode cX12_plan 18 = .ok (.aload_n 0, 1) := by decide +kernel
theorem dX12_plan_19 : decode cX12_plan 19 = .ok (.iload_n 1, 1) := by decide +kernel
theorem dX12_plan_20 : decode cX12_plan 20 = .ok (.invokevirtual 313, 3) := by decide +kernel
theorem dX12_plan_23 : decode cX12_plan 23 = .ok (.ifCond .ne 9, 3) := by decide +kernel
theorem dX12_plan_26 : decode cX12_plan 26 = .ok (.aload_n 0, 1) := by decide +kernel
theorem dX12_plan_27 : decode cX12_plan 27 = .ok (.iconst 2, 1) := by decide +kernel
theorem dX12_plan_28 : decode cX12_plan 28 = .ok (.invokevirtual 176, 3) := by decide +kernel
theorem dX12_plan_31 : decode cX12_plan 31 = .ok (.ireturn, 1) := by decide +kernel
theorem dX12_plan_32 : decode cX12_plan 32 = .ok (.aload_n 0, 1) := by decide +kernel
theorem dX12_plan_33 : decode cX12_plan 33 = .ok (.iload_n 1, 1) := by decide +kernel
theorem dX12_plan_34 : decode cX12_plan 34 = .ok (.iconst (-1), 1) := by decide +kernel
theorem dX12_plan_35 : decode cX12_plan 35 = .ok (.invokevirtual 353, 3) := by decide +kernel
theorem dX12_plan_38 : decode cX12_plan 38 = .ok (.istore_n 3, 1) := by decide +kernel
theorem dX12_plan_39 : decode cX12_plan 39 = .ok (.iconst 0, 1) := by decide +kernel
theorem dX12_plan_40 : decode cX12_plan 40 = .ok (.istore 4, 2) := by decide +kernel
theorem dX12_plan_42 : decode cX12_plan 42 = .ok (.iconst 0, 1) := by decide +kernel
theorem dX12_plan_43 : decode cX12_plan 43 = .ok (.istore 5, 2) := by decide +kernel
theorem dX12_plan_45 : decode cX12_plan 45 = .ok (.iload 5, 2) := by decide +kernel
theorem dX12_plan_47 : decode cX12_plan 47 = .ok (.iload_n 2, 1) := by decide +kernel
theorem dX12_plan_48 : decode cX12_plan 48 = .ok (.if_icmp .gt 174, 3) := by decide +kernel
theorem dX12_plan_51 : decode cX12_plan 51 = .ok (.bipush (-2), 2) := by decide +kernel
theorem dX12_plan_53 : decode cX12_plan 53 = .ok (.istore 6, 2) := by decide +kernel
theorem dX12_plan_55 : decode cX12_plan 55 = .ok (.aload_n 0, 1) := by decide +kernel
theorem dX12_plan_56 : decode cX12_plan 56 = .ok (.getfield 47, 3) := by decide +kernel
theorem dX12_plan_59 : decode cX12_plan 59 = .ok (.bipush 7, 2) := by decide +kernel
theorem dX12_plan_61 : decode cX12_plan 61 = .ok (.iload 5, 2) := by decide +kernel
theorem dX12_plan_63 : decode cX12_plan 63 = .ok (.imul, 1) := by decide +kernel
theorem dX12_plan_64 : decode cX12_plan 64 = .ok (.iaload, 1) := by decide +kernel
theorem dX12_plan_65 : decode cX12_plan 65 = .ok (.aload_n 0, 1) := by decide +kernel
theorem dX12_plan_66 : decode cX12_plan 66 = .ok (.getfield 44, 3) := by decide +kernel
theorem dX12_plan_69 : decode cX12_plan 69 = .ok (.bipush 64, 2) := by decide +kernel
theorem dX12_plan_71 : decode cX12_plan 71 = .ok (.iload 5, 2) := by decide +kernel
theorem dX12_plan_73 : decode cX12_plan 73 = .ok (.iconst 1, 1) := by decide +kernel
theorem dX12_plan_74 : decode cX12_plan 74 = .ok (.iadd, 1) := by decide +kernel
theorem dX12_plan_75 : decode cX12_plan 75 = .ok (.imul, 1) := by decide +kernel
theorem dX12_plan_76 : decode cX12_plan 76 = .ok (.iload 4, 2) := by decide +kernel
theorem dX12_plan_78 : decode cX12_plan 78 = .ok (.iadd, 1) := by decide +kernel
theorem dX12_plan_79 : decode cX12_plan 79 = .ok (.iaload, 1) := by decide +kernel
theorem dX12_plan_80 : decode cX12_plan 80 = .ok (.iadd, 1) := by decide +kernel
theorem dX12_plan_81 : decode cX12_plan 81 = .ok (.iload_n 3, 1) := by decide +kernel
theorem dX12_plan_82 : decode cX12_plan 82 = .ok (.if_icmp .eq 76, 3) := by decide +kernel
theorem dX12_plan_85 : decode cX12_plan 85 = .ok (.iconst 0, 1) := by decide +kernel
theorem dX12_plan_86 : decode cX12_plan 86 = .ok (.istore 6, 2) := by decide +kernel
theorem dX12_plan_88 : decode cX12_plan 88 = .ok (.iload 4, 2) := by decide +kernel
theorem dX12_plan_90 : decode cX12_plan 90 = .ok (.iload 6, 2) := by decide +kernel
theorem dX12_plan_92 : decode cX12_plan 92 = .ok (.invokestatic 158, 3) := by decide +kernel
theorem dX12_plan_95 : decode cX12_plan 95 = .ok (.ifCond .ne 57, 3) := by decide +kernel
theorem dX12_plan_98 : decode cX12_plan 98 = .ok (.aload_n 0, 1) := by decide +kernel
theorem dX12_plan_99 : decode cX12_plan 99 = .ok (.getfield 20, 3) := by decide +kernel
theorem dX12_plan_102 : decode cX12_plan 102 = .ok (.iload 5, 2) := by decide +kernel
theorem dX12_plan_104 : decode cX12_plan 104 = .ok (.iload 6, 2) := by decide +kernel
theorem dX12_plan_106 : decode cX12_plan 106 = .ok (.invokestatic 296, 3) := by decide +kernel
theorem dX12_plan_109 : decode cX12_plan 109 = .ok (.ifCond .eq 43, 3) := by decide +kernel
theorem dX12_plan_112 : decode cX12_plan 112 = .ok (.aload_n 0, 1) := by decide +kernel
theorem dX12_plan_113 : decode cX12_plan 113 = .ok (.getfield 47, 3) := by decide +kernel
theorem dX12_plan_116 : decode cX12_plan 116 = .ok (.bipush 7, 2) := by decide +kernel
theorem dX12_plan_118 : decode cX12_plan 118 = .ok (.iload 5, 2) := by decide +kernel
theorem dX12_plan_120 : decode cX12_plan 120 = .ok (.imul, 1) := by decide +kernel
theorem dX12_plan_121 : decode cX12_plan 121 = .ok (.iload 6, 2) := by decide +kernel
theorem dX12_plan_123 : decode cX12_plan 123 = .ok (.iadd, 1) := by decide +kernel
theorem dX12_plan_124 : decode cX12_plan 124 = .ok (.iconst 1, 1) := by decide +kernel
theorem dX12_plan_125 : decode cX12_plan 125 = .ok (.iadd, 1) := by decide +kernel
theorem dX12_plan_126 : decode cX12_plan 126 = .ok (.iaload, 1) := by decide +kernel
theorem dX12_plan_127 : decode cX12_plan 127 = .ok (.aload_n 0, 1) := by decide +kernel
theorem dX12_plan_128 : decode cX12_plan 128 = .ok (.getfield 44, 3) := by decide +kernel
theorem dX12_plan_131 : decode cX12_plan 131 = .ok (.bipush 64, 2) := by decide +kernel
theorem dX12_plan_133 : decode cX12_plan 133 = .ok (.iload 5, 2) := by decide +kernel
theorem dX12_plan_135 : decode cX12_plan 135 = .ok (.iconst 1, 1) := by decide +kernel
theorem dX12_plan_136 : decode cX12_plan 136 = .ok (.iadd, 1) := by decide +kernel
theorem dX12_plan_137 : decode cX12_plan 137 = .ok (.imul, 1) := by decide +kernel
theorem dX12_plan_138 : decode cX12_plan 138 = .ok (.iload 4, 2) := by decide +kernel
theorem dX12_plan_140 : decode cX12_plan 140 = .ok (.iconst 1, 1) := by decide +kernel
theorem dX12_plan_141 : decode cX12_plan 141 = .ok (.iload 6, 2) := by decide +kernel
theorem dX12_plan_143 : decode cX12_plan 143 = .ok (.ishl, 1) := by decide +kernel
theorem dX12_plan_144 : decode cX12_plan 144 = .ok (.ior, 1) := by decide +kernel
theorem dX12_plan_145 : decode cX12_plan 145 = .ok (.iadd, 1) := by decide +kernel
theorem dX12_plan_146 : decode cX12_plan 146 = .ok (.iaload, 1) := by decide +kernel
theorem dX12_plan_147 : decode cX12_plan 147 = .ok (.iadd, 1) := by decide +kernel
theorem dX12_plan_148 : decode cX12_plan 148 = .ok (.iload_n 3, 1) := by decide +kernel
theorem dX12_plan_149 : decode cX12_plan 149 = .ok (.if_icmp .eq 9, 3) := by decide +kernel
theorem dX12_plan_152 : decode cX12_plan 152 = .ok (.iinc 6 1, 3) := by decide +kernel
theorem dX12_plan_155 : decode cX12_plan 155 = .ok (.goto (-67), 3) := by decide +kernel
theorem dX12_plan_158 : decode cX12_plan 158 = .ok (.iload 5, 2) := by decide +kernel
theorem dX12_plan_160 : decode cX12_plan 160 = .ok (.iload_n 2, 1) := by decide +kernel
theorem dX12_plan_161 : decode cX12_plan 161 = .ok (.if_icmp .ne 6, 3) := by decide +kernel
theorem dX12_plan_164 : decode cX12_plan 164 = .ok (.iload 6, 2) := by decide +kernel
theorem dX12_plan_166 : decode cX12_plan 166 = .ok (.ireturn, 1) := by decide +kernel
theorem dX12_plan_167 : decode cX12_plan 167 = .ok (.iload_n 3, 1) := by decide +kernel
theorem dX12_plan_168 : decode cX12_plan 168 = .ok (.aload_n 0, 1) := by decide +kernel
theorem dX12_plan_169 : decode cX12_plan 169 = .ok (.getfield 47, 3) := by decide +kernel
theorem dX12_plan_172 : decode cX12_plan 172 = .ok (.bipush 7, 2) := by decide +kernel
theorem dX12_plan_174 : decode cX12_plan 174 = .ok (.iload 5, 2) := by decide +kernel
theorem dX12_plan_176 : decode cX12_plan 176 = .ok (.imul, 1) := by decide +kernel
theorem dX12_plan_177 : decode cX12_plan 177 = .ok (.iload 6, 2) := by decide +kernel
theorem dX12_plan_179 : decode cX12_plan 179 = .ok (.bipush (-2), 2) := by decide +kernel
theorem dX12_plan_181 : decode cX12_plan 181 = .ok (.if_icmp .ne 7, 3) := by decide +kernel
theorem dX12_plan_184 : decode cX12_plan 184 = .ok (.iconst 0, 1) := by decide +kernel
theorem dX12_plan_185 : decode cX12_plan 185 = .ok (.goto 7, 3) := by decide +kernel
theorem dX12_plan_188 : decode cX12_plan 188 = .ok (.iload 6, 2) := by decide +kernel
theorem dX12_plan_190 : decode cX12_plan 190 = .ok (.iconst 1, 1) := by decide +kernel
theorem dX12_plan_191 : decode cX12_plan 191 = .ok (.iadd, 1) := by decide +kernel
theorem dX12_plan_192 : decode cX12_plan 192 = .ok (.iadd, 1) := by decide +kernel
theorem dX12_plan_193 : decode cX12_plan 193 = .ok (.iaload, 1) := by decide +kernel
theorem dX12_plan_194 : decode cX12_plan 194 = .ok (.isub, 1) := by decide +kernel
theorem dX12_plan_195 : decode cX12_plan 195 = .ok (.istore_n 3, 1) := by decide +kernel
theorem dX12_plan_196 : decode cX12_plan 196 = .ok (.iload 4, 2) := by decide +kernel
theorem dX12_plan_198 : decode cX12_plan 198 = .ok (.iload 6, 2) := by decide +kernel
theorem dX12_plan_200 : decode cX12_plan 200 = .ok (.bipush (-2), 2) := by decide +kernel
theorem dX12_plan_202 : decode cX12_plan 202 = .ok (.if_icmp .ne 7, 3) := by decide +kernel
theorem dX12_plan_205 : decode cX12_plan 205 = .ok (.iconst 0, 1) := by decide +kernel
theorem dX12_plan_206 : decode cX12_plan 206 = .ok (.goto 7, 3) := by decide +kernel
theorem dX12_plan_209 : decode cX12_plan 209 = .ok (.iconst 1, 1) := by decide +kernel
theorem dX12_plan_210 : decode cX12_plan 210 = .ok (.iload 6, 2) := by decide +kernel
theorem dX12_plan_212 : decode cX12_plan 212 = .ok (.ishl, 1) := by decide +kernel
theorem dX12_plan_213 : decode cX12_plan 213 = .ok (.ior, 1) := by decide +kernel
theorem dX12_plan_214 : decode cX12_plan 214 = .ok (.istore 4, 2) := by decide +kernel
theorem dX12_plan_216 : decode cX12_plan 216 = .ok (.iinc 5 1, 3) := by decide +kernel
theorem dX12_plan_219 : decode cX12_plan 219 = .ok (.goto (-174), 3) := by decide +kernel
theorem dX12_plan_222 : decode cX12_plan 222 = .ok (.iconst (-1), 1) := by decide +kernel
theorem dX12_plan_223 : decode cX12_plan 223 = .ok (.ireturn, 1) := by decide +kernel
theorem dX12_needed_0 : decode cX12_needed 0 = .ok (.aload_n 0, 1) := by decide +kernel
theorem dX12_needed_1 : decode cX12_needed 1 = .ok (.invokevirtual 173, 3) := by decide +kernel
theorem dX12_needed_4 : decode cX12_needed 4 = .ok (.aload_n 0, 1) := by decide +kernel
theorem dX12_needed_5 : decode cX12_needed 5 = .ok (.iload_n 2, 1) := by decide +kernel
theorem dX12_needed_6 : decode cX12_needed 6 = .ok (.invokevirtual 310, 3) := by decide +kernel
theorem dX12_needed_9 : decode cX12_needed 9 = .ok (.ifCond .ne 9, 3) := by decide +kernel
theorem dX12_needed_12 : decode cX12_needed 12 = .ok (.aload_n 0, 1) := by decide +kernel
theorem dX12_needed_13 : decode cX12_needed 13 = .ok (.iconst 1, 1) := by decide +kernel
theorem dX12_needed_14 : decode cX12_needed 14 = .ok (.invokevirtual 176, 3) := by decide +kernel
theorem dX12_needed_17 : decode cX12_needed 17 = .ok (.ireturn, 1) := by decide +kernel
theorem dX12_needed_18 : decode cX12_needed 18 = .ok (.aload_n 0, 1) := by decide +kernel
theorem dX12_needed_19 : decode cX12_needed 19 = .ok (.iload_n 1, 1) := by decide +kernel
theorem dX12_needed_20 : decode cX12_needed 20 = .ok (.invokevirtual 313, 3) := by decide +kernel
theorem dX12_needed_23 : decode cX12_needed 23 = .ok (.ifCond .ne 9, 3) := by decide +kernel
theorem dX12_needed_26 : decode cX12_needed 26 = .ok (.aload_n 0, 1) := by decide +kernel
theorem dX12_needed_27 : decode cX12_needed 27 = .ok (.iconst 2, 1) := by decide +kernel
theorem dX12_needed_28 : decode cX12_needed 28 = .ok (.invokevirtual 176, 3) := by decide +kernel
theorem dX12_needed_31 : decode cX12_needed 31 = .ok (.ireturn, 1) := by decide +kernel
theorem dX12_needed_32 : decode cX12_needed 32 = .ok (.aload_n 0, 1) := by decide +kernel
theorem dX12_needed_33 : decode cX12_needed 33 = .ok (.iload_n 1, 1) := by decide +kernel
theorem dX12_needed_34 : decode cX12_needed 34 = .ok (.iconst (-1), 1) := by decide +kernel
theorem dX12_needed_35 : decode cX12_needed 35 = .ok (.invokevirtual 353, 3) := by decide +kernel
theorem dX12_needed_38 : decode cX12_needed 38 = .ok (.aload_n 0, 1) := by decide +kernel
theorem dX12_needed_39 : decode cX12_needed 39 = .ok (.iload_n 1, 1) := by decide +kernel
theorem dX12_needed_40 : decode cX12_needed 40 = .ok (.iload_n 2, 1) := by decide +kernel
theorem dX12_needed_41 : decode cX12_needed 41 = .ok (.invokevirtual 353, 3) := by decide +kernel
theorem dX12_needed_44 : decode cX12_needed 44 = .ok (.isub, 1) := by decide +kernel
theorem dX12_needed_45 : decode cX12_needed 45 = .ok (.ireturn, 1) := by decide +kernel
theorem dX12_worth_0 : decode cX12_worth 0 = .ok (.aload_n 0, 1) := by decide +kernel
theorem dX12_worth_1 : decode cX12_worth 1 = .ok (.invokevirtual 173, 3) := by decide +kernel
theorem dX12_worth_4 : decode cX12_worth 4 = .ok (.aload_n 0, 1) := by decide +kernel
theorem dX12_worth_5 : decode cX12_worth 5 = .ok (.getfield 186, 3) := by decide +kernel
theorem dX12_worth_8 : decode cX12_worth 8 = .ok (.ifCond .ne 12, 3) := by decide +kernel
theorem dX12_worth_11 : decode cX12_worth 11 = .ok (.aload_n 0, 1) := by decide +kernel
theorem dX12_worth_12 : decode cX12_worth 12 = .ok (.iconst 1, 1) := by decide +kernel
theorem dX12_worth_13 : decode cX12_worth 13 = .ok (.ldc_w 356, 3) := by decide +kernel
theorem dX12_worth_16 : decode cX12_worth 16 = .ok (.invokevirtual 343, 3) := by decide +kernel
theorem dX12_worth_19 : decode cX12_worth 19 = .ok (.ireturn, 1) := by decide +kernel
theorem dX12_worth_20 : decode cX12_worth 20 = .ok (.iconst 0, 1) := by decide +kernel
theorem dX12_worth_21 : decode cX12_worth 21 = .ok (.istore_n 1, 1) := by decide +kernel
theorem dX12_worth_22 : decode cX12_worth 22 = .ok (.iconst 1, 1) := by decide +kernel
theorem dX12_worth_23 : decode cX12_worth 23 = .ok (.istore_n 2, 1) := by decide +kernel
theorem dX12_worth_24 : decode cX12_worth 24 = .ok (.iload_n 2, 1) := by decide +kernel
theorem dX12_worth_25 : decode cX12_worth 25 = .ok (.aload_n 0, 1) := by decide +kernel
theorem dX12_worth_26 : decode cX12_worth 26 = .ok (.getfield 20, 3) := by decide +kernel
theorem dX12_worth_29 : decode cX12_worth 29 = .ok (.iconst 0, 1) := by decide +kernel
theorem dX12_worth_30 : decode cX12_worth 30 = .ok (.iaload, 1) := by decide +kernel
theorem dX12_worth_31 : decode cX12_worth 31 = .ok (.if_icmp .gt 18, 3) := by decide +kernel
theorem dX12_worth_34 : decode cX12_worth 34 = .ok (.iload_n 1, 1) := by decide +kernel
theorem dX12_worth_35 : decode cX12_worth 35 = .ok (.aload_n 0, 1) := by decide +kernel
theorem dX12_worth_36 : decode cX12_worth 36 = .ok (.iload_n 2, 1) := by decide +kernel
theorem dX12_worth_37 : decode cX12_worth 37 = .ok (.iconst (-1), 1) := by decide +kernel
theorem dX12_worth_38 : decode cX12_worth 38 = .ok (.invokevirtual 353, 3) := by decide +kernel
theorem dX12_worth_41 : decode cX12_worth 41 = .ok (.iadd, 1) := by decide +kernel
theorem dX12_worth_42 : decode cX12_worth 42 = .ok (.istore_n 1, 1) := by decide +kernel
theorem dX12_worth_43 : decode cX12_worth 43 = .ok (.iinc 2 1, 3) := by decide +kernel
theorem dX12_worth_46 : decode cX12_worth 46 = .ok (.goto (-22), 3) := by decide +kernel
theorem dX12_worth_49 : decode cX12_worth 49 = .ok (.iload_n 1, 1) := by decide +kernel
theorem dX12_worth_50 : decode cX12_worth 50 = .ok (.ireturn, 1) := by decide +kernel
section
variable {b : Nat} {ad : Nat → Nat} {I J : HI} {L M : HL} {R : HR} {Q : QT} {F : bkF} {s : LSt} {a o : Nat}
theorem c_X12_worthBy {op : Option Nat} {m d : Nat} (hR : RO R) (hr : RfI I F s) (hop : ∀ p, op = some p → p < F 3) (hm : m < 2 ^ 30) (hd : d < 2 ^ 30) (hQ : Q (some (.int (zI (balz F m op d)))) SH I L R) : KK 2 mX12_worthBy b ad [.ref (b + 157), .int (nI m), .int (nI d), .int (eP op)] I L R Q := by
  have hO := hr.1.2.2.1
  have o2 := hO.2.2.1
  have o3 := hO.2.2.2.1
  have o5 := hO.2.2.2.2.2.1
  have o0 := hO.1
  have hF := hr.1.1.2
  have hS := hr.2.1
  have hK := hr.2.2
  have o4 := hO.2.2.2.2.1
  have hF := hr.1.1.2
  rw [← balz_eq] at hQ
  have loop : ∀ (j i : Nat) (acc : Int32), i + j = F 4 → sui (baliff F m op d) i j acc = sui (baliff F m op d) 0 (F 4) 0 → VV yX12_worthBy cX12_worthBy 6 (some .int) 2 Q b ad 6 [some (.ref (b + 157)), some (.int (nI m)), some (.int (nI d)), some (.int (eP op)), some (.int acc), some (.int (nI i))] [] I L R := by
    intro j
    induction j with
    | zero =>
      intro i acc hi he
      have he : acc = _ := he
      subst he
      refine v_iload_5 dX12_worthBy_6 ?_
      refine v_aload_0 dX12_worthBy_8 ?_
      refine u_getR dX12_worthBy_9 gf_X12_20 (by first | assumption | rfl | exact led_1 (by assumption) | exact led_2 (by assumption) | exact bk_m (by assumption) (by first | assumption | omega) | exact bk_p (by assumption) (by first | assumption | omega) | exact bk_o (by assumption) (by first | assumption | omega) | exact bk_s (by assumption) (by first | assumption | omega) | exact bk_1 (by assumption) | exact bk_2 (by assumption) | exact bk_3 (by assumption) | exact bk_4 (by assumption) | exact bk_5 (by assumption) | exact bk_6 (by assumption) | exact bk_7 (by assumption) | exact bk_8 (by assumption) | exact sh_ring _ (by first | assumption | omega) | exact sh_imgs _ (by first | assumption | omega)) (ro_X12_15 (by assumption)) ?_
      refine v_iconst (v := nI 4) dX12_worthBy_12 (by decide) ?_
      refine u_iald dX12_worthBy_13 (by first | assumption | rfl | exact led_1 (by assumption) | exact led_2 (by assumption) | exact bk_m (by assumption) (by first | assumption | omega) | exact bk_p (by assumption) (by first | assumption | omega) | exact bk_o (by assumption) (by first | assumption | omega) | exact bk_s (by assumption) (by first | assumption | omega) | exact bk_1 (by assumption) | exact bk_2 (by assumption) | exact bk_3 (by assumption) | exact bk_4 (by assumption) | exact bk_5 (by assumption) | exact bk_6 (by assumption) | exact bk_7 (by assumption) | exact bk_8 (by assumption) | exact sh_ring _ (by first | assumption | omega) | exact sh_imgs _ (by first | assumption | omega)) (by first | with_reducible rfl | (simp only [nlit, nI_add, pk_mul]; with_reducible rfl) | rfl) (by first | assumption | omega) (by first | assumption | decide) ?_
      rw [hF 4 (by decide)]
      refine v_icmp_ge (tgt := 87) dX12_worthBy_14 (by decide) (fun hc14 => ?_) (fun hc14 => ?_)
      · (try rw [nI_leI (by omega) (by omega)] at hc14)
        refine v_iload_4 dX12_worthBy_87 ?_
        refine v_iret dX12_worthBy_89 rfl rfl rfl rfl ?_
        exact hQ
      · exact absurd (nI_le (by omega) (by omega)) hc14
    | succ j ih =>
      intro i acc hij he
      have hi : i < F 4 := by omega
      obtain ⟨y1, y2, y3, y4, y5, y6, y7⟩ := fk_o hO hi
      refine v_iload_5 dX12_worthBy_6 ?_
      refine v_aload_0 dX12_worthBy_8 ?_
      refine u_getR dX12_worthBy_9 gf_X12_20 (by first | assumption | rfl | exact led_1 (by assumption) | exact led_2 (by assumption) | exact bk_m (by assumption) (by first | assumption | omega) | exact bk_p (by assumption) (by first | assumption | omega) | exact bk_o (by assumption) (by first | assumption | omega) | exact bk_s (by assumption) (by first | assumption | omega) | exact bk_1 (by assumption) | exact bk_2 (by assumption) | exact bk_3 (by assumption) | exact bk_4 (by assumption) | exact bk_5 (by assumption) | exact bk_6 (by assumption) | exact bk_7 (by assumption) | exact bk_8 (by assumption) | exact sh_ring _ (by first | assumption | omega) | exact sh_imgs _ (by first | assumption | omega)) (ro_X12_15 (by assumption)) ?_
      refine v_iconst (v := nI 4) dX12_worthBy_12 (by decide) ?_
      refine u_iald dX12_worthBy_13 (by first | assumption | rfl | exact led_1 (by assumption) | exact led_2 (by assumption) | exact bk_m (by assumption) (by first | assumption | omega) | exact bk_p (by assumption) (by first | assumption | omega) | exact bk_o (by assumption) (by first | assumption | omega) | exact bk_s (by assumption) (by first | assumption | omega) | exact bk_1 (by assumption) | exact bk_2 (by assumption) | exact bk_3 (by assumption) | exact bk_4 (by assumption) | exact bk_5 (by assumption) | exact bk_6 (by assumption) | exact bk_7 (by assumption) | exact bk_8 (by assumption) | exact sh_ring _ (by first | assumption | omega) | exact sh_imgs _ (by first | assumption | omega)) (by first | with_reducible rfl | (simp only [nlit, nI_add, pk_mul]; with_reducible rfl) | rfl) (by first | assumption | omega) (by first | assumption | decide) ?_
      rw [hF 4 (by decide)]
      refine v_icmp_ge (tgt := 87) dX12_worthBy_14 (by decide) (fun hc14 => ?_) (fun hc14 => ?_)
      · exact absurd hc14 (nI_ge (by omega) (by omega))
      · (try rw [nI_leI (by omega) (by omega)] at hc14)
        refine v_aload_0 dX12_worthBy_17 ?_
        refine v_iload_5 dX12_worthBy_18 ?_
        refine v_iconst (v := nI 0) dX12_worthBy_20 (by decide) ?_
        refine u_callV_2 dX12_worthBy_21 ml_X12_319 mv_X12_own (by first | assumption | rfl | exact led_1 (by assumption) | exact led_2 (by assumption) | exact bk_m (by assumption) (by first | assumption | omega) | exact bk_p (by assumption) (by first | assumption | omega) | exact bk_o (by assumption) (by first | assumption | omega) | exact bk_s (by assumption) (by first | assumption | omega) | exact bk_1 (by assumption) | exact bk_2 (by assumption) | exact bk_3 (by assumption) | exact bk_4 (by assumption) | exact bk_5 (by assumption) | exact bk_6 (by assumption) | exact bk_7 (by assumption) | exact bk_8 (by assumption) | exact sh_ring _ (by first | assumption | omega) | exact sh_imgs _ (by first | assumption | omega)) (by decide) rfl (by decide) (Nat.le_of_ble_eq_true rfl) (c_X12_own (k := 56 + 6 * i) hR hr.1.1 (by omega) (by decide) (by omega) ?_)
        refine v_iload_1 dX12_worthBy_24 ?_
        refine v_icmp_ne (tgt := 81) dX12_worthBy_25 (by decide) (fun hc25 => ?_) (fun hc25 => ?_)
        · (try rw [nI_eq (by omega) (by omega)] at hc25)
          refine v_iinc_5 (v := 1) rfl dX12_worthBy_81 (by decide) ?_
          rw [show nI i + 1 = nI (i + 1) from nI_1 i]
          refine v_goto (tgt := 6) dX12_worthBy_84 (by decide) ?_
          refine ih (i + 1) _ (by omega) ?_
          rw [← he]
          show _ = sui (baliff F m _ d) (i + 1) j (acc + baliff F m _ d i)
          congr 1
          unfold baliff isOfV
          first
            | (rw [decide_eq_false hc25, Bool.false_and, if_neg (by decide)]; exact (Int32.add_zero _).symm)
            | (rw [decide_eq_true hc25, decide_eq_false hc36, if_neg (by decide)]; exact (Int32.add_zero _).symm)
            | (rw [decide_eq_true hc25, decide_eq_true hc36, if_pos (by decide)]; unfold yl; rw [hc57]; rfl)
            | (have e47 : op = none := (by cases op with | none => rfl | some p => exact absurd hc47 (nIm2 (by have := hop p rfl; omega))); subst e47; rw [decide_eq_true hc25, decide_eq_true hc36, if_pos (by decide)]; rfl)
        · (try rw [nI_eq (by omega) (by omega)] at hc25)
          refine v_aload_0 dX12_worthBy_28 ?_
          refine v_iload_5 dX12_worthBy_29 ?_
          refine v_iconst (v := nI 2) dX12_worthBy_31 (by decide) ?_
          refine u_callV_2 dX12_worthBy_32 ml_X12_319 mv_X12_own (by first | assumption | rfl | exact led_1 (by assumption) | exact led_2 (by assumption) | exact bk_m (by assumption) (by first | assumption | omega) | exact bk_p (by assumption) (by first | assumption | omega) | exact bk_o (by assumption) (by first | assumption | omega) | exact bk_s (by assumption) (by first | assumption | omega) | exact bk_1 (by assumption) | exact bk_2 (by assumption) | exact bk_3 (by assumption) | exact bk_4 (by assumption) | exact bk_5 (by assumption) | exact bk_6 (by assumption) | exact bk_7 (by assumption) | exact bk_8 (by assumption) | exact sh_ring _ (by first | assumption | omega) | exact sh_imgs _ (by first | assumption | omega)) (by decide) rfl (by decide) (Nat.le_of_ble_eq_true rfl) (c_X12_own (k := 58 + 6 * i) hR hr.1.1 (by omega) (by decide) (by omega) ?_)
          refine v_iload_2 dX12_worthBy_35 ?_
          refine v_icmp_eq (tgt := 42) dX12_worthBy_36 (by decide) (fun hc36 => ?_) (fun hc36 => ?_)
          · (try rw [nI_eq (by omega) (by omega)] at hc36)
            refine v_iload_4 dX12_worthBy_42 ?_
            refine v_iload_3 dX12_worthBy_44 ?_
            refine v_bipush (v := -2) dX12_worthBy_45 (by decide) ?_
            refine v_icmp_eq (tgt := 70) dX12_worthBy_47 (by decide) (fun hc47 => ?_) (fun hc47 => ?_)
            · skip
              refine v_aload_0 dX12_worthBy_70 ?_
              refine v_iload_5 dX12_worthBy_71 ?_
              refine v_iconst (v := nI 4) dX12_worthBy_73 (by decide) ?_
              refine u_callV_2 dX12_worthBy_74 ml_X12_319 mv_X12_own (by first | assumption | rfl | exact led_1 (by assumption) | exact led_2 (by assumption) | exact bk_m (by assumption) (by first | assumption | omega) | exact bk_p (by assumption) (by first | assumption | omega) | exact bk_o (by assumption) (by first | assumption | omega) | exact bk_s (by assumption) (by first | assumption | omega) | exact bk_1 (by assumption) | exact bk_2 (by assumption) | exact bk_3 (by assumption) | exact bk_4 (by assumption) | exact bk_5 (by assumption) | exact bk_6 (by assumption) | exact bk_7 (by assumption) | exact bk_8 (by assumption) | exact sh_ring _ (by first | assumption | omega) | exact sh_imgs _ (by first | assumption | omega)) (by decide) rfl (by decide) (Nat.le_of_ble_eq_true rfl) (c_X12_own (k := 60 + 6 * i) hR hr.1.1 (by omega) (by decide) (by omega) ?_)
              refine v_ineg dX12_worthBy_77 ?_
              refine v_iadd dX12_worthBy_78 ?_
              refine v_istore_4 rfl dX12_worthBy_79 ?_
              refine v_iinc_5 (v := 1) rfl dX12_worthBy_81 (by decide) ?_
              rw [show nI i + 1 = nI (i + 1) from nI_1 i]
              refine v_goto (tgt := 6) dX12_worthBy_84 (by decide) ?_
              refine ih (i + 1) _ (by omega) ?_
              rw [← he]
              show _ = sui (baliff F m _ d) (i + 1) j (acc + baliff F m _ d i)
              congr 1
              unfold baliff isOfV
              first
                | (rw [decide_eq_false hc25, Bool.false_and, if_neg (by decide)]; exact (Int32.add_zero _).symm)
                | (rw [decide_eq_true hc25, decide_eq_false hc36, if_neg (by decide)]; exact (Int32.add_zero _).symm)
                | (rw [decide_eq_true hc25, decide_eq_true hc36, if_pos (by decide)]; unfold yl; rw [hc57]; rfl)
                | (have e47 : op = none := (by cases op with | none => rfl | some p => exact absurd hc47 (nIm2 (by have := hop p rfl; omega))); subst e47; rw [decide_eq_true hc25, decide_eq_true hc36, if_pos (by decide)]; rfl)
            · skip
              obtain ⟨p, rfl⟩ : ∃ p, op = some p := by
                cases op with
                | none => exact absurd rfl hc47
                | some p => exact ⟨p, rfl⟩
              refine v_aload_0 dX12_worthBy_50 ?_
              refine v_iload_5 dX12_worthBy_51 ?_
              refine v_iload_3 dX12_worthBy_53 ?_
              refine u_callV_2 dX12_worthBy_54 ml_X12_328 mv_X12_wouldBe (by first | assumption | rfl | exact led_1 (by assumption) | exact led_2 (by assumption) | exact bk_m (by assumption) (by first | assumption | omega) | exact bk_p (by assumption) (by first | assumption | omega) | exact bk_o (by assumption) (by first | assumption | omega) | exact bk_s (by assumption) (by first | assumption | omega) | exact bk_1 (by assumption) | exact bk_2 (by assumption) | exact bk_3 (by assumption) | exact bk_4 (by assumption) | exact bk_5 (by assumption) | exact bk_6 (by assumption) | exact bk_7 (by assumption) | exact bk_8 (by assumption) | exact sh_ring _ (by first | assumption | omega) | exact sh_imgs _ (by first | assumption | omega)) (by decide) rfl (by decide) (Nat.le_of_ble_eq_true rfl) (c_X12_wouldBe (p := p) hR hr hi (hop p rfl) ?_)
              refine v_if_eq (tgt := 70) dX12_worthBy_57 (by decide) (fun hc57 => ?_) (fun hc57 => ?_)
              · (first | rw [bI_0, Bool.not_eq_false] at hc57 | rw [bI_0] at hc57 | rw [show (0 : Int32) = nI 0 from rfl, nI_eq (by omega) (by omega)] at hc57 | skip)
                refine v_aload_0 dX12_worthBy_70 ?_
                refine v_iload_5 dX12_worthBy_71 ?_
                refine v_iconst (v := nI 4) dX12_worthBy_73 (by decide) ?_
                refine u_callV_2 dX12_worthBy_74 ml_X12_319 mv_X12_own (by first | assumption | rfl | exact led_1 (by assumption) | exact led_2 (by assumption) | exact bk_m (by assumption) (by first | assumption | omega) | exact bk_p (by assumption) (by first | assumption | omega) | exact bk_o (by assumption) (by first | assumption | omega) | exact bk_s (by assumption) (by first | assumption | omega) | exact bk_1 (by assumption) | exact bk_2 (by assumption) | exact bk_3 (by assumption) | exact bk_4 (by assumption) | exact bk_5 (by assumption) | exact bk_6 (by assumption) | exact bk_7 (by assumption) | exact bk_8 (by assumption) | exact sh_ring _ (by first | assumption | omega) | exact sh_imgs _ (by first | assumption | omega)) (by decide) rfl (by decide) (Nat.le_of_ble_eq_true rfl) (c_X12_own (k := 60 + 6 * i) hR hr.1.1 (by omega) (by decide) (by omega) ?_)
                refine v_ineg dX12_worthBy_77 ?_
                refine v_iadd dX12_worthBy_78 ?_
                refine v_istore_4 rfl dX12_worthBy_79 ?_
                refine v_iinc_5 (v := 1) rfl dX12_worthBy_81 (by decide) ?_
                rw [show nI i + 1 = nI (i + 1) from nI_1 i]
                refine v_goto (tgt := 6) dX12_worthBy_84 (by decide) ?_
                refine ih (i + 1) _ (by omega) ?_
                rw [← he]
                show _ = sui (baliff F m _ d) (i + 1) j (acc + baliff F m _ d i)
                congr 1
                unfold baliff isOfV
                first
                  | (rw [decide_eq_false hc25, Bool.false_and, if_neg (by decide)]; exact (Int32.add_zero _).symm)
                  | (rw [decide_eq_true hc25, decide_eq_false hc36, if_neg (by decide)]; exact (Int32.add_zero _).symm)
                  | (rw [decide_eq_true hc25, decide_eq_true hc36, if_pos (by decide)]; unfold yl; rw [hc57]; rfl)
                  | (have e47 : op = none := (by cases op with | none => rfl | some p => exact absurd hc47 (nIm2 (by have := hop p rfl; omega))); subst e47; rw [decide_eq_true hc25, decide_eq_true hc36, if_pos (by decide)]; rfl)
              · (first | rw [bI_0, Bool.not_eq_false] at hc57 | rw [bI_0] at hc57 | rw [show (0 : Int32) = nI 0 from rfl, nI_eq (by omega) (by omega)] at hc57 | skip)
                refine v_aload_0 dX12_worthBy_60 ?_
                refine v_iload_5 dX12_worthBy_61 ?_
                refine v_iconst (v := nI 3) dX12_worthBy_63 (by decide) ?_
                refine u_callV_2 dX12_worthBy_64 ml_X12_319 mv_X12_own (by first | assumption | rfl | exact led_1 (by assumption) | exact led_2 (by assumption) | exact bk_m (by assumption) (by first | assumption | omega) | exact bk_p (by assumption) (by first | assumption | omega) | exact bk_o (by assumption) (by first | assumption | omega) | exact bk_s (by assumption) (by first | assumption | omega) | exact bk_1 (by assumption) | exact bk_2 (by assumption) | exact bk_3 (by assumption) | exact bk_4 (by assumption) | exact bk_5 (by assumption) | exact bk_6 (by assumption) | exact bk_7 (by assumption) | exact bk_8 (by assumption) | exact sh_ring _ (by first | assumption | omega) | exact sh_imgs _ (by first | assumption | omega)) (by decide) rfl (by decide) (Nat.le_of_ble_eq_true rfl) (c_X12_own (k := 59 + 6 * i) hR hr.1.1 (by omega) (by decide) (by omega) ?_)
                refine v_goto (tgt := 78) dX12_worthBy_67 (by decide) ?_
                refine v_iadd dX12_worthBy_78 ?_
                refine v_istore_4 rfl dX12_worthBy_79 ?_
                refine v_iinc_5 (v := 1) rfl dX12_worthBy_81 (by decide) ?_
                rw [show nI i + 1 = nI (i + 1) from nI_1 i]
                refine v_goto (tgt := 6) dX12_worthBy_84 (by decide) ?_
                refine ih (i + 1) _ (by omega) ?_
                rw [← he]
                show _ = sui (baliff F m _ d) (i + 1) j (acc + baliff F m _ d i)
                congr 1
                unfold baliff isOfV
                first
                  | (rw [decide_eq_false hc25, Bool.false_and, if_neg (by decide)]; exact (Int32.add_zero _).symm)
                  | (rw [decide_eq_true hc25, decide_eq_false hc36, if_neg (by decide)]; exact (Int32.add_zero _).symm)
                  | (rw [decide_eq_true hc25, decide_eq_true hc36, if_pos (by decide)]; unfold yl; rw [hc57]; rfl)
                  | (have e47 : op = none := (by cases op with | none => rfl | some p => exact absurd hc47 (nIm2 (by have := hop p rfl; omega))); subst e47; rw [decide_eq_true hc25, decide_eq_true hc36, if_pos (by decide)]; rfl)
          · (try rw [nI_eq (by omega) (by omega)] at hc36)
            refine v_goto (tgt := 81) dX12_worthBy_39 (by decide) ?_
            refine v_iinc_5 (v := 1) rfl dX12_worthBy_81 (by decide) ?_
            rw [show nI i + 1 = nI (i + 1) from nI_1 i]
            refine v_goto (tgt := 6) dX12_worthBy_84 (by decide) ?_
            refine ih (i + 1) _ (by omega) ?_
            rw [← he]
            show _ = sui (baliff F m _ d) (i + 1) j (acc + baliff F m _ d i)
            congr 1
            unfold baliff isOfV
            first
              | (rw [decide_eq_false hc25, Bool.false_and, if_neg (by decide)]; exact (Int32.add_zero _).symm)
              | (rw [decide_eq_true hc25, decide_eq_false hc36, if_neg (by decide)]; exact (Int32.add_zero _).symm)
              | (rw [decide_eq_true hc25, decide_eq_true hc36, if_pos (by decide)]; unfold yl; rw [hc57]; rfl)
              | (have e47 : op = none := (by cases op with | none => rfl | some p => exact absurd hc47 (nIm2 (by have := hop p rfl; omega))); subst e47; rw [decide_eq_true hc25, decide_eq_true hc36, if_pos (by decide)]; rfl)
  refine K.of (M := mX12_worthBy) (lv := [some (.ref (b + 157)), some (.int (nI m)), some (.int (nI d)), some (.int (eP op)), none, none]) (by decide) (Nat.le_of_ble_eq_true rfl) rfl ?_
  refine v_iconst (v := nI 0) dX12_worthBy_0 (by decide) ?_
  refine v_istore_4 rfl dX12_worthBy_1 ?_
  refine v_iconst (v := nI 0) dX12_worthBy_3 (by decide) ?_
  refine v_istore_5 rfl dX12_worthBy_4 ?_
  exact loop (F 4) 0 0 (by omega) rfl
end
