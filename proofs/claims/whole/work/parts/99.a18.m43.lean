theorem dX12_readLine_0 : decode cX12_readLine 0 = .ok (.aload_n 0, 1) := by decide +kernel
theorem dX12_readLine_1 : decode cX12_readLine 1 = .ok (.ldc 123, 2) := by decide +kernel
theorem dX12_readLine_3 : decode cX12_readLine 3 = .ok (.aload_n 0, 1) := by decide +kernel
theorem dX12_readLine_4 : decode cX12_readLine 4 = .ok (.getfield 23, 3) := by decide +kernel
theorem dX12_readLine_7 : decode cX12_readLine 7 = .ok (.iconst 0, 1) := by decide +kernel
theorem dX12_readLine_8 : decode cX12_readLine 8 = .ok (.iaload, 1) := by decide +kernel
theorem dX12_readLine_9 : decode cX12_readLine 9 = .ok (.ifCond .ne 7, 3) := by decide +kernel
theorem dX12_readLine_12 : decode cX12_readLine 12 = .ok (.iconst 1, 1) := by decide +kernel
theorem dX12_readLine_13 : decode cX12_readLine 13 = .ok (.goto 4, 3) := by decide +kernel
theorem dX12_readLine_16 : decode cX12_readLine 16 = .ok (.iconst 0, 1) := by decide +kernel
theorem dX12_readLine_17 : decode cX12_readLine 17 = .ok (.iconst 3, 1) := by decide +kernel
theorem dX12_readLine_18 : decode cX12_readLine 18 = .ok (.invokevirtual 198, 3) := by decide +kernel
theorem dX12_readLine_21 : decode cX12_readLine 21 = .ok (.ifCond .eq 10, 3) := by decide +kernel
theorem dX12_readLine_24 : decode cX12_readLine 24 = .ok (.aload_n 0, 1) := by decide +kernel
theorem dX12_readLine_25 : decode cX12_readLine 25 = .ok (.invokevirtual 202, 3) := by decide +kernel
theorem dX12_readLine_28 : decode cX12_readLine 28 = .ok (.goto 258, 3) := by decide +kernel
theorem dX12_readLine_31 : decode cX12_readLine 31 = .ok (.aload_n 0, 1) := by decide +kernel
theorem dX12_readLine_32 : decode cX12_readLine 32 = .ok (.ldc 125, 2) := by decide +kernel
theorem dX12_readLine_34 : decode cX12_readLine 34 = .ok (.iconst 1, 1) := by decide +kernel
theorem dX12_readLine_35 : decode cX12_readLine 35 = .ok (.iconst 1, 1) := by decide +kernel
theorem dX12_readLine_36 : decode cX12_readLine 36 = .ok (.invokevirtual 198, 3) := by decide +kernel
theorem dX12_readLine_39 : decode cX12_readLine 39 = .ok (.ifCond .eq 10, 3) := by decide +kernel
theorem dX12_readLine_42 : decode cX12_readLine 42 = .ok (.aload_n 0, 1) := by decide +kernel
theorem dX12_readLine_43 : decode cX12_readLine 43 = .ok (.invokevirtual 205, 3) := by decide +kernel
theorem dX12_readLine_46 : decode cX12_readLine 46 = .ok (.goto 240, 3) := by decide +kernel
theorem dX12_readLine_49 : decode cX12_readLine 49 = .ok (.aload_n 0, 1) := by decide +kernel
theorem dX12_readLine_50 : decode cX12_readLine 50 = .ok (.ldc 127, 2) := by decide +kernel
theorem dX12_readLine_52 : decode cX12_readLine 52 = .ok (.aload_n 0, 1) := by decide +kernel
theorem dX12_readLine_53 : decode cX12_readLine 53 = .ok (.getfield 23, 3) := by decide +kernel
theorem dX12_readLine_56 : decode cX12_readLine 56 = .ok (.iconst 2, 1) := by decide +kernel
theorem dX12_readLine_57 : decode cX12_readLine 57 = .ok (.iaload, 1) := by decide +kernel
theorem dX12_readLine_58 : decode cX12_readLine 58 = .ok (.bipush 6, 2) := by decide +kernel
theorem dX12_readLine_60 : decode cX12_readLine 60 = .ok (.if_icmp .ge 7, 3) := by decide +kernel
theorem dX12_readLine_63 : decode cX12_readLine 63 = .ok (.iconst 1, 1) := by decide +kernel
theorem dX12_readLine_64 : decode cX12_readLine 64 = .ok (.goto 4, 3) := by decide +kernel
theorem dX12_readLine_67 : decode cX12_readLine 67 = .ok (.iconst 0, 1) := by decide +kernel
theorem dX12_readLine_68 : decode cX12_readLine 68 = .ok (.iconst 5, 1) := by decide +kernel
theorem dX12_readLine_69 : decode cX12_readLine 69 = .ok (.invokevirtual 198, 3) := by decide +kernel
theorem dX12_readLine_72 : decode cX12_readLine 72 = .ok (.ifCond .eq 10, 3) := by decide +kernel
theorem dX12_readLine_75 : decode cX12_readLine 75 = .ok (.aload_n 0, 1) := by decide +kernel
theorem dX12_readLine_76 : decode cX12_readLine 76 = .ok (.invokevirtual 208, 3) := by decide +kernel
theorem dX12_readLine_79 : decode cX12_readLine 79 = .ok (.goto 207, 3) := by decide +kernel
theorem dX12_readLine_82 : decode cX12_readLine 82 = .ok (.aload_n 0, 1) := by decide +kernel
theorem dX12_readLine_83 : decode cX12_readLine 83 = .ok (.ldc 129, 2) := by decide +kernel
theorem dX12_readLine_85 : decode cX12_readLine 85 = .ok (.aload_n 0, 1) := by decide +kernel
theorem dX12_readLine_86 : decode cX12_readLine 86 = .ok (.getfield 23, 3) := by decide +kernel
theorem dX12_readLine_89 : decode cX12_readLine 89 = .ok (.iconst 3, 1) := by decide +kernel
theorem dX12_readLine_90 : decode cX12_readLine 90 = .ok (.iaload, 1) := by decide +kernel
theorem dX12_readLine_91 : decode cX12_readLine 91 = .ok (.bipush 6, 2) := by decide +kernel
theorem dX12_readLine_93 : decode cX12_readLine 93 = .ok (.if_icmp .ge 7, 3) := by decide +kernel
theorem dX12_readLine_96 : decode cX12_readLine 96 = .ok (.iconst 1, 1) := by decide +kernel
theorem dX12_readLine_97 : decode cX12_readLine 97 = .ok (.goto 4, 3) := by decide +kernel
theorem dX12_readLine_100 : decode cX12_readLine 100 = .ok (.iconst 0, 1) := by decide +kernel
theorem dX12_readLine_101 : decode cX12_readLine 101 = .ok (.iconst 5, 1) := by decide +kernel
theorem dX12_readLine_102 : decode cX12_readLine 102 = .ok (.invokevirtual 198, 3) := by decide +kernel
theorem dX12_readLine_105 : decode cX12_readLine 105 = .ok (.ifCond .eq 10, 3) := by decide +kernel
theorem dX12_readLine_108 : decode cX12_readLine 108 = .ok (.aload_n 0, 1) := by decide +kernel
theorem dX12_readLine_109 : decode cX12_readLine 109 = .ok (.invokevirtual 211, 3) := by decide +kernel
theorem dX12_readLine_112 : decode cX12_readLine 112 = .ok (.goto 174, 3) := by decide +kernel
theorem dX12_readLine_115 : decode cX12_readLine 115 = .ok (.aload_n 0, 1) := by decide +kernel
theorem dX12_readLine_116 : decode cX12_readLine 116 = .ok (.ldc 131, 2) := by decide +kernel
theorem dX12_readLine_118 : decode cX12_readLine 118 = .ok (.aload_n 0, 1) := by decide +kernel
theorem dX12_readLine_119 : decode cX12_readLine 119 = .ok (.getfield 23, 3) := by decide +kernel
theorem dX12_readLine_122 : decode cX12_readLine 122 = .ok (.iconst 4, 1) := by decide +kernel
theorem dX12_readLine_123 : decode cX12_readLine 123 = .ok (.iaload, 1) := by decide +kernel
theorem dX12_readLine_124 : decode cX12_readLine 124 = .ok (.bipush 12, 2) := by decide +kernel
theorem dX12_readLine_126 : decode cX12_readLine 126 = .ok (.if_icmp .ge 7, 3) := by decide +kernel
theorem dX12_readLine_129 : decode cX12_readLine 129 = .ok (.iconst 1, 1) := by decide +kernel
theorem dX12_readLine_130 : decode cX12_readLine 130 = .ok (.goto 4, 3) := by decide +kernel
theorem dX12_readLine_133 : decode cX12_readLine 133 = .ok (.iconst 0, 1) := by decide +kernel
theorem dX12_readLine_134 : decode cX12_readLine 134 = .ok (.invokevirtual 214, 3) := by decide +kernel
theorem dX12_readLine_137 : decode cX12_readLine 137 = .ok (.ifCond .eq 10, 3) := by decide +kernel
theorem dX12_readLine_140 : decode cX12_readLine 140 = .ok (.aload_n 0, 1) := by decide +kernel
theorem dX12_readLine_141 : decode cX12_readLine 141 = .ok (.invokevirtual 218, 3) := by decide +kernel
theorem dX12_readLine_144 : decode cX12_readLine 144 = .ok (.goto 142, 3) := by decide +kernel
theorem dX12_readLine_147 : decode cX12_readLine 147 = .ok (.aload_n 0, 1) := by decide +kernel
theorem dX12_readLine_148 : decode cX12_readLine 148 = .ok (.ldc 133, 2) := by decide +kernel
theorem dX12_readLine_150 : decode cX12_readLine 150 = .ok (.aload_n 0, 1) := by decide +kernel
theorem dX12_readLine_151 : decode cX12_readLine 151 = .ok (.getfield 29, 3) := by decide +kernel
theorem dX12_readLine_154 : decode cX12_readLine 154 = .ok (.iconst 0, 1) := by decide +kernel
theorem dX12_readLine_155 : decode cX12_readLine 155 = .ok (.iaload, 1) := by decide +kernel
theorem dX12_readLine_156 : decode cX12_readLine 156 = .ok (.bipush 12, 2) := by decide +kernel
theorem dX12_readLine_158 : decode cX12_readLine 158 = .ok (.if_icmp .ge 7, 3) := by decide +kernel
theorem dX12_readLine_161 : decode cX12_readLine 161 = .ok (.iconst 1, 1) := by decide +kernel
theorem dX12_readLine_162 : decode cX12_readLine 162 = .ok (.goto 4, 3) := by decide +kernel
theorem dX12_readLine_165 : decode cX12_readLine 165 = .ok (.iconst 0, 1) := by decide +kernel
theorem dX12_readLine_166 : decode cX12_readLine 166 = .ok (.invokevirtual 214, 3) := by decide +kernel
theorem dX12_readLine_169 : decode cX12_readLine 169 = .ok (.ifCond .eq 10, 3) := by decide +kernel
theorem dX12_readLine_172 : decode cX12_readLine 172 = .ok (.aload_n 0, 1) := by decide +kernel
theorem dX12_readLine_173 : decode cX12_readLine 173 = .ok (.invokevirtual 221, 3) := by decide +kernel
theorem dX12_readLine_176 : decode cX12_readLine 176 = .ok (.goto 110, 3) := by decide +kernel
theorem dX12_readLine_179 : decode cX12_readLine 179 = .ok (.aload_n 0, 1) := by decide +kernel
theorem dX12_readLine_180 : decode cX12_readLine 180 = .ok (.ldc 135, 2) := by decide +kernel
theorem dX12_readLine_182 : decode cX12_readLine 182 = .ok (.aload_n 0, 1) := by decide +kernel
theorem dX12_readLine_183 : decode cX12_readLine 183 = .ok (.getfield 23, 3) := by decide +kernel
theorem dX12_readLine_186 : decode cX12_readLine 186 = .ok (.iconst 5, 1) := by decide +kernel
theorem dX12_readLine_187 : decode cX12_readLine 187 = .ok (.iaload, 1) := by decide +kernel
theorem dX12_readLine_188 : decode cX12_readLine 188 = .ok (.bipush 8, 2) := by decide +kernel
theorem dX12_readLine_190 : decode cX12_readLine 190 = .ok (.if_icmp .ge 7, 3) := by decide +kernel
theorem dX12_readLine_193 : decode cX12_readLine 193 = .ok (.iconst 1, 1) := by decide +kernel
theorem dX12_readLine_194 : decode cX12_readLine 194 = .ok (.goto 4, 3) := by decide +kernel
theorem dX12_readLine_197 : decode cX12_readLine 197 = .ok (.iconst 0, 1) := by decide +kernel
theorem dX12_readLine_198 : decode cX12_readLine 198 = .ok (.invokevirtual 214, 3) := by decide +kernel
theorem dX12_readLine_201 : decode cX12_readLine 201 = .ok (.ifCond .eq 10, 3) := by decide +kernel
theorem dX12_readLine_204 : decode cX12_readLine 204 = .ok (.aload_n 0, 1) := by decide +kernel
theorem dX12_readLine_205 : decode cX12_readLine 205 = .ok (.invokevirtual 224, 3) := by decide +kernel
theorem dX12_readLine_208 : decode cX12_readLine 208 = .ok (.goto 78, 3) := by decide +kernel
theorem dX12_readLine_211 : decode cX12_readLine 211 = .ok (.aload_n 0, 1) := by decide +kernel
theorem dX12_readLine_212 : decode cX12_readLine 212 = .ok (.ldc 137, 2) := by decide +kernel
theorem dX12_readLine_214 : decode cX12_readLine 214 = .ok (.aload_n 0, 1) := by decide +kernel
theorem dX12_readLine_215 : decode cX12_readLine 215 = .ok (.getfield 23, 3) := by decide +kernel
theorem dX12_readLine_218 : decode cX12_readLine 218 = .ok (.bipush 6, 2) := by decide +kernel
theorem dX12_readLine_220 : decode cX12_readLine 220 = .ok (.iaload, 1) := by decide +kernel
theorem dX12_readLine_221 : decode cX12_readLine 221 = .ok (.bipush 8, 2) := by decide +kernel
theorem dX12_readLine_223 : decode cX12_readLine 223 = .ok (.if_icmp .ge 7, 3) := by decide +kernel
theorem dX12_readLine_226 : decode cX12_readLine 226 = .ok (.iconst 1, 1) := by decide +kernel
theorem dX12_readLine_227 : decode cX12_readLine 227 = .ok (.goto 4, 3) := by decide +kernel
theorem dX12_readLine_230 : decode cX12_readLine 230 = .ok (.iconst 0, 1) := by decide +kernel
theorem dX12_readLine_231 : decode cX12_readLine 231 = .ok (.invokevirtual 214, 3) := by decide +kernel
theorem dX12_readLine_234 : decode cX12_readLine 234 = .ok (.ifCond .eq 10, 3) := by decide +kernel
theorem dX12_readLine_237 : decode cX12_readLine 237 = .ok (.aload_n 0, 1) := by decide +kernel
theorem dX12_readLine_238 : decode cX12_readLine 238 = .ok (.invokevirtual 227, 3) := by decide +kernel
theorem dX12_readLine_241 : decode cX12_readLine 241 = .ok (.goto 45, 3) := by decide +kernel
theorem dX12_readLine_244 : decode cX12_readLine 244 = .ok (.aload_n 0, 1) := by decide +kernel
theorem dX12_readLine_245 : decode cX12_readLine 245 = .ok (.ldc 139, 2) := by decide +kernel
theorem dX12_readLine_247 : decode cX12_readLine 247 = .ok (.aload_n 0, 1) := by decide +kernel
theorem dX12_readLine_248 : decode cX12_readLine 248 = .ok (.getfield 23, 3) := by decide +kernel
theorem dX12_readLine_251 : decode cX12_readLine 251 = .ok (.bipush 7, 2) := by decide +kernel
theorem dX12_readLine_253 : decode cX12_readLine 253 = .ok (.iaload, 1) := by decide +kernel
theorem dX12_readLine_254 : decode cX12_readLine 254 = .ok (.bipush 8, 2) := by decide +kernel
theorem dX12_readLine_256 : decode cX12_readLine 256 = .ok (.if_icmp .ge 7, 3) := by decide +kernel
theorem dX12_readLine_259 : decode cX12_readLine 259 = .ok (.iconst 1, 1) := by decide +kernel
theorem dX12_readLine_260 : decode cX12_readLine 260 = .ok (.goto 4, 3) := by decide +kernel
theorem dX12_readLine_263 : decode cX12_readLine 263 = .ok (.iconst 0, 1) := by decide +kernel
theorem dX12_readLine_264 : decode cX12_readLine 264 = .ok (.invokevirtual 214, 3) := by decide +kernel
theorem dX12_readLine_267 : decode cX12_readLine 267 = .ok (.ifCond .eq 10, 3) := by decide +kernel
theorem dX12_readLine_270 : decode cX12_readLine 270 = .ok (.aload_n 0, 1) := by decide +kernel
theorem dX12_readLine_271 : decode cX12_readLine 271 = .ok (.invokevirtual 230, 3) := by decide +kernel
theorem dX12_readLine_274 : decode cX12_readLine 274 = .ok (.goto 12, 3) := by decide +kernel
theorem dX12_readLine_277 : decode cX12_readLine 277 = .ok (.aload_n 0, 1) := by decide +kernel
theorem dX12_readLine_278 : decode cX12_readLine 278 = .ok (.iconst 1, 1) := by decide +kernel
theorem dX12_readLine_279 : decode cX12_readLine 279 = .ok (.aload_n 0, 1) := by decide +kernel
theorem dX12_readLine_280 : decode cX12_readLine 280 = .ok (.getfield 73, 3) := by decide +kernel
theorem dX12_readLine_283 : decode cX12_readLine 283 = .ok (.invokevirtual 119, 3) := by decide +kernel
theorem dX12_readLine_286 : decode cX12_readLine 286 = .ok (.return_, 1) := by decide +kernel
section
variable {b : Nat} {ad : Nat → Nat} {I J : HI} {L M : HL} {R : HR} {Q : QT} {tp : Nat → Nat} {sz k e : Nat} {G F : bkF} {l : LSt} {s : PS}
theorem c_X12_readLine (hR : RO R) (h : LvM I tp sz s.1 s.2.1 s.2.2) (hI : PInv sz s) (hF : ∀ f p, line tp sz s = .inl (f, p) → ∀ J : HI, FlM J f p → FrK I J → Q none SH J L R) (hY : ∀ u, line tp sz s = .inr u → ∀ J : HI, LvM J tp sz u.1 u.2.1 u.2.2 → FrK I J → Q none SH J L R) : KK 10 mX12_readLine b ad [.ref (b + 157)] I L R Q := by
  have hO := hI.2.1
  have o0 := hO.1
  have o1 := hO.2.1
  have o2 := hO.2.2.1
  have o3 := hO.2.2.2.1
  have o4 := hO.2.2.2.2.1
  have o5 := hO.2.2.2.2.2.1
  have o6 := hO.2.2.2.2.2.2.1
  have o7 := hI.2.2.1
  have o8 := hI.2.2.2.2.1
  have hz := hI.2.2.2.1
  have hg := h.2.2.2.2.1
  have hS := h.2.2.2.2.2
  have h13 := h.2.2.1
  have t4 := h.2.2.2.1.1
  have l9 : isW tp sz (wd 0) s.1 = false → isW tp sz (wd 1) s.1 = false → isW tp sz (wd 2) s.1 = false → isW tp sz (wd 3) s.1 = false → isW tp sz (wd 4) s.1 = false → isW tp sz (wd 5) s.1 = false → isW tp sz (wd 6) s.1 = false → isW tp sz (wd 7) s.1 = false → isW tp sz (wd 8) s.1 = false → VV yX12_readLine cX12_readLine 1 none 10 Q b ad 277 [some (.ref (b + 157))] [] I L R := by
    intro w0 w1 w2 w3 w4 w5 w6 w7 w8
    refine v_aload_0 dX12_readLine_277 ?_
    refine v_iconst (v := nI 1) dX12_readLine_278 (by decide) ?_
    refine v_aload_0 dX12_readLine_279 ?_
    refine u_getI dX12_readLine_280 gf_X12_73 (by first | assumption | rfl | exact led_1 (by assumption) | exact led_2 (by assumption) | exact bk_m (by assumption) (by first | assumption | omega) | exact bk_p (by assumption) (by first | assumption | omega) | exact bk_o (by assumption) (by first | assumption | omega) | exact bk_s (by assumption) (by first | assumption | omega) | exact bk_1 (by assumption) | exact bk_2 (by assumption) | exact bk_3 (by assumption) | exact bk_4 (by assumption) | exact bk_5 (by assumption) | exact bk_6 (by assumption) | exact bk_7 (by assumption) | exact bk_8 (by assumption) | exact sh_ring _ (by first | assumption | omega) | exact sh_imgs _ (by first | assumption | omega)) ?_
    rw [t4]
    refine u_callV_2 dX12_readLine_283 ml_X12_119 mv_X12_wrong (by first | assumption | rfl | exact led_1 (by assumption) | exact led_2 (by assumption) | exact bk_m (by assumption) (by first | assumption | omega) | exact bk_p (by assumption) (by first | assumption | omega) | exact bk_o (by assumption) (by first | assumption | omega) | exact bk_s (by assumption) (by first | assumption | omega) | exact bk_1 (by assumption) | exact bk_2 (by assumption) | exact bk_3 (by assumption) | exact bk_4 (by assumption) | exact bk_5 (by assumption) | exact bk_6 (by assumption) | exact bk_7 (by assumption) | exact bk_8 (by assumption) | exact sh_ring _ (by first | assumption | omega) | exact sh_imgs _ (by first | assumption | omega)) (by decide) rfl (by decide) (Nat.le_of_ble_eq_true rfl) (c_X12_wrong h13 ?_)
    refine v_vret dX12_readLine_286 rfl rfl rfl rfl ?_
    exact hF 1 _ (by unfold line; rw [if_neg (by rw [w0]; decide), if_neg (by rw [w1]; decide), if_neg (by rw [w2]; decide), if_neg (by rw [w3]; decide), if_neg (by rw [w4]; decide), if_neg (by rw [w5]; decide), if_neg (by rw [w6]; decide), if_neg (by rw [w7]; decide), if_neg (by rw [w8]; decide)]) _ wrong_fl.1 wrong_fl.2.k
  have l8 : isW tp sz (wd 0) s.1 = false → isW tp sz (wd 1) s.1 = false → isW tp sz (wd 2) s.1 = false → isW tp sz (wd 3) s.1 = false → isW tp sz (wd 4) s.1 = false → isW tp sz (wd 5) s.1 = false → isW tp sz (wd 6) s.1 = false → isW tp sz (wd 7) s.1 = false → VV yX12_readLine cX12_readLine 1 none 10 Q b ad 244 [some (.ref (b + 157))] [] I L R := by
    intro w0 w1 w2 w3 w4 w5 w6 w7
    refine v_aload_0 dX12_readLine_244 ?_
    refine v_ldcS (i := 37) dX12_readLine_245 (by decide) rfl rfl ?_
    refine v_aload_0 dX12_readLine_247 ?_
    refine u_getR dX12_readLine_248 gf_X12_23 (by first | assumption | rfl | exact led_1 (by assumption) | exact led_2 (by assumption) | exact bk_m (by assumption) (by first | assumption | omega) | exact bk_p (by assumption) (by first | assumption | omega) | exact bk_o (by assumption) (by first | assumption | omega) | exact bk_s (by assumption) (by first | assumption | omega) | exact bk_1 (by assumption) | exact bk_2 (by assumption) | exact bk_3 (by assumption) | exact bk_4 (by assumption) | exact bk_5 (by assumption) | exact bk_6 (by assumption) | exact bk_7 (by assumption) | exact bk_8 (by assumption) | exact sh_ring _ (by first | assumption | omega) | exact sh_imgs _ (by first | assumption | omega)) (ro_X12_16 (by assumption)) ?_
    refine v_bipush (v := nI 7) dX12_readLine_251 (by decide) ?_
    refine u_iald dX12_readLine_253 (by first | assumption | rfl | exact led_1 (by assumption) | exact led_2 (by assumption) | exact bk_m (by assumption) (by first | assumption | omega) | exact bk_p (by assumption) (by first | assumption | omega) | exact bk_o (by assumption) (by first | assumption | omega) | exact bk_s (by assumption) (by first | assumption | omega) | exact bk_1 (by assumption) | exact bk_2 (by assumption) | exact bk_3 (by assumption) | exact bk_4 (by assumption) | exact bk_5 (by assumption) | exact bk_6 (by assumption) | exact bk_7 (by assumption) | exact bk_8 (by assumption) | exact sh_ring _ (by first | assumption | omega) | exact sh_imgs _ (by first | assumption | omega)) (by first | with_reducible rfl | (simp only [nlit, nI_add, pk_mul]; with_reducible rfl) | rfl) (by first | assumption | omega) (by first | assumption | decide) ?_
    rw [(hg 7 (by decide)).1]
    refine v_bipush (v := nI 8) dX12_readLine_254 (by decide) ?_
    refine v_icmp_ge (tgt := 263) dX12_readLine_256 (by decide) (fun hc256 => ?_) (fun hc256 => ?_)
    · (try rw [nI_leI (by omega) (by omega)] at hc256)
      refine v_iconst (v := nI 0) dX12_readLine_263 (by decide) ?_
      refine u_callV_2 dX12_readLine_264 ml_X12_214 mv_X12_beginsDay (by first | assumption | rfl | exact led_1 (by assumption) | exact led_2 (by assumption) | exact bk_m (by assumption) (by first | assumption | omega) | exact bk_p (by assumption) (by first | assumption | omega) | exact bk_o (by assumption) (by first | assumption | omega) | exact bk_s (by assumption) (by first | assumption | omega) | exact bk_1 (by assumption) | exact bk_2 (by assumption) | exact bk_3 (by assumption) | exact bk_4 (by assumption) | exact bk_5 (by assumption) | exact bk_6 (by assumption) | exact bk_7 (by assumption) | exact bk_8 (by assumption) | exact sh_ring _ (by first | assumption | omega) | exact sh_imgs _ (by first | assumption | omega)) (by decide) rfl (by decide) (Nat.le_of_ble_eq_true rfl) (c_X12_beginsDay (i := 37) (can := false) (by decide) (fun z => absurd (hz z) (by omega)) hR h (fun w => ?_) (fun w o ho J j1 j2 => ?_) (fun w h0 ct J j1 j2 => ?_))
      · refine v_if_eq (tgt := 277) dX12_readLine_267 (by decide) (fun hc267 => ?_) (fun hc267 => ?_)
        · (first | rw [bI_0, Bool.not_eq_false] at hc267 | rw [bI_0] at hc267 | rw [show (0 : Int32) = nI 0 from rfl, nI_eq (by omega) (by omega)] at hc267 | skip)
          exact l9 w0 w1 w2 w3 w4 w5 w6 w7 w
        · exact absurd rfl hc267
      · have w8 : isW tp sz (wd 8) s.1 = true := w
        rcases ho with ⟨a1, rfl⟩ | ⟨a1, a2, rfl⟩
        · refine v_if_eq (tgt := 277) dX12_readLine_267 (by decide) (fun hc267 => ?_) (fun hc267 => ?_)
          · exact absurd hc267 (by decide)
          · (first | rw [bI_0, Bool.not_eq_false] at hc267 | rw [bI_0] at hc267 | rw [show (0 : Int32) = nI 0 from rfl, nI_eq (by omega) (by omega)] at hc267 | skip)
            refine v_aload_0 dX12_readLine_270 ?_
            refine u_callV_0 dX12_readLine_271 ml_X12_230 mv_X12_breakLine (by first | assumption | rfl | exact led_1 (by assumption) | exact led_2 (by assumption) | exact bk_m (by assumption) (by first | assumption | omega) | exact bk_p (by assumption) (by first | assumption | omega) | exact bk_o (by assumption) (by first | assumption | omega) | exact bk_s (by assumption) (by first | assumption | omega) | exact bk_1 (by assumption) | exact bk_2 (by assumption) | exact bk_3 (by assumption) | exact bk_4 (by assumption) | exact bk_5 (by assumption) | exact bk_6 (by assumption) | exact bk_7 (by assumption) | exact bk_8 (by assumption) | exact sh_ring _ (by first | assumption | omega) | exact sh_imgs _ (by first | assumption | omega)) (by decide) rfl (by decide) (Nat.le_of_ble_eq_true rfl) (z_X12_breakLine j1.1 ?_)
            refine v_goto (tgt := 286) dX12_readLine_274 (by decide) ?_
            refine v_vret dX12_readLine_286 rfl rfl rfl rfl ?_
            exact hF 6 _ (by unfold line; rw [if_neg (by rw [w0]; decide), if_neg (by rw [w1]; decide), if_neg (by rw [w2]; decide), if_neg (by rw [w3]; decide), if_neg (by rw [w4]; decide), if_neg (by rw [w5]; decide), if_neg (by rw [w6]; decide), if_neg (by rw [w7]; decide), if_pos w8, qDay, if_pos a1]) J j1 j2.k
        · refine v_if_eq (tgt := 277) dX12_readLine_267 (by decide) (fun hc267 => ?_) (fun hc267 => ?_)
          · exact absurd hc267 (by decide)
          · (first | rw [bI_0, Bool.not_eq_false] at hc267 | rw [bI_0] at hc267 | rw [show (0 : Int32) = nI 0 from rfl, nI_eq (by omega) (by omega)] at hc267 | skip)
            refine v_aload_0 dX12_readLine_270 ?_
            refine u_callV_0 dX12_readLine_271 ml_X12_230 mv_X12_breakLine (by first | assumption | rfl | exact led_1 (by assumption) | exact led_2 (by assumption) | exact bk_m (by assumption) (by first | assumption | omega) | exact bk_p (by assumption) (by first | assumption | omega) | exact bk_o (by assumption) (by first | assumption | omega) | exact bk_s (by assumption) (by first | assumption | omega) | exact bk_1 (by assumption) | exact bk_2 (by assumption) | exact bk_3 (by assumption) | exact bk_4 (by assumption) | exact bk_5 (by assumption) | exact bk_6 (by assumption) | exact bk_7 (by assumption) | exact bk_8 (by assumption) | exact sh_ring _ (by first | assumption | omega) | exact sh_imgs _ (by first | assumption | omega)) (by decide) rfl (by decide) (Nat.le_of_ble_eq_true rfl) (z_X12_breakLine j1.1 ?_)
            refine v_goto (tgt := 286) dX12_readLine_274 (by decide) ?_
            refine v_vret dX12_readLine_286 rfl rfl rfl rfl ?_
            exact hF 5 _ (by unfold line; rw [if_neg (by rw [w0]; decide), if_neg (by rw [w1]; decide), if_neg (by rw [w2]; decide), if_neg (by rw [w3]; decide), if_neg (by rw [w4]; decide), if_neg (by rw [w5]; decide), if_neg (by rw [w6]; decide), if_neg (by rw [w7]; decide), if_pos w8, qDay, if_neg a1, if_neg (by omega)]) J j1 j2.k
      · cases ct
    · (try rw [nI_leI (by omega) (by omega)] at hc256)
      refine v_iconst (v := nI 1) dX12_readLine_259 (by decide) ?_
      refine v_goto (tgt := 264) dX12_readLine_260 (by decide) ?_
      refine u_callV_2 dX12_readLine_264 ml_X12_214 mv_X12_beginsDay (by first | assumption | rfl | exact led_1 (by assumption) | exact led_2 (by assumption) | exact bk_m (by assumption) (by first | assumption | omega) | exact bk_p (by assumption) (by first | assumption | omega) | exact bk_o (by assumption) (by first | assumption | omega) | exact bk_s (by assumption) (by first | assumption | omega) | exact bk_1 (by assumption) | exact bk_2 (by assumption) | exact bk_3 (by assumption) | exact bk_4 (by assumption) | exact bk_5 (by assumption) | exact bk_6 (by assumption) | exact bk_7 (by assumption) | exact bk_8 (by assumption) | exact sh_ring _ (by first | assumption | omega) | exact sh_imgs _ (by first | assumption | omega)) (by decide) rfl (by decide) (Nat.le_of_ble_eq_true rfl) (c_X12_beginsDay (i := 37) (can := true) (by decide) (fun _ => rfl) hR h (fun w => ?_) (fun w o ho J j1 j2 => ?_) (fun w h0 ct J j1 j2 => ?_))
      · refine v_if_eq (tgt := 277) dX12_readLine_267 (by decide) (fun hc267 => ?_) (fun hc267 => ?_)
        · (first | rw [bI_0, Bool.not_eq_false] at hc267 | rw [bI_0] at hc267 | rw [show (0 : Int32) = nI 0 from rfl, nI_eq (by omega) (by omega)] at hc267 | skip)
          exact l9 w0 w1 w2 w3 w4 w5 w6 w7 w
        · exact absurd rfl hc267
      · have w8 : isW tp sz (wd 8) s.1 = true := w
        rcases ho with ⟨a1, rfl⟩ | ⟨a1, a2, rfl⟩
        · refine v_if_eq (tgt := 277) dX12_readLine_267 (by decide) (fun hc267 => ?_) (fun hc267 => ?_)
          · exact absurd hc267 (by decide)
          · (first | rw [bI_0, Bool.not_eq_false] at hc267 | rw [bI_0] at hc267 | rw [show (0 : Int32) = nI 0 from rfl, nI_eq (by omega) (by omega)] at hc267 | skip)
            refine v_aload_0 dX12_readLine_270 ?_
            refine u_callV_0 dX12_readLine_271 ml_X12_230 mv_X12_breakLine (by first | assumption | rfl | exact led_1 (by assumption) | exact led_2 (by assumption) | exact bk_m (by assumption) (by first | assumption | omega) | exact bk_p (by assumption) (by first | assumption | omega) | exact bk_o (by assumption) (by first | assumption | omega) | exact bk_s (by assumption) (by first | assumption | omega) | exact bk_1 (by assumption) | exact bk_2 (by assumption) | exact bk_3 (by assumption) | exact bk_4 (by assumption) | exact bk_5 (by assumption) | exact bk_6 (by assumption) | exact bk_7 (by assumption) | exact bk_8 (by assumption) | exact sh_ring _ (by first | assumption | omega) | exact sh_imgs _ (by first | assumption | omega)) (by decide) rfl (by decide) (Nat.le_of_ble_eq_true rfl) (z_X12_breakLine j1.1 ?_)
            refine v_goto (tgt := 286) dX12_readLine_274 (by decide) ?_
            refine v_vret dX12_readLine_286 rfl rfl rfl rfl ?_
            exact hF 6 _ (by unfold line; rw [if_neg (by rw [w0]; decide), if_neg (by rw [w1]; decide), if_neg (by rw [w2]; decide), if_neg (by rw [w3]; decide), if_neg (by rw [w4]; decide), if_neg (by rw [w5]; decide), if_neg (by rw [w6]; decide), if_neg (by rw [w7]; decide), if_pos w8, qDay, if_pos a1]) J j1 j2.k
        · cases a2
      · have w8 : isW tp sz (wd 8) s.1 = true := w
        have el : line tp sz s = lBreak tp sz (nx tp sz s) := by unfold line; rw [if_neg (by rw [w0]; decide), if_neg (by rw [w1]; decide), if_neg (by rw [w2]; decide), if_neg (by rw [w3]; decide), if_neg (by rw [w4]; decide), if_neg (by rw [w5]; decide), if_neg (by rw [w6]; decide), if_neg (by rw [w7]; decide), if_pos w8, qDay, if_neg h0, if_pos (show s.2.1 7 < 8 by omega)]
        refine v_if_eq (tgt := 277) dX12_readLine_267 (by decide) (fun hc267 => ?_) (fun hc267 => ?_)
        · exact absurd hc267 (by decide)
        · (first | rw [bI_0, Bool.not_eq_false] at hc267 | rw [bI_0] at hc267 | rw [show (0 : Int32) = nI 0 from rfl, nI_eq (by omega) (by omega)] at hc267 | skip)
          refine v_aload_0 dX12_readLine_270 ?_
          refine u_callV_0 dX12_readLine_271 ml_X12_230 mv_X12_breakLine (by first | assumption | rfl | exact led_1 (by assumption) | exact led_2 (by assumption) | exact bk_m (by assumption) (by first | assumption | omega) | exact bk_p (by assumption) (by first | assumption | omega) | exact bk_o (by assumption) (by first | assumption | omega) | exact bk_s (by assumption) (by first | assumption | omega) | exact bk_1 (by assumption) | exact bk_2 (by assumption) | exact bk_3 (by assumption) | exact bk_4 (by assumption) | exact bk_5 (by assumption) | exact bk_6 (by assumption) | exact bk_7 (by assumption) | exact bk_8 (by assumption) | exact sh_ring _ (by first | assumption | omega) | exact sh_imgs _ (by first | assumption | omega)) (by decide) rfl (by decide) (Nat.le_of_ble_eq_true rfl) (c_X12_breakLine (s := nx tp sz s) hR j1 (hI.mv rfl j1.2.1) (fun f p q J3 k1 k2 => ?_) (fun u q J3 k1 k2 => ?_))
          · refine v_goto (tgt := 286) dX12_readLine_274 (by decide) ?_
            refine v_vret dX12_readLine_286 rfl rfl rfl rfl ?_
            exact hF f p (el.trans q) J3 k1 (j2.k.trans k2)
          · refine v_goto (tgt := 286) dX12_readLine_274 (by decide) ?_
            refine v_vret dX12_readLine_286 rfl rfl rfl rfl ?_
            exact hY u (el.trans q) J3 k1 (j2.k.trans k2)
  have l7 : isW tp sz (wd 0) s.1 = false → isW tp sz (wd 1) s.1 = false → isW tp sz (wd 2) s.1 = false → isW tp sz (wd 3) s.1 = false → isW tp sz (wd 4) s.1 = false → isW tp sz (wd 5) s.1 = false → isW tp sz (wd 6) s.1 = false → VV yX12_readLine cX12_readLine 1 none 10 Q b ad 211 [some (.ref (b + 157))] [] I L R := by
    intro w0 w1 w2 w3 w4 w5 w6
    refine v_aload_0 dX12_readLine_211 ?_
    refine v_ldcS (i := 36) dX12_readLine_212 (by decide) rfl rfl ?_
    refine v_aload_0 dX12_readLine_214 ?_
    refine u_getR dX12_readLine_215 gf_X12_23 (by first | assumption | rfl | exact led_1 (by assumption) | exact led_2 (by assumption) | exact bk_m (by assumption) (by first | assumption | omega) | exact bk_p (by assumption) (by first | assumption | omega) | exact bk_o (by assumption) (by first | assumption | omega) | exact bk_s (by assumption) (by first | assumption | omega) | exact bk_1 (by assumption) | exact bk_2 (by assumption) | exact bk_3 (by assumption) | exact bk_4 (by assumption) | exact bk_5 (by assumption) | exact bk_6 (by assumption) | exact bk_7 (by assumption) | exact bk_8 (by assumption) | exact sh_ring _ (by first | assumption | omega) | exact sh_imgs _ (by first | assumption | omega)) (ro_X12_16 (by assumption)) ?_
    refine v_bipush (v := nI 6) dX12_readLine_218 (by decide) ?_
    refine u_iald dX12_readLine_220 (by first | assumption | rfl | exact led_1 (by assumption) | exact led_2 (by assumption) | exact bk_m (by assumption) (by first | assumption | omega) | exact bk_p (by assumption) (by first | assumption | omega) | exact bk_o (by assumption) (by first | assumption | omega) | exact bk_s (by assumption) (by first | assumption | omega) | exact bk_1 (by assumption) | exact bk_2 (by assumption) | exact bk_3 (by assumption) | exact bk_4 (by assumption) | exact bk_5 (by assumption) | exact bk_6 (by assumption) | exact bk_7 (by assumption) | exact bk_8 (by assumption) | exact sh_ring _ (by first | assumption | omega) | exact sh_imgs _ (by first | assumption | omega)) (by first | with_reducible rfl | (simp only [nlit, nI_add, pk_mul]; with_reducible rfl) | rfl) (by first | assumption | omega) (by first | assumption | decide) ?_
    rw [(hg 6 (by decide)).1]
    refine v_bipush (v := nI 8) dX12_readLine_221 (by decide) ?_
    refine v_icmp_ge (tgt := 230) dX12_readLine_223 (by decide) (fun hc223 => ?_) (fun hc223 => ?_)
    · (try rw [nI_leI (by omega) (by omega)] at hc223)
      refine v_iconst (v := nI 0) dX12_readLine_230 (by decide) ?_
      refine u_callV_2 dX12_readLine_231 ml_X12_214 mv_X12_beginsDay (by first | assumption | rfl | exact led_1 (by assumption) | exact led_2 (by assumption) | exact bk_m (by assumption) (by first | assumption | omega) | exact bk_p (by assumption) (by first | assumption | omega) | exact bk_o (by assumption) (by first | assumption | omega) | exact bk_s (by assumption) (by first | assumption | omega) | exact bk_1 (by assumption) | exact bk_2 (by assumption) | exact bk_3 (by assumption) | exact bk_4 (by assumption) | exact bk_5 (by assumption) | exact bk_6 (by assumption) | exact bk_7 (by assumption) | exact bk_8 (by assumption) | exact sh_ring _ (by first | assumption | omega) | exact sh_imgs _ (by first | assumption | omega)) (by decide) rfl (by decide) (Nat.le_of_ble_eq_true rfl) (c_X12_beginsDay (i := 36) (can := false) (by decide) (fun z => absurd (hz z) (by omega)) hR h (fun w => ?_) (fun w o ho J j1 j2 => ?_) (fun w h0 ct J j1 j2 => ?_))
      · refine v_if_eq (tgt := 244) dX12_readLine_234 (by decide) (fun hc234 => ?_) (fun hc234 => ?_)
        · (first | rw [bI_0, Bool.not_eq_false] at hc234 | rw [bI_0] at hc234 | rw [show (0 : Int32) = nI 0 from rfl, nI_eq (by omega) (by omega)] at hc234 | skip)
          exact l8 w0 w1 w2 w3 w4 w5 w6 w
        · exact absurd rfl hc234
      · have w7 : isW tp sz (wd 7) s.1 = true := w
        rcases ho with ⟨a1, rfl⟩ | ⟨a1, a2, rfl⟩
        · refine v_if_eq (tgt := 244) dX12_readLine_234 (by decide) (fun hc234 => ?_) (fun hc234 => ?_)
          · exact absurd hc234 (by decide)
          · (first | rw [bI_0, Bool.not_eq_false] at hc234 | rw [bI_0] at hc234 | rw [show (0 : Int32) = nI 0 from rfl, nI_eq (by omega) (by omega)] at hc234 | skip)
            refine v_aload_0 dX12_readLine_237 ?_
            refine u_callV_0 dX12_readLine_238 ml_X12_227 mv_X12_letterLine (by first | assumption | rfl | exact led_1 (by assumption) | exact led_2 (by assumption) | exact bk_m (by assumption) (by first | assumption | omega) | exact bk_p (by assumption) (by first | assumption | omega) | exact bk_o (by assumption) (by first | assumption | omega) | exact bk_s (by assumption) (by first | assumption | omega) | exact bk_1 (by assumption) | exact bk_2 (by assumption) | exact bk_3 (by assumption) | exact bk_4 (by assumption) | exact bk_5 (by assumption) | exact bk_6 (by assumption) | exact bk_7 (by assumption) | exact bk_8 (by assumption) | exact sh_ring _ (by first | assumption | omega) | exact sh_imgs _ (by first | assumption | omega)) (by decide) rfl (by decide) (Nat.le_of_ble_eq_true rfl) (z_X12_letterLine j1.1 ?_)
            refine v_goto (tgt := 286) dX12_readLine_241 (by decide) ?_
            refine v_vret dX12_readLine_286 rfl rfl rfl rfl ?_
            exact hF 6 _ (by unfold line; rw [if_neg (by rw [w0]; decide), if_neg (by rw [w1]; decide), if_neg (by rw [w2]; decide), if_neg (by rw [w3]; decide), if_neg (by rw [w4]; decide), if_neg (by rw [w5]; decide), if_neg (by rw [w6]; decide), if_pos w7, qDay, if_pos a1]) J j1 j2.k
        · refine v_if_eq (tgt := 244) dX12_readLine_234 (by decide) (fun hc234 => ?_) (fun hc234 => ?_)
          · exact absurd hc234 (by decide)
          · (first | rw [bI_0, Bool.not_eq_false] at hc234 | rw [bI_0] at hc234 | rw [show (0 : Int32) = nI 0 from rfl, nI_eq (by omega) (by omega)] at hc234 | skip)
            refine v_aload_0 dX12_readLine_237 ?_
            refine u_callV_0 dX12_readLine_238 ml_X12_227 mv_X12_letterLine (by first | assumption | rfl | exact led_1 (by assumption) | exact led_2 (by assumption) | exact bk_m (by assumption) (by first | assumption | omega) | exact bk_p (by assumption) (by first | assumption | omega) | exact bk_o (by assumption) (by first | assumption | omega) | exact bk_s (by assumption) (by first | assumption | omega) | exact bk_1 (by assumption) | exact bk_2 (by assumption) | exact bk_3 (by assumption) | exact bk_4 (by assumption) | exact bk_5 (by assumption) | exact bk_6 (by assumption) | exact bk_7 (by assumption) | exact bk_8 (by assumption) | exact sh_ring _ (by first | assumption | omega) | exact sh_imgs _ (by first | assumption | omega)) (by decide) rfl (by decide) (Nat.le_of_ble_eq_true rfl) (z_X12_letterLine j1.1 ?_)
            refine v_goto (tgt := 286) dX12_readLine_241 (by decide) ?_
            refine v_vret dX12_readLine_286 rfl rfl rfl rfl ?_
            exact hF 5 _ (by unfold line; rw [if_neg (by rw [w0]; decide), if_neg (by rw [w1]; decide), if_neg (by rw [w2]; decide), if_neg (by rw [w3]; decide), if_neg (by rw [w4]; decide), if_neg (by rw [w5]; decide), if_neg (by rw [w6]; decide), if_pos w7, qDay, if_neg a1, if_neg (by omega)]) J j1 j2.k
      · cases ct
    · (try rw [nI_leI (by omega) (by omega)] at hc223)
      refine v_iconst (v := nI 1) dX12_readLine_226 (by decide) ?_
      refine v_goto (tgt := 231) dX12_readLine_227 (by decide) ?_
      refine u_callV_2 dX12_readLine_231 ml_X12_214 mv_X12_beginsDay (by first | assumption | rfl | exact led_1 (by assumption) | exact led_2 (by assumption) | exact bk_m (by assumption) (by first | assumption | omega) | exact bk_p (by assumption) (by first | assumption | omega) | exact bk_o (by assumption) (by first | assumption | omega) | exact bk_s (by assumption) (by first | assumption | omega) | exact bk_1 (by assumption) | exact bk_2 (by assumption) | exact bk_3 (by assumption) | exact bk_4 (by assumption) | exact bk_5 (by assumption) | exact bk_6 (by assumption) | exact bk_7 (by assumption) | exact bk_8 (by assumption) | exact sh_ring _ (by first | assumption | omega) | exact sh_imgs _ (by first | assumption | omega)) (by decide) rfl (by decide) (Nat.le_of_ble_eq_true rfl) (c_X12_beginsDay (i := 36) (can := true) (by decide) (fun _ => rfl) hR h (fun w => ?_) (fun w o ho J j1 j2 => ?_) (fun w h0 ct J j1 j2 => ?_))
      · refine v_if_eq (tgt := 244) dX12_readLine_234 (by decide) (fun hc234 => ?_) (fun hc234 => ?_)
        · (first | rw [bI_0, Bool.not_eq_false] at hc234 | rw [bI_0] at hc234 | rw [show (0 : Int32) = nI 0 from rfl, nI_eq (by omega) (by omega)] at hc234 | skip)
          exact l8 w0 w1 w2 w3 w4 w5 w6 w
        · exact absurd rfl hc234
      · have w7 : isW tp sz (wd 7) s.1 = true := w
        rcases ho with ⟨a1, rfl⟩ | ⟨a1, a2, rfl⟩
        · refine v_if_eq (tgt := 244) dX12_readLine_234 (by decide) (fun hc234 => ?_) (fun hc234 => ?_)
          · exact absurd hc234 (by decide)
          · (first | rw [bI_0, Bool.not_eq_false] at hc234 | rw [bI_0] at hc234 | rw [show (0 : Int32) = nI 0 from rfl, nI_eq (by omega) (by omega)] at hc234 | skip)
            refine v_aload_0 dX12_readLine_237 ?_
            refine u_callV_0 dX12_readLine_238 ml_X12_227 mv_X12_letterLine (by first | assumption | rfl | exact led_1 (by assumption) | exact led_2 (by assumption) | exact bk_m (by assumption) (by first | assumption | omega) | exact bk_p (by assumption) (by first | assumption | omega) | exact bk_o (by assumption) (by first | assumption | omega) | exact bk_s (by assumption) (by first | assumption | omega) | exact bk_1 (by assumption) | exact bk_2 (by assumption) | exact bk_3 (by assumption) | exact bk_4 (by assumption) | exact bk_5 (by assumption) | exact bk_6 (by assumption) | exact bk_7 (by assumption) | exact bk_8 (by assumption) | exact sh_ring _ (by first | assumption | omega) | exact sh_imgs _ (by first | assumption | omega)) (by decide) rfl (by decide) (Nat.le_of_ble_eq_true rfl) (z_X12_letterLine j1.1 ?_)
            refine v_goto (tgt := 286) dX12_readLine_241 (by decide) ?_
            refine v_vret dX12_readLine_286 rfl rfl rfl rfl ?_
            exact hF 6 _ (by unfold line; rw [if_neg (by rw [w0]; decide), if_neg (by rw [w1]; decide), if_neg (by rw [w2]; decide), if_neg (by rw [w3]; decide), if_neg (by rw [w4]; decide), if_neg (by rw [w5]; decide), if_neg (by rw [w6]; decide), if_pos w7, qDay, if_pos a1]) J j1 j2.k
        · cases a2
      · have w7 : isW tp sz (wd 7) s.1 = true := w
        have el : line tp sz s = lLetter tp sz (nx tp sz s) := by unfold line; rw [if_neg (by rw [w0]; decide), if_neg (by rw [w1]; decide), if_neg (by rw [w2]; decide), if_neg (by rw [w3]; decide), if_neg (by rw [w4]; decide), if_neg (by rw [w5]; decide), if_neg (by rw [w6]; decide), if_pos w7, qDay, if_neg h0, if_pos (show s.2.1 6 < 8 by omega)]
        refine v_if_eq (tgt := 244) dX12_readLine_234 (by decide) (fun hc234 => ?_) (fun hc234 => ?_)
        · exact absurd hc234 (by decide)
        · (first | rw [bI_0, Bool.not_eq_false] at hc234 | rw [bI_0] at hc234 | rw [show (0 : Int32) = nI 0 from rfl, nI_eq (by omega) (by omega)] at hc234 | skip)
          refine v_aload_0 dX12_readLine_237 ?_
          refine u_callV_0 dX12_readLine_238 ml_X12_227 mv_X12_letterLine (by first | assumption | rfl | exact led_1 (by assumption) | exact led_2 (by assumption) | exact bk_m (by assumption) (by first | assumption | omega) | exact bk_p (by assumption) (by first | assumption | omega) | exact bk_o (by assumption) (by first | assumption | omega) | exact bk_s (by assumption) (by first | assumption | omega) | exact bk_1 (by assumption) | exact bk_2 (by assumption) | exact bk_3 (by assumption) | exact bk_4 (by assumption) | exact bk_5 (by assumption) | exact bk_6 (by assumption) | exact bk_7 (by assumption) | exact bk_8 (by assumption) | exact sh_ring _ (by first | assumption | omega) | exact sh_imgs _ (by first | assumption | omega)) (by decide) rfl (by decide) (Nat.le_of_ble_eq_true rfl) (c_X12_letterLine (s := nx tp sz s) hR j1 (hI.mv rfl j1.2.1) (show s.2.1 6 < 8 by omega) (fun f p q J3 k1 k2 => ?_) (fun u q J3 k1 k2 => ?_))
          · refine v_goto (tgt := 286) dX12_readLine_241 (by decide) ?_
            refine v_vret dX12_readLine_286 rfl rfl rfl rfl ?_
            exact hF f p (el.trans q) J3 k1 (j2.k.trans k2)
          · refine v_goto (tgt := 286) dX12_readLine_241 (by decide) ?_
            refine v_vret dX12_readLine_286 rfl rfl rfl rfl ?_
            exact hY u (el.trans q) J3 k1 (j2.k.trans k2)
  have l6 : isW tp sz (wd 0) s.1 = false → isW tp sz (wd 1) s.1 = false → isW tp sz (wd 2) s.1 = false → isW tp sz (wd 3) s.1 = false → isW tp sz (wd 4) s.1 = false → isW tp sz (wd 5) s.1 = false → VV yX12_readLine cX12_readLine 1 none 10 Q b ad 179 [some (.ref (b + 157))] [] I L R := by
    intro w0 w1 w2 w3 w4 w5
    refine v_aload_0 dX12_readLine_179 ?_
    refine v_ldcS (i := 35) dX12_readLine_180 (by decide) rfl rfl ?_
    refine v_aload_0 dX12_readLine_182 ?_
    refine u_getR dX12_readLine_183 gf_X12_23 (by first | assumption | rfl | exact led_1 (by assumption) | exact led_2 (by assumption) | exact bk_m (by assumption) (by first | assumption | omega) | exact bk_p (by assumption) (by first | assumption | omega) | exact bk_o (by assumption) (by first | assumption | omega) | exact bk_s (by assumption) (by first | assumption | omega) | exact bk_1 (by assumption) | exact bk_2 (by assumption) | exact bk_3 (by assumption) | exact bk_4 (by assumption) | exact bk_5 (by assumption) | exact bk_6 (by assumption) | exact bk_7 (by assumption) | exact bk_8 (by assumption) | exact sh_ring _ (by first | assumption | omega) | exact sh_imgs _ (by first | assumption | omega)) (ro_X12_16 (by assumption)) ?_
    refine v_iconst (v := nI 5) dX12_readLine_186 (by decide) ?_
    refine u_iald dX12_readLine_187 (by first | assumption | rfl | exact led_1 (by assumption) | exact led_2 (by assumption) | exact bk_m (by assumption) (by first | assumption | omega) | exact bk_p (by assumption) (by first | assumption | omega) | exact bk_o (by assumption) (by first | assumption | omega) | exact bk_s (by assumption) (by first | assumption | omega) | exact bk_1 (by assumption) | exact bk_2 (by assumption) | exact bk_3 (by assumption) | exact bk_4 (by assumption) | exact bk_5 (by assumption) | exact bk_6 (by assumption) | exact bk_7 (by assumption) | exact bk_8 (by assumption) | exact sh_ring _ (by first | assumption | omega) | exact sh_imgs _ (by first | assumption | omega)) (by first | with_reducible rfl | (simp only [nlit, nI_add, pk_mul]; with_reducible rfl) | rfl) (by first | assumption | omega) (by first | assumption | decide) ?_
    rw [(hg 5 (by decide)).1]
    refine v_bipush (v := nI 8) dX12_readLine_188 (by decide) ?_
    refine v_icmp_ge (tgt := 197) dX12_readLine_190 (by decide) (fun hc190 => ?_) (fun hc190 => ?_)
    · (try rw [nI_leI (by omega) (by omega)] at hc190)
      refine v_iconst (v := nI 0) dX12_readLine_197 (by decide) ?_
      refine u_callV_2 dX12_readLine_198 ml_X12_214 mv_X12_beginsDay (by first | assumption | rfl | exact led_1 (by assumption) | exact led_2 (by assumption) | exact bk_m (by assumption) (by first | assumption | omega) | exact bk_p (by assumption) (by first | assumption | omega) | exact bk_o (by assumption) (by first | assumption | omega) | exact bk_s (by assumption) (by first | assumption | omega) | exact bk_1 (by assumption) | exact bk_2 (by assumption) | exact bk_3 (by assumption) | exact bk_4 (by assumption) | exact bk_5 (by assumption) | exact bk_6 (by assumption) | exact bk_7 (by assumption) | exact bk_8 (by assumption) | exact sh_ring _ (by first | assumption | omega) | exact sh_imgs _ (by first | assumption | omega)) (by decide) rfl (by decide) (Nat.le_of_ble_eq_true rfl) (c_X12_beginsDay (i := 35) (can := false) (by decide) (fun z => absurd (hz z) (by omega)) hR h (fun w => ?_) (fun w o ho J j1 j2 => ?_) (fun w h0 ct J j1 j2 => ?_))
      · refine v_if_eq (tgt := 211) dX12_readLine_201 (by decide) (fun hc201 => ?_) (fun hc201 => ?_)
        · (first | rw [bI_0, Bool.not_eq_false] at hc201 | rw [bI_0] at hc201 | rw [show (0 : Int32) = nI 0 from rfl, nI_eq (by omega) (by omega)] at hc201 | skip)
          exact l7 w0 w1 w2 w3 w4 w5 w
        · exact absurd rfl hc201
      · have w6 : isW tp sz (wd 6) s.1 = true := w
        rcases ho with ⟨a1, rfl⟩ | ⟨a1, a2, rfl⟩
        · refine v_if_eq (tgt := 211) dX12_readLine_201 (by decide) (fun hc201 => ?_) (fun hc201 => ?_)
          · exact absurd hc201 (by decide)
          · (first | rw [bI_0, Bool.not_eq_false] at hc201 | rw [bI_0] at hc201 | rw [show (0 : Int32) = nI 0 from rfl, nI_eq (by omega) (by omega)] at hc201 | skip)
            refine v_aload_0 dX12_readLine_204 ?_
            refine u_callV_0 dX12_readLine_205 ml_X12_224 mv_X12_seenLine (by first | assumption | rfl | exact led_1 (by assumption) | exact led_2 (by assumption) | exact bk_m (by assumption) (by first | assumption | omega) | exact bk_p (by assumption) (by first | assumption | omega) | exact bk_o (by assumption) (by first | assumption | omega) | exact bk_s (by assumption) (by first | assumption | omega) | exact bk_1 (by assumption) | exact bk_2 (by assumption) | exact bk_3 (by assumption) | exact bk_4 (by assumption) | exact bk_5 (by assumption) | exact bk_6 (by assumption) | exact bk_7 (by assumption) | exact bk_8 (by assumption) | exact sh_ring _ (by first | assumption | omega) | exact sh_imgs _ (by first | assumption | omega)) (by decide) rfl (by decide) (Nat.le_of_ble_eq_true rfl) (z_X12_seenLine j1.1 ?_)
            refine v_goto (tgt := 286) dX12_readLine_208 (by decide) ?_
            refine v_vret dX12_readLine_286 rfl rfl rfl rfl ?_
            exact hF 6 _ (by unfold line; rw [if_neg (by rw [w0]; decide), if_neg (by rw [w1]; decide), if_neg (by rw [w2]; decide), if_neg (by rw [w3]; decide), if_neg (by rw [w4]; decide), if_neg (by rw [w5]; decide), if_pos w6, qDay, if_pos a1]) J j1 j2.k
        · refine v_if_eq (tgt := 211) dX12_readLine_201 (by decide) (fun hc201 => ?_) (fun hc201 => ?_)
          · exact absurd hc201 (by decide)
          · (first | rw [bI_0, Bool.not_eq_false] at hc201 | rw [bI_0] at hc201 | rw [show (0 : Int32) = nI 0 from rfl, nI_eq (by omega) (by omega)] at hc201 | skip)
            refine v_aload_0 dX12_readLine_204 ?_
            refine u_callV_0 dX12_readLine_205 ml_X12_224 mv_X12_seenLine (by first | assumption | rfl | exact led_1 (by assumption) | exact led_2 (by assumption) | exact bk_m (by assumption) (by first | assumption | omega) | exact bk_p (by assumption) (by first | assumption | omega) | exact bk_o (by assumption) (by first | assumption | omega) | exact bk_s (by assumption) (by first | assumption | omega) | exact bk_1 (by assumption) | exact bk_2 (by assumption) | exact bk_3 (by assumption) | exact bk_4 (by assumption) | exact bk_5 (by assumption) | exact bk_6 (by assumption) | exact bk_7 (by assumption) | exact bk_8 (by assumption) | exact sh_ring _ (by first | assumption | omega) | exact sh_imgs _ (by first | assumption | omega)) (by decide) rfl (by decide) (Nat.le_of_ble_eq_true rfl) (z_X12_seenLine j1.1 ?_)
            refine v_goto (tgt := 286) dX12_readLine_208 (by decide) ?_
            refine v_vret dX12_readLine_286 rfl rfl rfl rfl ?_
            exact hF 5 _ (by unfold line; rw [if_neg (by rw [w0]; decide), if_neg (by rw [w1]; decide), if_neg (by rw [w2]; decide), if_neg (by rw [w3]; decide), if_neg (by rw [w4]; decide), if_neg (by rw [w5]; decide), if_pos w6, qDay, if_neg a1, if_neg (by omega)]) J j1 j2.k
      · cases ct
    · (try rw [nI_leI (by omega) (by omega)] at hc190)
      refine v_iconst (v := nI 1) dX12_readLine_193 (by decide) ?_
      refine v_goto (tgt := 198) dX12_readLine_194 (by decide) ?_
      refine u_callV_2 dX12_readLine_198 ml_X12_214 mv_X12_beginsDay (by first | assumption | rfl | exact led_1 (by assumption) | exact led_2 (by assumption) | exact bk_m (by assumption) (by first | assumption | omega) | exact bk_p (by assumption) (by first | assumption | omega) | exact bk_o (by assumption) (by first | assumption | omega) | exact bk_s (by assumption) (by first | assumption | omega) | exact bk_1 (by assumption) | exact bk_2 (by assumption) | exact bk_3 (by assumption) | exact bk_4 (by assumption) | exact bk_5 (by assumption) | exact bk_6 (by assumption) | exact bk_7 (by assumption) | exact bk_8 (by assumption) | exact sh_ring _ (by first | assumption | omega) | exact sh_imgs _ (by first | assumption | omega)) (by decide) rfl (by decide) (Nat.le_of_ble_eq_true rfl) (c_X12_beginsDay (i := 35) (can := true) (by decide) (fun _ => rfl) hR h (fun w => ?_) (fun w o ho J j1 j2 => ?_) (fun w h0 ct J j1 j2 => ?_))
      · refine v_if_eq (tgt := 211) dX12_readLine_201 (by decide) (fun hc201 => ?_) (fun hc201 => ?_)
        · (first | rw [bI_0, Bool.not_eq_false] at hc201 | rw [bI_0] at hc201 | rw [show (0 : Int32) = nI 0 from rfl, nI_eq (by omega) (by omega)] at hc201 | skip)
          exact l7 w0 w1 w2 w3 w4 w5 w
        · exact absurd rfl hc201
      · have w6 : isW tp sz (wd 6) s.1 = true := w
        rcases ho with ⟨a1, rfl⟩ | ⟨a1, a2, rfl⟩
        · refine v_if_eq (tgt := 211) dX12_readLine_201 (by decide) (fun hc201 => ?_) (fun hc201 => ?_)
          · exact absurd hc201 (by decide)
          · (first | rw [bI_0, Bool.not_eq_false] at hc201 | rw [bI_0] at hc201 | rw [show (0 : Int32) = nI 0 from rfl, nI_eq (by omega) (by omega)] at hc201 | skip)
            refine v_aload_0 dX12_readLine_204 ?_
            refine u_callV_0 dX12_readLine_205 ml_X12_224 mv_X12_seenLine (by first | assumption | rfl | exact led_1 (by assumption) | exact led_2 (by assumption) | exact bk_m (by assumption) (by first | assumption | omega) | exact bk_p (by assumption) (by first | assumption | omega) | exact bk_o (by assumption) (by first | assumption | omega) | exact bk_s (by assumption) (by first | assumption | omega) | exact bk_1 (by assumption) | exact bk_2 (by assumption) | exact bk_3 (by assumption) | exact bk_4 (by assumption) | exact bk_5 (by assumption) | exact bk_6 (by assumption) | exact bk_7 (by assumption) | exact bk_8 (by assumption) | exact sh_ring _ (by first | assumption | omega) | exact sh_imgs _ (by first | assumption | omega)) (by decide) rfl (by decide) (Nat.le_of_ble_eq_true rfl) (z_X12_seenLine j1.1 ?_)
            refine v_goto (tgt := 286) dX12_readLine_208 (by decide) ?_
            refine v_vret dX12_readLine_286 rfl rfl rfl rfl ?_
            exact hF 6 _ (by unfold line; rw [if_neg (by rw [w0]; decide), if_neg (by rw [w1]; decide), if_neg (by rw [w2]; decide), if_neg (by rw [w3]; decide), if_neg (by rw [w4]; decide), if_neg (by rw [w5]; decide), if_pos w6, qDay, if_pos a1]) J j1 j2.k
        · cases a2
      · have w6 : isW tp sz (wd 6) s.1 = true := w
        have el : line tp sz s = lSeen tp sz (nx tp sz s) := by unfold line; rw [if_neg (by rw [w0]; decide), if_neg (by rw [w1]; decide), if_neg (by rw [w2]; decide), if_neg (by rw [w3]; decide), if_neg (by rw [w4]; decide), if_neg (by rw [w5]; decide), if_pos w6, qDay, if_neg h0, if_pos (show s.2.1 5 < 8 by omega)]
        refine v_if_eq (tgt := 211) dX12_readLine_201 (by decide) (fun hc201 => ?_) (fun hc201 => ?_)
        · exact absurd hc201 (by decide)
        · (first | rw [bI_0, Bool.not_eq_false] at hc201 | rw [bI_0] at hc201 | rw [show (0 : Int32) = nI 0 from rfl, nI_eq (by omega) (by omega)] at hc201 | skip)
          refine v_aload_0 dX12_readLine_204 ?_
          refine u_callV_0 dX12_readLine_205 ml_X12_224 mv_X12_seenLine (by first | assumption | rfl | exact led_1 (by assumption) | exact led_2 (by assumption) | exact bk_m (by assumption) (by first | assumption | omega) | exact bk_p (by assumption) (by first | assumption | omega) | exact bk_o (by assumption) (by first | assumption | omega) | exact bk_s (by assumption) (by first | assumption | omega) | exact bk_1 (by assumption) | exact bk_2 (by assumption) | exact bk_3 (by assumption) | exact bk_4 (by assumption) | exact bk_5 (by assumption) | exact bk_6 (by assumption) | exact bk_7 (by assumption) | exact bk_8 (by assumption) | exact sh_ring _ (by first | assumption | omega) | exact sh_imgs _ (by first | assumption | omega)) (by decide) rfl (by decide) (Nat.le_of_ble_eq_true rfl) (c_X12_seenLine (s := nx tp sz s) hR j1 (hI.mv rfl j1.2.1) (show s.2.1 5 < 8 by omega) (fun f p q J3 k1 k2 => ?_) (fun u q J3 k1 k2 => ?_))
          · refine v_goto (tgt := 286) dX12_readLine_208 (by decide) ?_
            refine v_vret dX12_readLine_286 rfl rfl rfl rfl ?_
            exact hF f p (el.trans q) J3 k1 (j2.k.trans k2)
          · refine v_goto (tgt := 286) dX12_readLine_208 (by decide) ?_
            refine v_vret dX12_readLine_286 rfl rfl rfl rfl ?_
            exact hY u (el.trans q) J3 k1 (j2.k.trans k2)
  have l5 : isW tp sz (wd 0) s.1 = false → isW tp sz (wd 1) s.1 = false → isW tp sz (wd 2) s.1 = false → isW tp sz (wd 3) s.1 = false → isW tp sz (wd 4) s.1 = false → VV yX12_readLine cX12_readLine 1 none 10 Q b ad 147 [some (.ref (b + 157))] [] I L R := by
    intro w0 w1 w2 w3 w4
    refine v_aload_0 dX12_readLine_147 ?_
    refine v_ldcS (i := 34) dX12_readLine_148 (by decide) rfl rfl ?_
    refine v_aload_0 dX12_readLine_150 ?_
    refine u_getR dX12_readLine_151 gf_X12_29 (by first | assumption | rfl | exact led_1 (by assumption) | exact led_2 (by assumption) | exact bk_m (by assumption) (by first | assumption | omega) | exact bk_p (by assumption) (by first | assumption | omega) | exact bk_o (by assumption) (by first | assumption | omega) | exact bk_s (by assumption) (by first | assumption | omega) | exact bk_1 (by assumption) | exact bk_2 (by assumption) | exact bk_3 (by assumption) | exact bk_4 (by assumption) | exact bk_5 (by assumption) | exact bk_6 (by assumption) | exact bk_7 (by assumption) | exact bk_8 (by assumption) | exact sh_ring _ (by first | assumption | omega) | exact sh_imgs _ (by first | assumption | omega)) (ro_X12_18 (by assumption)) ?_
    refine v_iconst (v := nI 0) dX12_readLine_154 (by decide) ?_
    refine u_iald dX12_readLine_155 (by first | assumption | rfl | exact led_1 (by assumption) | exact led_2 (by assumption) | exact bk_m (by assumption) (by first | assumption | omega) | exact bk_p (by assumption) (by first | assumption | omega) | exact bk_o (by assumption) (by first | assumption | omega) | exact bk_s (by assumption) (by first | assumption | omega) | exact bk_1 (by assumption) | exact bk_2 (by assumption) | exact bk_3 (by assumption) | exact bk_4 (by assumption) | exact bk_5 (by assumption) | exact bk_6 (by assumption) | exact bk_7 (by assumption) | exact bk_8 (by assumption) | exact sh_ring _ (by first | assumption | omega) | exact sh_imgs _ (by first | assumption | omega)) (by first | with_reducible rfl | (simp only [nlit, nI_add, pk_mul]; with_reducible rfl) | rfl) (by first | assumption | omega) (by first | assumption | decide) ?_
    rw [hS.1]
    refine v_bipush (v := nI 12) dX12_readLine_156 (by decide) ?_
    refine v_icmp_ge (tgt := 165) dX12_readLine_158 (by decide) (fun hc158 => ?_) (fun hc158 => ?_)
    · (try rw [nI_leI (by omega) (by omega)] at hc158)
      refine v_iconst (v := nI 0) dX12_readLine_165 (by decide) ?_
      refine u_callV_2 dX12_readLine_166 ml_X12_214 mv_X12_beginsDay (by first | assumption | rfl | exact led_1 (by assumption) | exact led_2 (by assumption) | exact bk_m (by assumption) (by first | assumption | omega) | exact bk_p (by assumption) (by first | assumption | omega) | exact bk_o (by assumption) (by first | assumption | omega) | exact bk_s (by assumption) (by first | assumption | omega) | exact bk_1 (by assumption) | exact bk_2 (by assumption) | exact bk_3 (by assumption) | exact bk_4 (by assumption) | exact bk_5 (by assumption) | exact bk_6 (by assumption) | exact bk_7 (by assumption) | exact bk_8 (by assumption) | exact sh_ring _ (by first | assumption | omega) | exact sh_imgs _ (by first | assumption | omega)) (by decide) rfl (by decide) (Nat.le_of_ble_eq_true rfl) (c_X12_beginsDay (i := 34) (can := false) (by decide) (fun z => absurd (hz z) (by omega)) hR h (fun w => ?_) (fun w o ho J j1 j2 => ?_) (fun w h0 ct J j1 j2 => ?_))
      · refine v_if_eq (tgt := 179) dX12_readLine_169 (by decide) (fun hc169 => ?_) (fun hc169 => ?_)
        · (first | rw [bI_0, Bool.not_eq_false] at hc169 | rw [bI_0] at hc169 | rw [show (0 : Int32) = nI 0 from rfl, nI_eq (by omega) (by omega)] at hc169 | skip)
          exact l6 w0 w1 w2 w3 w4 w
        · exact absurd rfl hc169
      · have w5 : isW tp sz (wd 5) s.1 = true := w
        rcases ho with ⟨a1, rfl⟩ | ⟨a1, a2, rfl⟩
        · refine v_if_eq (tgt := 179) dX12_readLine_169 (by decide) (fun hc169 => ?_) (fun hc169 => ?_)
          · exact absurd hc169 (by decide)
          · (first | rw [bI_0, Bool.not_eq_false] at hc169 | rw [bI_0] at hc169 | rw [show (0 : Int32) = nI 0 from rfl, nI_eq (by omega) (by omega)] at hc169 | skip)
            refine v_aload_0 dX12_readLine_172 ?_
            refine u_callV_0 dX12_readLine_173 ml_X12_221 mv_X12_lentLine (by first | assumption | rfl | exact led_1 (by assumption) | exact led_2 (by assumption) | exact bk_m (by assumption) (by first | assumption | omega) | exact bk_p (by assumption) (by first | assumption | omega) | exact bk_o (by assumption) (by first | assumption | omega) | exact bk_s (by assumption) (by first | assumption | omega) | exact bk_1 (by assumption) | exact bk_2 (by assumption) | exact bk_3 (by assumption) | exact bk_4 (by assumption) | exact bk_5 (by assumption) | exact bk_6 (by assumption) | exact bk_7 (by assumption) | exact bk_8 (by assumption) | exact sh_ring _ (by first | assumption | omega) | exact sh_imgs _ (by first | assumption | omega)) (by decide) rfl (by decide) (Nat.le_of_ble_eq_true rfl) (z_X12_lentLine j1.1 ?_)
            refine v_goto (tgt := 286) dX12_readLine_176 (by decide) ?_
            refine v_vret dX12_readLine_286 rfl rfl rfl rfl ?_
            exact hF 6 _ (by unfold line; rw [if_neg (by rw [w0]; decide), if_neg (by rw [w1]; decide), if_neg (by rw [w2]; decide), if_neg (by rw [w3]; decide), if_neg (by rw [w4]; decide), if_pos w5, qDay, if_pos a1]) J j1 j2.k
        · refine v_if_eq (tgt := 179) dX12_readLine_169 (by decide) (fun hc169 => ?_) (fun hc169 => ?_)
          · exact absurd hc169 (by decide)
          · (first | rw [bI_0, Bool.not_eq_false] at hc169 | rw [bI_0] at hc169 | rw [show (0 : Int32) = nI 0 from rfl, nI_eq (by omega) (by omega)] at hc169 | skip)
            refine v_aload_0 dX12_readLine_172 ?_
            refine u_callV_0 dX12_readLine_173 ml_X12_221 mv_X12_lentLine (by first | assumption | rfl | exact led_1 (by assumption) | exact led_2 (by assumption) | exact bk_m (by assumption) (by first | assumption | omega) | exact bk_p (by assumption) (by first | assumption | omega) | exact bk_o (by assumption) (by first | assumption | omega) | exact bk_s (by assumption) (by first | assumption | omega) | exact bk_1 (by assumption) | exact bk_2 (by assumption) | exact bk_3 (by assumption) | exact bk_4 (by assumption) | exact bk_5 (by assumption) | exact bk_6 (by assumption) | exact bk_7 (by assumption) | exact bk_8 (by assumption) | exact sh_ring _ (by first | assumption | omega) | exact sh_imgs _ (by first | assumption | omega)) (by decide) rfl (by decide) (Nat.le_of_ble_eq_true rfl) (z_X12_lentLine j1.1 ?_)
            refine v_goto (tgt := 286) dX12_readLine_176 (by decide) ?_
            refine v_vret dX12_readLine_286 rfl rfl rfl rfl ?_
            exact hF 5 _ (by unfold line; rw [if_neg (by rw [w0]; decide), if_neg (by rw [w1]; decide), if_neg (by rw [w2]; decide), if_neg (by rw [w3]; decide), if_neg (by rw [w4]; decide), if_pos w5, qDay, if_neg a1, if_neg (by omega)]) J j1 j2.k
      · cases ct
    · (try rw [nI_leI (by omega) (by omega)] at hc158)
      refine v_iconst (v := nI 1) dX12_readLine_161 (by decide) ?_
      refine v_goto (tgt := 166) dX12_readLine_162 (by decide) ?_
      refine u_callV_2 dX12_readLine_166 ml_X12_214 mv_X12_beginsDay (by first | assumption | rfl | exact led_1 (by assumption) | exact led_2 (by assumption) | exact bk_m (by assumption) (by first | assumption | omega) | exact bk_p (by assumption) (by first | assumption | omega) | exact bk_o (by assumption) (by first | assumption | omega) | exact bk_s (by assumption) (by first | assumption | omega) | exact bk_1 (by assumption) | exact bk_2 (by assumption) | exact bk_3 (by assumption) | exact bk_4 (by assumption) | exact bk_5 (by assumption) | exact bk_6 (by assumption) | exact bk_7 (by assumption) | exact bk_8 (by assumption) | exact sh_ring _ (by first | assumption | omega) | exact sh_imgs _ (by first | assumption | omega)) (by decide) rfl (by decide) (Nat.le_of_ble_eq_true rfl) (c_X12_beginsDay (i := 34) (can := true) (by decide) (fun _ => rfl) hR h (fun w => ?_) (fun w o ho J j1 j2 => ?_) (fun w h0 ct J j1 j2 => ?_))
      · refine v_if_eq (tgt := 179) dX12_readLine_169 (by decide) (fun hc169 => ?_) (fun hc169 => ?_)
        · (first | rw [bI_0, Bool.not_eq_false] at hc169 | rw [bI_0] at hc169 | rw [show (0 : Int32) = nI 0 from rfl, nI_eq (by omega) (by omega)] at hc169 | skip)
          exact l6 w0 w1 w2 w3 w4 w
        · exact absurd rfl hc169
      · have w5 : isW tp sz (wd 5) s.1 = true := w
        rcases ho with ⟨a1, rfl⟩ | ⟨a1, a2, rfl⟩
        · refine v_if_eq (tgt := 179) dX12_readLine_169 (by decide) (fun hc169 => ?_) (fun hc169 => ?_)
          · exact absurd hc169 (by decide)
          · (first | rw [bI_0, Bool.not_eq_false] at hc169 | rw [bI_0] at hc169 | rw [show (0 : Int32) = nI 0 from rfl, nI_eq (by omega) (by omega)] at hc169 | skip)
            refine v_aload_0 dX12_readLine_172 ?_
            refine u_callV_0 dX12_readLine_173 ml_X12_221 mv_X12_lentLine (by first | assumption | rfl | exact led_1 (by assumption) | exact led_2 (by assumption) | exact bk_m (by assumption) (by first | assumption | omega) | exact bk_p (by assumption) (by first | assumption | omega) | exact bk_o (by assumption) (by first | assumption | omega) | exact bk_s (by assumption) (by first | assumption | omega) | exact bk_1 (by assumption) | exact bk_2 (by assumption) | exact bk_3 (by assumption) | exact bk_4 (by assumption) | exact bk_5 (by assumption) | exact bk_6 (by assumption) | exact bk_7 (by assumption) | exact bk_8 (by assumption) | exact sh_ring _ (by first | assumption | omega) | exact sh_imgs _ (by first | assumption | omega)) (by decide) rfl (by decide) (Nat.le_of_ble_eq_true rfl) (z_X12_lentLine j1.1 ?_)
            refine v_goto (tgt := 286) dX12_readLine_176 (by decide) ?_
            refine v_vret dX12_readLine_286 rfl rfl rfl rfl ?_
            exact hF 6 _ (by unfold line; rw [if_neg (by rw [w0]; decide), if_neg (by rw [w1]; decide), if_neg (by rw [w2]; decide), if_neg (by rw [w3]; decide), if_neg (by rw [w4]; decide), if_pos w5, qDay, if_pos a1]) J j1 j2.k
        · cases a2
      · have w5 : isW tp sz (wd 5) s.1 = true := w
        have el : line tp sz s = lLent tp sz (nx tp sz s) := by unfold line; rw [if_neg (by rw [w0]; decide), if_neg (by rw [w1]; decide), if_neg (by rw [w2]; decide), if_neg (by rw [w3]; decide), if_neg (by rw [w4]; decide), if_pos w5, qDay, if_neg h0, if_pos (show s.2.2.1 < 12 by omega)]
        refine v_if_eq (tgt := 179) dX12_readLine_169 (by decide) (fun hc169 => ?_) (fun hc169 => ?_)
        · exact absurd hc169 (by decide)
        · (first | rw [bI_0, Bool.not_eq_false] at hc169 | rw [bI_0] at hc169 | rw [show (0 : Int32) = nI 0 from rfl, nI_eq (by omega) (by omega)] at hc169 | skip)
          refine v_aload_0 dX12_readLine_172 ?_
          refine u_callV_0 dX12_readLine_173 ml_X12_221 mv_X12_lentLine (by first | assumption | rfl | exact led_1 (by assumption) | exact led_2 (by assumption) | exact bk_m (by assumption) (by first | assumption | omega) | exact bk_p (by assumption) (by first | assumption | omega) | exact bk_o (by assumption) (by first | assumption | omega) | exact bk_s (by assumption) (by first | assumption | omega) | exact bk_1 (by assumption) | exact bk_2 (by assumption) | exact bk_3 (by assumption) | exact bk_4 (by assumption) | exact bk_5 (by assumption) | exact bk_6 (by assumption) | exact bk_7 (by assumption) | exact bk_8 (by assumption) | exact sh_ring _ (by first | assumption | omega) | exact sh_imgs _ (by first | assumption | omega)) (by decide) rfl (by decide) (Nat.le_of_ble_eq_true rfl) (c_X12_lentLine (s := nx tp sz s) hR j1 (hI.mv rfl j1.2.1) (show s.2.2.1 < 12 by omega) (fun f p q J3 k1 k2 => ?_) (fun u q J3 k1 k2 => ?_))
          · refine v_goto (tgt := 286) dX12_readLine_176 (by decide) ?_
            refine v_vret dX12_readLine_286 rfl rfl rfl rfl ?_
            exact hF f p (el.trans q) J3 k1 (j2.k.trans k2)
          · refine v_goto (tgt := 286) dX12_readLine_176 (by decide) ?_
            refine v_vret dX12_readLine_286 rfl rfl rfl rfl ?_
            exact hY u (el.trans q) J3 k1 (j2.k.trans k2)
  have l4 : isW tp sz (wd 0) s.1 = false → isW tp sz (wd 1) s.1 = false → isW tp sz (wd 2) s.1 = false → isW tp sz (wd 3) s.1 = false → VV yX12_readLine cX12_readLine 1 none 10 Q b ad 115 [some (.ref (b + 157))] [] I L R := by
    intro w0 w1 w2 w3
    refine v_aload_0 dX12_readLine_115 ?_
    refine v_ldcS (i := 33) dX12_readLine_116 (by decide) rfl rfl ?_
    refine v_aload_0 dX12_readLine_118 ?_
    refine u_getR dX12_readLine_119 gf_X12_23 (by first | assumption | rfl | exact led_1 (by assumption) | exact led_2 (by assumption) | exact bk_m (by assumption) (by first | assumption | omega) | exact bk_p (by assumption) (by first | assumption | omega) | exact bk_o (by assumption) (by first | assumption | omega) | exact bk_s (by assumption) (by first | assumption | omega) | exact bk_1 (by assumption) | exact bk_2 (by assumption) | exact bk_3 (by assumption) | exact bk_4 (by assumption) | exact bk_5 (by assumption) | exact bk_6 (by assumption) | exact bk_7 (by assumption) | exact bk_8 (by assumption) | exact sh_ring _ (by first | assumption | omega) | exact sh_imgs _ (by first | assumption | omega)) (ro_X12_16 (by assumption)) ?_
    refine v_iconst (v := nI 4) dX12_readLine_122 (by decide) ?_
    refine u_iald dX12_readLine_123 (by first | assumption | rfl | exact led_1 (by assumption) | exact led_2 (by assumption) | exact bk_m (by assumption) (by first | assumption | omega) | exact bk_p (by assumption) (by first | assumption | omega) | exact bk_o (by assumption) (by first | assumption | omega) | exact bk_s (by assumption) (by first | assumption | omega) | exact bk_1 (by assumption) | exact bk_2 (by assumption) | exact bk_3 (by assumption) | exact bk_4 (by assumption) | exact bk_5 (by assumption) | exact bk_6 (by assumption) | exact bk_7 (by assumption) | exact bk_8 (by assumption) | exact sh_ring _ (by first | assumption | omega) | exact sh_imgs _ (by first | assumption | omega)) (by first | with_reducible rfl | (simp only [nlit, nI_add, pk_mul]; with_reducible rfl) | rfl) (by first | assumption | omega) (by first | assumption | decide) ?_
    rw [(hg 4 (by decide)).1]
    refine v_bipush (v := nI 12) dX12_readLine_124 (by decide) ?_
    refine v_icmp_ge (tgt := 133) dX12_readLine_126 (by decide) (fun hc126 => ?_) (fun hc126 => ?_)
    · (try rw [nI_leI (by omega) (by omega)] at hc126)
      refine v_iconst (v := nI 0) dX12_readLine_133 (by decide) ?_
      refine u_callV_2 dX12_readLine_134 ml_X12_214 mv_X12_beginsDay (by first | assumption | rfl | exact led_1 (by assumption) | exact led_2 (by assumption) | exact bk_m (by assumption) (by first | assumption | omega) | exact bk_p (by assumption) (by first | assumption | omega) | exact bk_o (by assumption) (by first | assumption | omega) | exact bk_s (by assumption) (by first | assumption | omega) | exact bk_1 (by assumption) | exact bk_2 (by assumption) | exact bk_3 (by assumption) | exact bk_4 (by assumption) | exact bk_5 (by assumption) | exact bk_6 (by assumption) | exact bk_7 (by assumption) | exact bk_8 (by assumption) | exact sh_ring _ (by first | assumption | omega) | exact sh_imgs _ (by first | assumption | omega)) (by decide) rfl (by decide) (Nat.le_of_ble_eq_true rfl) (c_X12_beginsDay (i := 33) (can := false) (by decide) (fun z => absurd (hz z) (by omega)) hR h (fun w => ?_) (fun w o ho J j1 j2 => ?_) (fun w h0 ct J j1 j2 => ?_))
      · refine v_if_eq (tgt := 147) dX12_readLine_137 (by decide) (fun hc137 => ?_) (fun hc137 => ?_)
        · (first | rw [bI_0, Bool.not_eq_false] at hc137 | rw [bI_0] at hc137 | rw [show (0 : Int32) = nI 0 from rfl, nI_eq (by omega) (by omega)] at hc137 | skip)
          exact l5 w0 w1 w2 w3 w
        · exact absurd rfl hc137
      · have w4 : isW tp sz (wd 4) s.1 = true := w
        rcases ho with ⟨a1, rfl⟩ | ⟨a1, a2, rfl⟩
        · refine v_if_eq (tgt := 147) dX12_readLine_137 (by decide) (fun hc137 => ?_) (fun hc137 => ?_)
          · exact absurd hc137 (by decide)
          · (first | rw [bI_0, Bool.not_eq_false] at hc137 | rw [bI_0] at hc137 | rw [show (0 : Int32) = nI 0 from rfl, nI_eq (by omega) (by omega)] at hc137 | skip)
            refine v_aload_0 dX12_readLine_140 ?_
            refine u_callV_0 dX12_readLine_141 ml_X12_218 mv_X12_promiseLine (by first | assumption | rfl | exact led_1 (by assumption) | exact led_2 (by assumption) | exact bk_m (by assumption) (by first | assumption | omega) | exact bk_p (by assumption) (by first | assumption | omega) | exact bk_o (by assumption) (by first | assumption | omega) | exact bk_s (by assumption) (by first | assumption | omega) | exact bk_1 (by assumption) | exact bk_2 (by assumption) | exact bk_3 (by assumption) | exact bk_4 (by assumption) | exact bk_5 (by assumption) | exact bk_6 (by assumption) | exact bk_7 (by assumption) | exact bk_8 (by assumption) | exact sh_ring _ (by first | assumption | omega) | exact sh_imgs _ (by first | assumption | omega)) (by decide) rfl (by decide) (Nat.le_of_ble_eq_true rfl) (z_X12_promiseLine j1.1 ?_)
            refine v_goto (tgt := 286) dX12_readLine_144 (by decide) ?_
            refine v_vret dX12_readLine_286 rfl rfl rfl rfl ?_
            exact hF 6 _ (by unfold line; rw [if_neg (by rw [w0]; decide), if_neg (by rw [w1]; decide), if_neg (by rw [w2]; decide), if_neg (by rw [w3]; decide), if_pos w4, qDay, if_pos a1]) J j1 j2.k
        · refine v_if_eq (tgt := 147) dX12_readLine_137 (by decide) (fun hc137 => ?_) (fun hc137 => ?_)
          · exact absurd hc137 (by decide)
          · (first | rw [bI_0, Bool.not_eq_false] at hc137 | rw [bI_0] at hc137 | rw [show (0 : Int32) = nI 0 from rfl, nI_eq (by omega) (by omega)] at hc137 | skip)
            refine v_aload_0 dX12_readLine_140 ?_
            refine u_callV_0 dX12_readLine_141 ml_X12_218 mv_X12_promiseLine (by first | assumption | rfl | exact led_1 (by assumption) | exact led_2 (by assumption) | exact bk_m (by assumption) (by first | assumption | omega) | exact bk_p (by assumption) (by first | assumption | omega) | exact bk_o (by assumption) (by first | assumption | omega) | exact bk_s (by assumption) (by first | assumption | omega) | exact bk_1 (by assumption) | exact bk_2 (by assumption) | exact bk_3 (by assumption) | exact bk_4 (by assumption) | exact bk_5 (by assumption) | exact bk_6 (by assumption) | exact bk_7 (by assumption) | exact bk_8 (by assumption) | exact sh_ring _ (by first | assumption | omega) | exact sh_imgs _ (by first | assumption | omega)) (by decide) rfl (by decide) (Nat.le_of_ble_eq_true rfl) (z_X12_promiseLine j1.1 ?_)
            refine v_goto (tgt := 286) dX12_readLine_144 (by decide) ?_
            refine v_vret dX12_readLine_286 rfl rfl rfl rfl ?_
            exact hF 5 _ (by unfold line; rw [if_neg (by rw [w0]; decide), if_neg (by rw [w1]; decide), if_neg (by rw [w2]; decide), if_neg (by rw [w3]; decide), if_pos w4, qDay, if_neg a1, if_neg (by omega)]) J j1 j2.k
      · cases ct
    · (try rw [nI_leI (by omega) (by omega)] at hc126)
      refine v_iconst (v := nI 1) dX12_readLine_129 (by decide) ?_
      refine v_goto (tgt := 134) dX12_readLine_130 (by decide) ?_
      refine u_callV_2 dX12_readLine_134 ml_X12_214 mv_X12_beginsDay (by first | assumption | rfl | exact led_1 (by assumption) | exact led_2 (by assumption) | exact bk_m (by assumption) (by first | assumption | omega) | exact bk_p (by assumption) (by first | assumption | omega) | exact bk_o (by assumption) (by first | assumption | omega) | exact bk_s (by assumption) (by first | assumption | omega) | exact bk_1 (by assumption) | exact bk_2 (by assumption) | exact bk_3 (by assumption) | exact bk_4 (by assumption) | exact bk_5 (by assumption) | exact bk_6 (by assumption) | exact bk_7 (by assumption) | exact bk_8 (by assumption) | exact sh_ring _ (by first | assumption | omega) | exact sh_imgs _ (by first | assumption | omega)) (by decide) rfl (by decide) (Nat.le_of_ble_eq_true rfl) (c_X12_beginsDay (i := 33) (can := true) (by decide) (fun _ => rfl) hR h (fun w => ?_) (fun w o ho J j1 j2 => ?_) (fun w h0 ct J j1 j2 => ?_))
      · refine v_if_eq (tgt := 147) dX12_readLine_137 (by decide) (fun hc137 => ?_) (fun hc137 => ?_)
        · (first | rw [bI_0, Bool.not_eq_false] at hc137 | rw [bI_0] at hc137 | rw [show (0 : Int32) = nI 0 from rfl, nI_eq (by omega) (by omega)] at hc137 | skip)
          exact l5 w0 w1 w2 w3 w
        · exact absurd rfl hc137
      · have w4 : isW tp sz (wd 4) s.1 = true := w
        rcases ho with ⟨a1, rfl⟩ | ⟨a1, a2, rfl⟩
        · refine v_if_eq (tgt := 147) dX12_readLine_137 (by decide) (fun hc137 => ?_) (fun hc137 => ?_)
          · exact absurd hc137 (by decide)
          · (first | rw [bI_0, Bool.not_eq_false] at hc137 | rw [bI_0] at hc137 | rw [show (0 : Int32) = nI 0 from rfl, nI_eq (by omega) (by omega)] at hc137 | skip)
            refine v_aload_0 dX12_readLine_140 ?_
            refine u_callV_0 dX12_readLine_141 ml_X12_218 mv_X12_promiseLine (by first | assumption | rfl | exact led_1 (by assumption) | exact led_2 (by assumption) | exact bk_m (by assumption) (by first | assumption | omega) | exact bk_p (by assumption) (by first | assumption | omega) | exact bk_o (by assumption) (by first | assumption | omega) | exact bk_s (by assumption) (by first | assumption | omega) | exact bk_1 (by assumption) | exact bk_2 (by assumption) | exact bk_3 (by assumption) | exact bk_4 (by assumption) | exact bk_5 (by assumption) | exact bk_6 (by assumption) | exact bk_7 (by assumption) | exact bk_8 (by assumption) | exact sh_ring _ (by first | assumption | omega) | exact sh_imgs _ (by first | assumption | omega)) (by decide) rfl (by decide) (Nat.le_of_ble_eq_true rfl) (z_X12_promiseLine j1.1 ?_)
            refine v_goto (tgt := 286) dX12_readLine_144 (by decide) ?_
            refine v_vret dX12_readLine_286 rfl rfl rfl rfl ?_
            exact hF 6 _ (by unfold line; rw [if_neg (by rw [w0]; decide), if_neg (by rw [w1]; decide), if_neg (by rw [w2]; decide), if_neg (by rw [w3]; decide), if_pos w4, qDay, if_pos a1]) J j1 j2.k
        · cases a2
      · have w4 : isW tp sz (wd 4) s.1 = true := w
        have el : line tp sz s = lPromise tp sz (nx tp sz s) := by unfold line; rw [if_neg (by rw [w0]; decide), if_neg (by rw [w1]; decide), if_neg (by rw [w2]; decide), if_neg (by rw [w3]; decide), if_pos w4, qDay, if_neg h0, if_pos (show s.2.1 4 < 12 by omega)]
        refine v_if_eq (tgt := 147) dX12_readLine_137 (by decide) (fun hc137 => ?_) (fun hc137 => ?_)
        · exact absurd hc137 (by decide)
        · (first | rw [bI_0, Bool.not_eq_false] at hc137 | rw [bI_0] at hc137 | rw [show (0 : Int32) = nI 0 from rfl, nI_eq (by omega) (by omega)] at hc137 | skip)
          refine v_aload_0 dX12_readLine_140 ?_
          refine u_callV_0 dX12_readLine_141 ml_X12_218 mv_X12_promiseLine (by first | assumption | rfl | exact led_1 (by assumption) | exact led_2 (by assumption) | exact bk_m (by assumption) (by first | assumption | omega) | exact bk_p (by assumption) (by first | assumption | omega) | exact bk_o (by assumption) (by first | assumption | omega) | exact bk_s (by assumption) (by first | assumption | omega) | exact bk_1 (by assumption) | exact bk_2 (by assumption) | exact bk_3 (by assumption) | exact bk_4 (by assumption) | exact bk_5 (by assumption) | exact bk_6 (by assumption) | exact bk_7 (by assumption) | exact bk_8 (by assumption) | exact sh_ring _ (by first | assumption | omega) | exact sh_imgs _ (by first | assumption | omega)) (by decide) rfl (by decide) (Nat.le_of_ble_eq_true rfl) (c_X12_promiseLine (s := nx tp sz s) hR j1 (hI.mv rfl j1.2.1) (show s.2.1 4 < 12 by omega) (fun f p q J3 k1 k2 => ?_) (fun u q J3 k1 k2 => ?_))
          · refine v_goto (tgt := 286) dX12_readLine_144 (by decide) ?_
            refine v_vret dX12_readLine_286 rfl rfl rfl rfl ?_
            exact hF f p (el.trans q) J3 k1 (j2.k.trans k2)
          · refine v_goto (tgt := 286) dX12_readLine_144 (by decide) ?_
            refine v_vret dX12_readLine_286 rfl rfl rfl rfl ?_
            exact hY u (el.trans q) J3 k1 (j2.k.trans k2)
  have l3 : isW tp sz (wd 0) s.1 = false → isW tp sz (wd 1) s.1 = false → isW tp sz (wd 2) s.1 = false → VV yX12_readLine cX12_readLine 1 none 10 Q b ad 82 [some (.ref (b + 157))] [] I L R := by
    intro w0 w1 w2
    refine v_aload_0 dX12_readLine_82 ?_
    refine v_ldcS (i := 32) dX12_readLine_83 (by decide) rfl rfl ?_
    refine v_aload_0 dX12_readLine_85 ?_
    refine u_getR dX12_readLine_86 gf_X12_23 (by first | assumption | rfl | exact led_1 (by assumption) | exact led_2 (by assumption) | exact bk_m (by assumption) (by first | assumption | omega) | exact bk_p (by assumption) (by first | assumption | omega) | exact bk_o (by assumption) (by first | assumption | omega) | exact bk_s (by assumption) (by first | assumption | omega) | exact bk_1 (by assumption) | exact bk_2 (by assumption) | exact bk_3 (by assumption) | exact bk_4 (by assumption) | exact bk_5 (by assumption) | exact bk_6 (by assumption) | exact bk_7 (by assumption) | exact bk_8 (by assumption) | exact sh_ring _ (by first | assumption | omega) | exact sh_imgs _ (by first | assumption | omega)) (ro_X12_16 (by assumption)) ?_
    refine v_iconst (v := nI 3) dX12_readLine_89 (by decide) ?_
    refine u_iald dX12_readLine_90 (by first | assumption | rfl | exact led_1 (by assumption) | exact led_2 (by assumption) | exact bk_m (by assumption) (by first | assumption | omega) | exact bk_p (by assumption) (by first | assumption | omega) | exact bk_o (by assumption) (by first | assumption | omega) | exact bk_s (by assumption) (by first | assumption | omega) | exact bk_1 (by assumption) | exact bk_2 (by assumption) | exact bk_3 (by assumption) | exact bk_4 (by assumption) | exact bk_5 (by assumption) | exact bk_6 (by assumption) | exact bk_7 (by assumption) | exact bk_8 (by assumption) | exact sh_ring _ (by first | assumption | omega) | exact sh_imgs _ (by first | assumption | omega)) (by first | with_reducible rfl | (simp only [nlit, nI_add, pk_mul]; with_reducible rfl) | rfl) (by first | assumption | omega) (by first | assumption | decide) ?_
    rw [(hg 3 (by decide)).1]
    refine v_bipush (v := nI 6) dX12_readLine_91 (by decide) ?_
    refine v_icmp_ge (tgt := 100) dX12_readLine_93 (by decide) (fun hc93 => ?_) (fun hc93 => ?_)
    · (try rw [nI_leI (by omega) (by omega)] at hc93)
      refine v_iconst (v := nI 0) dX12_readLine_100 (by decide) ?_
      refine v_iconst (v := nI 5) dX12_readLine_101 (by decide) ?_
      refine u_callV_3 dX12_readLine_102 ml_X12_198 mv_X12_begins (by first | assumption | rfl | exact led_1 (by assumption) | exact led_2 (by assumption) | exact bk_m (by assumption) (by first | assumption | omega) | exact bk_p (by assumption) (by first | assumption | omega) | exact bk_o (by assumption) (by first | assumption | omega) | exact bk_s (by assumption) (by first | assumption | omega) | exact bk_1 (by assumption) | exact bk_2 (by assumption) | exact bk_3 (by assumption) | exact bk_4 (by assumption) | exact bk_5 (by assumption) | exact bk_6 (by assumption) | exact bk_7 (by assumption) | exact bk_8 (by assumption) | exact sh_ring _ (by first | assumption | omega) | exact sh_imgs _ (by first | assumption | omega)) (by decide) rfl (by decide) (Nat.le_of_ble_eq_true rfl) (c_X12_begins (i := 32) (o := 5) (can := false) (by decide) hR h (fun w => ?_) (fun w cf J j1 j2 => ?_) (fun w ct J j1 j2 => ?_))
      · refine v_if_eq (tgt := 115) dX12_readLine_105 (by decide) (fun hc105 => ?_) (fun hc105 => ?_)
        · (first | rw [bI_0, Bool.not_eq_false] at hc105 | rw [bI_0] at hc105 | rw [show (0 : Int32) = nI 0 from rfl, nI_eq (by omega) (by omega)] at hc105 | skip)
          exact l4 w0 w1 w2 w
        · exact absurd rfl hc105
      · have w3 : isW tp sz (wd 3) s.1 = true := w
        refine v_if_eq (tgt := 115) dX12_readLine_105 (by decide) (fun hc105 => ?_) (fun hc105 => ?_)
        · exact absurd hc105 (by decide)
        · (first | rw [bI_0, Bool.not_eq_false] at hc105 | rw [bI_0] at hc105 | rw [show (0 : Int32) = nI 0 from rfl, nI_eq (by omega) (by omega)] at hc105 | skip)
          refine v_aload_0 dX12_readLine_108 ?_
          refine u_callV_0 dX12_readLine_109 ml_X12_211 mv_X12_personLine (by first | assumption | rfl | exact led_1 (by assumption) | exact led_2 (by assumption) | exact bk_m (by assumption) (by first | assumption | omega) | exact bk_p (by assumption) (by first | assumption | omega) | exact bk_o (by assumption) (by first | assumption | omega) | exact bk_s (by assumption) (by first | assumption | omega) | exact bk_1 (by assumption) | exact bk_2 (by assumption) | exact bk_3 (by assumption) | exact bk_4 (by assumption) | exact bk_5 (by assumption) | exact bk_6 (by assumption) | exact bk_7 (by assumption) | exact bk_8 (by assumption) | exact sh_ring _ (by first | assumption | omega) | exact sh_imgs _ (by first | assumption | omega)) (by decide) rfl (by decide) (Nat.le_of_ble_eq_true rfl) (z_X12_personLine j1.1 ?_)
          refine v_goto (tgt := 286) dX12_readLine_112 (by decide) ?_
          refine v_vret dX12_readLine_286 rfl rfl rfl rfl ?_
          exact hF 5 _ (by unfold line; rw [if_neg (by rw [w0]; decide), if_neg (by rw [w1]; decide), if_neg (by rw [w2]; decide), if_pos w3, if_neg (by omega)]) J j1 j2.k
      · cases ct
    · (try rw [nI_leI (by omega) (by omega)] at hc93)
      refine v_iconst (v := nI 1) dX12_readLine_96 (by decide) ?_
      refine v_goto (tgt := 101) dX12_readLine_97 (by decide) ?_
      refine v_iconst (v := nI 5) dX12_readLine_101 (by decide) ?_
      refine u_callV_3 dX12_readLine_102 ml_X12_198 mv_X12_begins (by first | assumption | rfl | exact led_1 (by assumption) | exact led_2 (by assumption) | exact bk_m (by assumption) (by first | assumption | omega) | exact bk_p (by assumption) (by first | assumption | omega) | exact bk_o (by assumption) (by first | assumption | omega) | exact bk_s (by assumption) (by first | assumption | omega) | exact bk_1 (by assumption) | exact bk_2 (by assumption) | exact bk_3 (by assumption) | exact bk_4 (by assumption) | exact bk_5 (by assumption) | exact bk_6 (by assumption) | exact bk_7 (by assumption) | exact bk_8 (by assumption) | exact sh_ring _ (by first | assumption | omega) | exact sh_imgs _ (by first | assumption | omega)) (by decide) rfl (by decide) (Nat.le_of_ble_eq_true rfl) (c_X12_begins (i := 32) (o := 5) (can := true) (by decide) hR h (fun w => ?_) (fun w cf J j1 j2 => ?_) (fun w ct J j1 j2 => ?_))
      · refine v_if_eq (tgt := 115) dX12_readLine_105 (by decide) (fun hc105 => ?_) (fun hc105 => ?_)
        · (first | rw [bI_0, Bool.not_eq_false] at hc105 | rw [bI_0] at hc105 | rw [show (0 : Int32) = nI 0 from rfl, nI_eq (by omega) (by omega)] at hc105 | skip)
          exact l4 w0 w1 w2 w
        · exact absurd rfl hc105
      · cases cf
      · have w3 : isW tp sz (wd 3) s.1 = true := w
        have el : line tp sz s = lPerson tp sz (nx tp sz s) := by unfold line; rw [if_neg (by rw [w0]; decide), if_neg (by rw [w1]; decide), if_neg (by rw [w2]; decide), if_pos w3, if_pos (show s.2.1 3 < 6 by omega)]
        refine v_if_eq (tgt := 115) dX12_readLine_105 (by decide) (fun hc105 => ?_) (fun hc105 => ?_)
        · exact absurd hc105 (by decide)
        · (first | rw [bI_0, Bool.not_eq_false] at hc105 | rw [bI_0] at hc105 | rw [show (0 : Int32) = nI 0 from rfl, nI_eq (by omega) (by omega)] at hc105 | skip)
          refine v_aload_0 dX12_readLine_108 ?_
          refine u_callV_0 dX12_readLine_109 ml_X12_211 mv_X12_personLine (by first | assumption | rfl | exact led_1 (by assumption) | exact led_2 (by assumption) | exact bk_m (by assumption) (by first | assumption | omega) | exact bk_p (by assumption) (by first | assumption | omega) | exact bk_o (by assumption) (by first | assumption | omega) | exact bk_s (by assumption) (by first | assumption | omega) | exact bk_1 (by assumption) | exact bk_2 (by assumption) | exact bk_3 (by assumption) | exact bk_4 (by assumption) | exact bk_5 (by assumption) | exact bk_6 (by assumption) | exact bk_7 (by assumption) | exact bk_8 (by assumption) | exact sh_ring _ (by first | assumption | omega) | exact sh_imgs _ (by first | assumption | omega)) (by decide) rfl (by decide) (Nat.le_of_ble_eq_true rfl) (c_X12_personLine (s := nx tp sz s) hR j1 (hI.mv rfl j1.2.1) (show s.2.1 3 < 6 by omega) (fun f p q J3 k1 k2 => ?_) (fun u q J3 k1 k2 => ?_))
          · refine v_goto (tgt := 286) dX12_readLine_112 (by decide) ?_
            refine v_vret dX12_readLine_286 rfl rfl rfl rfl ?_
            exact hF f p (el.trans q) J3 k1 (j2.k.trans k2)
          · refine v_goto (tgt := 286) dX12_readLine_112 (by decide) ?_
            refine v_vret dX12_readLine_286 rfl rfl rfl rfl ?_
            exact hY u (el.trans q) J3 k1 (j2.k.trans k2)
  have l2 : isW tp sz (wd 0) s.1 = false → isW tp sz (wd 1) s.1 = false → VV yX12_readLine cX12_readLine 1 none 10 Q b ad 49 [some (.ref (b + 157))] [] I L R := by
    intro w0 w1
    refine v_aload_0 dX12_readLine_49 ?_
    refine v_ldcS (i := 31) dX12_readLine_50 (by decide) rfl rfl ?_
    refine v_aload_0 dX12_readLine_52 ?_
    refine u_getR dX12_readLine_53 gf_X12_23 (by first | assumption | rfl | exact led_1 (by assumption) | exact led_2 (by assumption) | exact bk_m (by assumption) (by first | assumption | omega) | exact bk_p (by assumption) (by first | assumption | omega) | exact bk_o (by assumption) (by first | assumption | omega) | exact bk_s (by assumption) (by first | assumption | omega) | exact bk_1 (by assumption) | exact bk_2 (by assumption) | exact bk_3 (by assumption) | exact bk_4 (by assumption) | exact bk_5 (by assumption) | exact bk_6 (by assumption) | exact bk_7 (by assumption) | exact bk_8 (by assumption) | exact sh_ring _ (by first | assumption | omega) | exact sh_imgs _ (by first | assumption | omega)) (ro_X12_16 (by assumption)) ?_
    refine v_iconst (v := nI 2) dX12_readLine_56 (by decide) ?_
    refine u_iald dX12_readLine_57 (by first | assumption | rfl | exact led_1 (by assumption) | exact led_2 (by assumption) | exact bk_m (by assumption) (by first | assumption | omega) | exact bk_p (by assumption) (by first | assumption | omega) | exact bk_o (by assumption) (by first | assumption | omega) | exact bk_s (by assumption) (by first | assumption | omega) | exact bk_1 (by assumption) | exact bk_2 (by assumption) | exact bk_3 (by assumption) | exact bk_4 (by assumption) | exact bk_5 (by assumption) | exact bk_6 (by assumption) | exact bk_7 (by assumption) | exact bk_8 (by assumption) | exact sh_ring _ (by first | assumption | omega) | exact sh_imgs _ (by first | assumption | omega)) (by first | with_reducible rfl | (simp only [nlit, nI_add, pk_mul]; with_reducible rfl) | rfl) (by first | assumption | omega) (by first | assumption | decide) ?_
    rw [(hg 2 (by decide)).1]
    refine v_bipush (v := nI 6) dX12_readLine_58 (by decide) ?_
    refine v_icmp_ge (tgt := 67) dX12_readLine_60 (by decide) (fun hc60 => ?_) (fun hc60 => ?_)
    · (try rw [nI_leI (by omega) (by omega)] at hc60)
      refine v_iconst (v := nI 0) dX12_readLine_67 (by decide) ?_
      refine v_iconst (v := nI 5) dX12_readLine_68 (by decide) ?_
      refine u_callV_3 dX12_readLine_69 ml_X12_198 mv_X12_begins (by first | assumption | rfl | exact led_1 (by assumption) | exact led_2 (by assumption) | exact bk_m (by assumption) (by first | assumption | omega) | exact bk_p (by assumption) (by first | assumption | omega) | exact bk_o (by assumption) (by first | assumption | omega) | exact bk_s (by assumption) (by first | assumption | omega) | exact bk_1 (by assumption) | exact bk_2 (by assumption) | exact bk_3 (by assumption) | exact bk_4 (by assumption) | exact bk_5 (by assumption) | exact bk_6 (by assumption) | exact bk_7 (by assumption) | exact bk_8 (by assumption) | exact sh_ring _ (by first | assumption | omega) | exact sh_imgs _ (by first | assumption | omega)) (by decide) rfl (by decide) (Nat.le_of_ble_eq_true rfl) (c_X12_begins (i := 31) (o := 5) (can := false) (by decide) hR h (fun w => ?_) (fun w cf J j1 j2 => ?_) (fun w ct J j1 j2 => ?_))
      · refine v_if_eq (tgt := 82) dX12_readLine_72 (by decide) (fun hc72 => ?_) (fun hc72 => ?_)
        · (first | rw [bI_0, Bool.not_eq_false] at hc72 | rw [bI_0] at hc72 | rw [show (0 : Int32) = nI 0 from rfl, nI_eq (by omega) (by omega)] at hc72 | skip)
          exact l3 w0 w1 w
        · exact absurd rfl hc72
      · have w2 : isW tp sz (wd 2) s.1 = true := w
        refine v_if_eq (tgt := 82) dX12_readLine_72 (by decide) (fun hc72 => ?_) (fun hc72 => ?_)
        · exact absurd hc72 (by decide)
        · (first | rw [bI_0, Bool.not_eq_false] at hc72 | rw [bI_0] at hc72 | rw [show (0 : Int32) = nI 0 from rfl, nI_eq (by omega) (by omega)] at hc72 | skip)
          refine v_aload_0 dX12_readLine_75 ?_
          refine u_callV_0 dX12_readLine_76 ml_X12_208 mv_X12_maskLine (by first | assumption | rfl | exact led_1 (by assumption) | exact led_2 (by assumption) | exact bk_m (by assumption) (by first | assumption | omega) | exact bk_p (by assumption) (by first | assumption | omega) | exact bk_o (by assumption) (by first | assumption | omega) | exact bk_s (by assumption) (by first | assumption | omega) | exact bk_1 (by assumption) | exact bk_2 (by assumption) | exact bk_3 (by assumption) | exact bk_4 (by assumption) | exact bk_5 (by assumption) | exact bk_6 (by assumption) | exact bk_7 (by assumption) | exact bk_8 (by assumption) | exact sh_ring _ (by first | assumption | omega) | exact sh_imgs _ (by first | assumption | omega)) (by decide) rfl (by decide) (Nat.le_of_ble_eq_true rfl) (z_X12_maskLine j1.1 ?_)
          refine v_goto (tgt := 286) dX12_readLine_79 (by decide) ?_
          refine v_vret dX12_readLine_286 rfl rfl rfl rfl ?_
          exact hF 5 _ (by unfold line; rw [if_neg (by rw [w0]; decide), if_neg (by rw [w1]; decide), if_pos w2, if_neg (by omega)]) J j1 j2.k
      · cases ct
    · (try rw [nI_leI (by omega) (by omega)] at hc60)
      refine v_iconst (v := nI 1) dX12_readLine_63 (by decide) ?_
      refine v_goto (tgt := 68) dX12_readLine_64 (by decide) ?_
      refine v_iconst (v := nI 5) dX12_readLine_68 (by decide) ?_
      refine u_callV_3 dX12_readLine_69 ml_X12_198 mv_X12_begins (by first | assumption | rfl | exact led_1 (by assumption) | exact led_2 (by assumption) | exact bk_m (by assumption) (by first | assumption | omega) | exact bk_p (by assumption) (by first | assumption | omega) | exact bk_o (by assumption) (by first | assumption | omega) | exact bk_s (by assumption) (by first | assumption | omega) | exact bk_1 (by assumption) | exact bk_2 (by assumption) | exact bk_3 (by assumption) | exact bk_4 (by assumption) | exact bk_5 (by assumption) | exact bk_6 (by assumption) | exact bk_7 (by assumption) | exact bk_8 (by assumption) | exact sh_ring _ (by first | assumption | omega) | exact sh_imgs _ (by first | assumption | omega)) (by decide) rfl (by decide) (Nat.le_of_ble_eq_true rfl) (c_X12_begins (i := 31) (o := 5) (can := true) (by decide) hR h (fun w => ?_) (fun w cf J j1 j2 => ?_) (fun w ct J j1 j2 => ?_))
      · refine v_if_eq (tgt := 82) dX12_readLine_72 (by decide) (fun hc72 => ?_) (fun hc72 => ?_)
        · (first | rw [bI_0, Bool.not_eq_false] at hc72 | rw [bI_0] at hc72 | rw [show (0 : Int32) = nI 0 from rfl, nI_eq (by omega) (by omega)] at hc72 | skip)
          exact l3 w0 w1 w
        · exact absurd rfl hc72
      · cases cf
      · have w2 : isW tp sz (wd 2) s.1 = true := w
        have el : line tp sz s = lMask tp sz (nx tp sz s) := by unfold line; rw [if_neg (by rw [w0]; decide), if_neg (by rw [w1]; decide), if_pos w2, if_pos (show s.2.1 2 < 6 by omega)]
        refine v_if_eq (tgt := 82) dX12_readLine_72 (by decide) (fun hc72 => ?_) (fun hc72 => ?_)
        · exact absurd hc72 (by decide)
        · (first | rw [bI_0, Bool.not_eq_false] at hc72 | rw [bI_0] at hc72 | rw [show (0 : Int32) = nI 0 from rfl, nI_eq (by omega) (by omega)] at hc72 | skip)
          refine v_aload_0 dX12_readLine_75 ?_
          refine u_callV_0 dX12_readLine_76 ml_X12_208 mv_X12_maskLine (by first | assumption | rfl | exact led_1 (by assumption) | exact led_2 (by assumption) | exact bk_m (by assumption) (by first | assumption | omega) | exact bk_p (by assumption) (by first | assumption | omega) | exact bk_o (by assumption) (by first | assumption | omega) | exact bk_s (by assumption) (by first | assumption | omega) | exact bk_1 (by assumption) | exact bk_2 (by assumption) | exact bk_3 (by assumption) | exact bk_4 (by assumption) | exact bk_5 (by assumption) | exact bk_6 (by assumption) | exact bk_7 (by assumption) | exact bk_8 (by assumption) | exact sh_ring _ (by first | assumption | omega) | exact sh_imgs _ (by first | assumption | omega)) (by decide) rfl (by decide) (Nat.le_of_ble_eq_true rfl) (c_X12_maskLine (s := nx tp sz s) hR j1 (hI.mv rfl j1.2.1) (show s.2.1 2 < 6 by omega) (fun f p q J3 k1 k2 => ?_) (fun u q J3 k1 k2 => ?_))
          · refine v_goto (tgt := 286) dX12_readLine_79 (by decide) ?_
            refine v_vret dX12_readLine_286 rfl rfl rfl rfl ?_
            exact hF f p (el.trans q) J3 k1 (j2.k.trans k2)
          · refine v_goto (tgt := 286) dX12_readLine_79 (by decide) ?_
            refine v_vret dX12_readLine_286 rfl rfl rfl rfl ?_
            exact hY u (el.trans q) J3 k1 (j2.k.trans k2)
  have l1 : isW tp sz (wd 0) s.1 = false → VV yX12_readLine cX12_readLine 1 none 10 Q b ad 31 [some (.ref (b + 157))] [] I L R := by
    intro w0
    refine v_aload_0 dX12_readLine_31 ?_
    refine v_ldcS (i := 30) dX12_readLine_32 (by decide) rfl rfl ?_
    refine v_iconst (v := nI 1) dX12_readLine_34 (by decide) ?_
    refine v_iconst (v := nI 1) dX12_readLine_35 (by decide) ?_
    refine u_callV_3 dX12_readLine_36 ml_X12_198 mv_X12_begins (by first | assumption | rfl | exact led_1 (by assumption) | exact led_2 (by assumption) | exact bk_m (by assumption) (by first | assumption | omega) | exact bk_p (by assumption) (by first | assumption | omega) | exact bk_o (by assumption) (by first | assumption | omega) | exact bk_s (by assumption) (by first | assumption | omega) | exact bk_1 (by assumption) | exact bk_2 (by assumption) | exact bk_3 (by assumption) | exact bk_4 (by assumption) | exact bk_5 (by assumption) | exact bk_6 (by assumption) | exact bk_7 (by assumption) | exact bk_8 (by assumption) | exact sh_ring _ (by first | assumption | omega) | exact sh_imgs _ (by first | assumption | omega)) (by decide) rfl (by decide) (Nat.le_of_ble_eq_true rfl) (c_X12_begins (i := 30) (o := 1) (can := true) (by decide) hR h (fun w => ?_) (fun w cf J j1 j2 => ?_) (fun w ct J j1 j2 => ?_))
    · refine v_if_eq (tgt := 49) dX12_readLine_39 (by decide) (fun hc39 => ?_) (fun hc39 => ?_)
      · (first | rw [bI_0, Bool.not_eq_false] at hc39 | rw [bI_0] at hc39 | rw [show (0 : Int32) = nI 0 from rfl, nI_eq (by omega) (by omega)] at hc39 | skip)
        exact l2 w0 w
      · exact absurd rfl hc39
    · cases cf
    · have w1 : isW tp sz (wd 1) s.1 = true := w
      have el : line tp sz s = lWork tp sz (6 - (nx tp sz s).2.1 1) (nx tp sz s) := by unfold line; rw [if_neg (by rw [w0]; decide), if_pos w1]; rfl
      refine v_if_eq (tgt := 49) dX12_readLine_39 (by decide) (fun hc39 => ?_) (fun hc39 => ?_)
      · exact absurd hc39 (by decide)
      · (first | rw [bI_0, Bool.not_eq_false] at hc39 | rw [bI_0] at hc39 | rw [show (0 : Int32) = nI 0 from rfl, nI_eq (by omega) (by omega)] at hc39 | skip)
        refine v_aload_0 dX12_readLine_42 ?_
        refine u_callV_0 dX12_readLine_43 ml_X12_205 mv_X12_workLine (by first | assumption | rfl | exact led_1 (by assumption) | exact led_2 (by assumption) | exact bk_m (by assumption) (by first | assumption | omega) | exact bk_p (by assumption) (by first | assumption | omega) | exact bk_o (by assumption) (by first | assumption | omega) | exact bk_s (by assumption) (by first | assumption | omega) | exact bk_1 (by assumption) | exact bk_2 (by assumption) | exact bk_3 (by assumption) | exact bk_4 (by assumption) | exact bk_5 (by assumption) | exact bk_6 (by assumption) | exact bk_7 (by assumption) | exact bk_8 (by assumption) | exact sh_ring _ (by first | assumption | omega) | exact sh_imgs _ (by first | assumption | omega)) (by decide) rfl (by decide) (Nat.le_of_ble_eq_true rfl) (c_X12_workLine (s := nx tp sz s) hR j1 o1 (fun f p q J3 k1 k2 => ?_) (fun u q J3 k1 k2 => ?_))
        · refine v_goto (tgt := 286) dX12_readLine_46 (by decide) ?_
          refine v_vret dX12_readLine_286 rfl rfl rfl rfl ?_
          exact hF f p (el.trans q) J3 k1 (j2.k.trans k2)
        · refine v_goto (tgt := 286) dX12_readLine_46 (by decide) ?_
          refine v_vret dX12_readLine_286 rfl rfl rfl rfl ?_
          exact hY u (el.trans q) J3 k1 (j2.k.trans k2)
  have l0 : VV yX12_readLine cX12_readLine 1 none 10 Q b ad 0 [some (.ref (b + 157))] [] I L R := by
    refine v_aload_0 dX12_readLine_0 ?_
    refine v_ldcS (i := 28) dX12_readLine_1 (by decide) rfl rfl ?_
    refine v_aload_0 dX12_readLine_3 ?_
    refine u_getR dX12_readLine_4 gf_X12_23 (by first | assumption | rfl | exact led_1 (by assumption) | exact led_2 (by assumption) | exact bk_m (by assumption) (by first | assumption | omega) | exact bk_p (by assumption) (by first | assumption | omega) | exact bk_o (by assumption) (by first | assumption | omega) | exact bk_s (by assumption) (by first | assumption | omega) | exact bk_1 (by assumption) | exact bk_2 (by assumption) | exact bk_3 (by assumption) | exact bk_4 (by assumption) | exact bk_5 (by assumption) | exact bk_6 (by assumption) | exact bk_7 (by assumption) | exact bk_8 (by assumption) | exact sh_ring _ (by first | assumption | omega) | exact sh_imgs _ (by first | assumption | omega)) (ro_X12_16 (by assumption)) ?_
    refine v_iconst (v := nI 0) dX12_readLine_7 (by decide) ?_
    refine u_iald dX12_readLine_8 (by first | assumption | rfl | exact led_1 (by assumption) | exact led_2 (by assumption) | exact bk_m (by assumption) (by first | assumption | omega) | exact bk_p (by assumption) (by first | assumption | omega) | exact bk_o (by assumption) (by first | assumption | omega) | exact bk_s (by assumption) (by first | assumption | omega) | exact bk_1 (by assumption) | exact bk_2 (by assumption) | exact bk_3 (by assumption) | exact bk_4 (by assumption) | exact bk_5 (by assumption) | exact bk_6 (by assumption) | exact bk_7 (by assumption) | exact bk_8 (by assumption) | exact sh_ring _ (by first | assumption | omega) | exact sh_imgs _ (by first | assumption | omega)) (by first | with_reducible rfl | (simp only [nlit, nI_add, pk_mul]; with_reducible rfl) | rfl) (by first | assumption | omega) (by first | assumption | decide) ?_
    rw [(hg 0 (by decide)).1]
    refine v_if_ne (tgt := 16) dX12_readLine_9 (by decide) (fun hc9 => ?_) (fun hc9 => ?_)
    · (first | rw [bI_0, Bool.not_eq_false] at hc9 | rw [bI_0] at hc9 | rw [show (0 : Int32) = nI 0 from rfl, nI_eq (by omega) (by omega)] at hc9 | skip)
      refine v_iconst (v := nI 0) dX12_readLine_16 (by decide) ?_
      refine v_iconst (v := nI 3) dX12_readLine_17 (by decide) ?_
      refine u_callV_3 dX12_readLine_18 ml_X12_198 mv_X12_begins (by first | assumption | rfl | exact led_1 (by assumption) | exact led_2 (by assumption) | exact bk_m (by assumption) (by first | assumption | omega) | exact bk_p (by assumption) (by first | assumption | omega) | exact bk_o (by assumption) (by first | assumption | omega) | exact bk_s (by assumption) (by first | assumption | omega) | exact bk_1 (by assumption) | exact bk_2 (by assumption) | exact bk_3 (by assumption) | exact bk_4 (by assumption) | exact bk_5 (by assumption) | exact bk_6 (by assumption) | exact bk_7 (by assumption) | exact bk_8 (by assumption) | exact sh_ring _ (by first | assumption | omega) | exact sh_imgs _ (by first | assumption | omega)) (by decide) rfl (by decide) (Nat.le_of_ble_eq_true rfl) (c_X12_begins (i := 28) (o := 3) (can := false) (by decide) hR h (fun w => ?_) (fun w cf J j1 j2 => ?_) (fun w ct J j1 j2 => ?_))
      · refine v_if_eq (tgt := 31) dX12_readLine_21 (by decide) (fun hc21 => ?_) (fun hc21 => ?_)
        · (first | rw [bI_0, Bool.not_eq_false] at hc21 | rw [bI_0] at hc21 | rw [show (0 : Int32) = nI 0 from rfl, nI_eq (by omega) (by omega)] at hc21 | skip)
          exact l1  w
        · exact absurd rfl hc21
      · have w0 : isW tp sz (wd 0) s.1 = true := w
        refine v_if_eq (tgt := 31) dX12_readLine_21 (by decide) (fun hc21 => ?_) (fun hc21 => ?_)
        · exact absurd hc21 (by decide)
        · (first | rw [bI_0, Bool.not_eq_false] at hc21 | rw [bI_0] at hc21 | rw [show (0 : Int32) = nI 0 from rfl, nI_eq (by omega) (by omega)] at hc21 | skip)
          refine v_aload_0 dX12_readLine_24 ?_
          refine u_callV_0 dX12_readLine_25 ml_X12_202 mv_X12_townLine (by first | assumption | rfl | exact led_1 (by assumption) | exact led_2 (by assumption) | exact bk_m (by assumption) (by first | assumption | omega) | exact bk_p (by assumption) (by first | assumption | omega) | exact bk_o (by assumption) (by first | assumption | omega) | exact bk_s (by assumption) (by first | assumption | omega) | exact bk_1 (by assumption) | exact bk_2 (by assumption) | exact bk_3 (by assumption) | exact bk_4 (by assumption) | exact bk_5 (by assumption) | exact bk_6 (by assumption) | exact bk_7 (by assumption) | exact bk_8 (by assumption) | exact sh_ring _ (by first | assumption | omega) | exact sh_imgs _ (by first | assumption | omega)) (by decide) rfl (by decide) (Nat.le_of_ble_eq_true rfl) (z_X12_townLine j1.1 ?_)
          refine v_goto (tgt := 286) dX12_readLine_28 (by decide) ?_
          refine v_vret dX12_readLine_286 rfl rfl rfl rfl ?_
          exact hF 3 _ (by unfold line; rw [if_pos w0, if_neg hc9]) J j1 j2.k
      · cases ct
    · (first | rw [bI_0, Bool.not_eq_false] at hc9 | rw [bI_0] at hc9 | rw [show (0 : Int32) = nI 0 from rfl, nI_eq (by omega) (by omega)] at hc9 | skip)
      refine v_iconst (v := nI 1) dX12_readLine_12 (by decide) ?_
      refine v_goto (tgt := 17) dX12_readLine_13 (by decide) ?_
      refine v_iconst (v := nI 3) dX12_readLine_17 (by decide) ?_
      refine u_callV_3 dX12_readLine_18 ml_X12_198 mv_X12_begins (by first | assumption | rfl | exact led_1 (by assumption) | exact led_2 (by assumption) | exact bk_m (by assumption) (by first | assumption | omega) | exact bk_p (by assumption) (by first | assumption | omega) | exact bk_o (by assumption) (by first | assumption | omega) | exact bk_s (by assumption) (by first | assumption | omega) | exact bk_1 (by assumption) | exact bk_2 (by assumption) | exact bk_3 (by assumption) | exact bk_4 (by assumption) | exact bk_5 (by assumption) | exact bk_6 (by assumption) | exact bk_7 (by assumption) | exact bk_8 (by assumption) | exact sh_ring _ (by first | assumption | omega) | exact sh_imgs _ (by first | assumption | omega)) (by decide) rfl (by decide) (Nat.le_of_ble_eq_true rfl) (c_X12_begins (i := 28) (o := 3) (can := true) (by decide) hR h (fun w => ?_) (fun w cf J j1 j2 => ?_) (fun w ct J j1 j2 => ?_))
      · refine v_if_eq (tgt := 31) dX12_readLine_21 (by decide) (fun hc21 => ?_) (fun hc21 => ?_)
        · (first | rw [bI_0, Bool.not_eq_false] at hc21 | rw [bI_0] at hc21 | rw [show (0 : Int32) = nI 0 from rfl, nI_eq (by omega) (by omega)] at hc21 | skip)
          exact l1  w
        · exact absurd rfl hc21
      · cases cf
      · have w0 : isW tp sz (wd 0) s.1 = true := w
        have el : line tp sz s = lTown tp sz (nx tp sz s) := by unfold line; rw [if_pos w0, if_pos hc9]
        refine v_if_eq (tgt := 31) dX12_readLine_21 (by decide) (fun hc21 => ?_) (fun hc21 => ?_)
        · exact absurd hc21 (by decide)
        · (first | rw [bI_0, Bool.not_eq_false] at hc21 | rw [bI_0] at hc21 | rw [show (0 : Int32) = nI 0 from rfl, nI_eq (by omega) (by omega)] at hc21 | skip)
          refine v_aload_0 dX12_readLine_24 ?_
          refine u_callV_0 dX12_readLine_25 ml_X12_202 mv_X12_townLine (by first | assumption | rfl | exact led_1 (by assumption) | exact led_2 (by assumption) | exact bk_m (by assumption) (by first | assumption | omega) | exact bk_p (by assumption) (by first | assumption | omega) | exact bk_o (by assumption) (by first | assumption | omega) | exact bk_s (by assumption) (by first | assumption | omega) | exact bk_1 (by assumption) | exact bk_2 (by assumption) | exact bk_3 (by assumption) | exact bk_4 (by assumption) | exact bk_5 (by assumption) | exact bk_6 (by assumption) | exact bk_7 (by assumption) | exact bk_8 (by assumption) | exact sh_ring _ (by first | assumption | omega) | exact sh_imgs _ (by first | assumption | omega)) (by decide) rfl (by decide) (Nat.le_of_ble_eq_true rfl) (c_X12_townLine (s := nx tp sz s) hR j1 (hI.mv rfl j1.2.1) (fun f p q J3 k1 k2 => ?_) (fun u q J3 k1 k2 => ?_))
          · refine v_goto (tgt := 286) dX12_readLine_28 (by decide) ?_
            refine v_vret dX12_readLine_286 rfl rfl rfl rfl ?_
            exact hF f p (el.trans q) J3 k1 (j2.k.trans k2)
          · refine v_goto (tgt := 286) dX12_readLine_28 (by decide) ?_
            refine v_vret dX12_readLine_286 rfl rfl rfl rfl ?_
            exact hY u (el.trans q) J3 k1 (j2.k.trans k2)
  refine K.of (M := mX12_readLine) (lv := [some (.ref (b + 157))]) (by decide) (Nat.le_of_ble_eq_true rfl) rfl ?_
  exact l0
end
