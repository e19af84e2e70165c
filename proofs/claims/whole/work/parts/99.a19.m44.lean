theorem dX12_book_0 : decode cX12_book 0 = .ok (.aload_n 0, 1) := by decide +kernel
theorem dX12_book_1 : decode cX12_book 1 = .ok (.invokevirtual 173, 3) := by decide +kernel
theorem dX12_book_4 : decode cX12_book 4 = .ok (.iload_n 1, 1) := by decide +kernel
theorem dX12_book_5 : decode cX12_book 5 = .ok (.iconst 0, 1) := by decide +kernel
theorem dX12_book_6 : decode cX12_book 6 = .ok (.aload_n 0, 1) := by decide +kernel
theorem dX12_book_7 : decode cX12_book 7 = .ok (.getfield 60, 3) := by decide +kernel
theorem dX12_book_10 : decode cX12_book 10 = .ok (.invokestatic 154, 3) := by decide +kernel
theorem dX12_book_13 : decode cX12_book 13 = .ok (.ifCond .ne 9, 3) := by decide +kernel
theorem dX12_book_16 : decode cX12_book 16 = .ok (.aload_n 0, 1) := by decide +kernel
theorem dX12_book_17 : decode cX12_book 17 = .ok (.iconst 2, 1) := by decide +kernel
theorem dX12_book_18 : decode cX12_book 18 = .ok (.invokevirtual 176, 3) := by decide +kernel
theorem dX12_book_21 : decode cX12_book 21 = .ok (.ireturn, 1) := by decide +kernel
theorem dX12_book_22 : decode cX12_book 22 = .ok (.aload_n 0, 1) := by decide +kernel
theorem dX12_book_23 : decode cX12_book 23 = .ok (.iconst 0, 1) := by decide +kernel
theorem dX12_book_24 : decode cX12_book 24 = .ok (.putfield 60, 3) := by decide +kernel
theorem dX12_book_27 : decode cX12_book 27 = .ok (.aload_n 0, 1) := by decide +kernel
theorem dX12_book_28 : decode cX12_book 28 = .ok (.iconst 0, 1) := by decide +kernel
theorem dX12_book_29 : decode cX12_book 29 = .ok (.putfield 96, 3) := by decide +kernel
theorem dX12_book_32 : decode cX12_book 32 = .ok (.aload_n 0, 1) := by decide +kernel
theorem dX12_book_33 : decode cX12_book 33 = .ok (.iconst 0, 1) := by decide +kernel
theorem dX12_book_34 : decode cX12_book 34 = .ok (.putfield 92, 3) := by decide +kernel
theorem dX12_book_37 : decode cX12_book 37 = .ok (.iconst 0, 1) := by decide +kernel
theorem dX12_book_38 : decode cX12_book 38 = .ok (.istore_n 2, 1) := by decide +kernel
theorem dX12_book_39 : decode cX12_book 39 = .ok (.iload_n 2, 1) := by decide +kernel
theorem dX12_book_40 : decode cX12_book 40 = .ok (.sipush 345, 3) := by decide +kernel
theorem dX12_book_43 : decode cX12_book 43 = .ok (.if_icmp .ge 16, 3) := by decide +kernel
theorem dX12_book_46 : decode cX12_book 46 = .ok (.aload_n 0, 1) := by decide +kernel
theorem dX12_book_47 : decode cX12_book 47 = .ok (.getfield 23, 3) := by decide +kernel
theorem dX12_book_50 : decode cX12_book 50 = .ok (.iload_n 2, 1) := by decide +kernel
theorem dX12_book_51 : decode cX12_book 51 = .ok (.iconst 0, 1) := by decide +kernel
theorem dX12_book_52 : decode cX12_book 52 = .ok (.iastore, 1) := by decide +kernel
theorem dX12_book_53 : decode cX12_book 53 = .ok (.iinc 2 1, 3) := by decide +kernel
theorem dX12_book_56 : decode cX12_book 56 = .ok (.goto (-17), 3) := by decide +kernel
theorem dX12_book_59 : decode cX12_book 59 = .ok (.iconst 0, 1) := by decide +kernel
theorem dX12_book_60 : decode cX12_book 60 = .ok (.istore_n 2, 1) := by decide +kernel
theorem dX12_book_61 : decode cX12_book 61 = .ok (.iload_n 2, 1) := by decide +kernel
theorem dX12_book_62 : decode cX12_book 62 = .ok (.bipush 87, 2) := by decide +kernel
theorem dX12_book_64 : decode cX12_book 64 = .ok (.if_icmp .ge 16, 3) := by decide +kernel
theorem dX12_book_67 : decode cX12_book 67 = .ok (.aload_n 0, 1) := by decide +kernel
theorem dX12_book_68 : decode cX12_book 68 = .ok (.getfield 29, 3) := by decide +kernel
theorem dX12_book_71 : decode cX12_book 71 = .ok (.iload_n 2, 1) := by decide +kernel
theorem dX12_book_72 : decode cX12_book 72 = .ok (.iconst 0, 1) := by decide +kernel
theorem dX12_book_73 : decode cX12_book 73 = .ok (.iastore, 1) := by decide +kernel
theorem dX12_book_74 : decode cX12_book 74 = .ok (.iinc 2 1, 3) := by decide +kernel
theorem dX12_book_77 : decode cX12_book 77 = .ok (.goto (-16), 3) := by decide +kernel
theorem dX12_book_80 : decode cX12_book 80 = .ok (.aload_n 0, 1) := by decide +kernel
theorem dX12_book_81 : decode cX12_book 81 = .ok (.iload_n 1, 1) := by decide +kernel
theorem dX12_book_82 : decode cX12_book 82 = .ok (.putfield 63, 3) := by decide +kernel
theorem dX12_book_85 : decode cX12_book 85 = .ok (.aload_n 0, 1) := by decide +kernel
theorem dX12_book_86 : decode cX12_book 86 = .ok (.iconst 0, 1) := by decide +kernel
theorem dX12_book_87 : decode cX12_book 87 = .ok (.putfield 66, 3) := by decide +kernel
theorem dX12_book_90 : decode cX12_book 90 = .ok (.aload_n 0, 1) := by decide +kernel
theorem dX12_book_91 : decode cX12_book 91 = .ok (.invokevirtual 113, 3) := by decide +kernel
theorem dX12_book_94 : decode cX12_book 94 = .ok (.aload_n 0, 1) := by decide +kernel
theorem dX12_book_95 : decode cX12_book 95 = .ok (.invokevirtual 179, 3) := by decide +kernel
theorem dX12_book_98 : decode cX12_book 98 = .ok (.aload_n 0, 1) := by decide +kernel
theorem dX12_book_99 : decode cX12_book 99 = .ok (.getfield 92, 3) := by decide +kernel
theorem dX12_book_102 : decode cX12_book 102 = .ok (.ifCond .ne 23, 3) := by decide +kernel
theorem dX12_book_105 : decode cX12_book 105 = .ok (.aload_n 0, 1) := by decide +kernel
theorem dX12_book_106 : decode cX12_book 106 = .ok (.getfield 82, 3) := by decide +kernel
theorem dX12_book_109 : decode cX12_book 109 = .ok (.bipush 59, 2) := by decide +kernel
theorem dX12_book_111 : decode cX12_book 111 = .ok (.if_icmp .ne 14, 3) := by decide +kernel
theorem dX12_book_114 : decode cX12_book 114 = .ok (.aload_n 0, 1) := by decide +kernel
theorem dX12_book_115 : decode cX12_book 115 = .ok (.invokevirtual 113, 3) := by decide +kernel
theorem dX12_book_118 : decode cX12_book 118 = .ok (.aload_n 0, 1) := by decide +kernel
theorem dX12_book_119 : decode cX12_book 119 = .ok (.invokevirtual 179, 3) := by decide +kernel
theorem dX12_book_122 : decode cX12_book 122 = .ok (.goto (-24), 3) := by decide +kernel
theorem dX12_book_125 : decode cX12_book 125 = .ok (.aload_n 0, 1) := by decide +kernel
theorem dX12_book_126 : decode cX12_book 126 = .ok (.getfield 92, 3) := by decide +kernel
theorem dX12_book_129 : decode cX12_book 129 = .ok (.ifCond .ne 19, 3) := by decide +kernel
theorem dX12_book_132 : decode cX12_book 132 = .ok (.aload_n 0, 1) := by decide +kernel
theorem dX12_book_133 : decode cX12_book 133 = .ok (.getfield 82, 3) := by decide +kernel
theorem dX12_book_136 : decode cX12_book 136 = .ok (.ifCond .eq 12, 3) := by decide +kernel
theorem dX12_book_139 : decode cX12_book 139 = .ok (.aload_n 0, 1) := by decide +kernel
theorem dX12_book_140 : decode cX12_book 140 = .ok (.iconst 1, 1) := by decide +kernel
theorem dX12_book_141 : decode cX12_book 141 = .ok (.aload_n 0, 1) := by decide +kernel
theorem dX12_book_142 : decode cX12_book 142 = .ok (.getfield 73, 3) := by decide +kernel
theorem dX12_book_145 : decode cX12_book 145 = .ok (.invokevirtual 119, 3) := by decide +kernel
theorem dX12_book_148 : decode cX12_book 148 = .ok (.aload_n 0, 1) := by decide +kernel
theorem dX12_book_149 : decode cX12_book 149 = .ok (.getfield 92, 3) := by decide +kernel
theorem dX12_book_152 : decode cX12_book 152 = .ok (.ifCond .ne 40, 3) := by decide +kernel
theorem dX12_book_155 : decode cX12_book 155 = .ok (.aload_n 0, 1) := by decide +kernel
theorem dX12_book_156 : decode cX12_book 156 = .ok (.getfield 23, 3) := by decide +kernel
theorem dX12_book_159 : decode cX12_book 159 = .ok (.iconst 0, 1) := by decide +kernel
theorem dX12_book_160 : decode cX12_book 160 = .ok (.iaload, 1) := by decide +kernel
theorem dX12_book_161 : decode cX12_book 161 = .ok (.ifCond .eq 21, 3) := by decide +kernel
theorem dX12_book_164 : decode cX12_book 164 = .ok (.aload_n 0, 1) := by decide +kernel
theorem dX12_book_165 : decode cX12_book 165 = .ok (.getfield 23, 3) := by decide +kernel
theorem dX12_book_168 : decode cX12_book 168 = .ok (.iconst 2, 1) := by decide +kernel
theorem dX12_book_169 : decode cX12_book 169 = .ok (.iaload, 1) := by decide +kernel
theorem dX12_book_170 : decode cX12_book 170 = .ok (.ifCond .eq 12, 3) := by decide +kernel
theorem dX12_book_173 : decode cX12_book 173 = .ok (.aload_n 0, 1) := by decide +kernel
theorem dX12_book_174 : decode cX12_book 174 = .ok (.getfield 23, 3) := by decide +kernel
theorem dX12_book_177 : decode cX12_book 177 = .ok (.iconst 3, 1) := by decide +kernel
theorem dX12_book_178 : decode cX12_book 178 = .ok (.iaload, 1) := by decide +kernel
theorem dX12_book_179 : decode cX12_book 179 = .ok (.ifCond .ne 13, 3) := by decide +kernel
theorem dX12_book_182 : decode cX12_book 182 = .ok (.aload_n 0, 1) := by decide +kernel
theorem dX12_book_183 : decode cX12_book 183 = .ok (.bipush 6, 2) := by decide +kernel
theorem dX12_book_185 : decode cX12_book 185 = .ok (.aload_n 0, 1) := by decide +kernel
theorem dX12_book_186 : decode cX12_book 186 = .ok (.getfield 73, 3) := by decide +kernel
theorem dX12_book_189 : decode cX12_book 189 = .ok (.invokevirtual 119, 3) := by decide +kernel
theorem dX12_book_192 : decode cX12_book 192 = .ok (.aload_n 0, 1) := by decide +kernel
theorem dX12_book_193 : decode cX12_book 193 = .ok (.getfield 92, 3) := by decide +kernel
theorem dX12_book_196 : decode cX12_book 196 = .ok (.ifCond .eq 9, 3) := by decide +kernel
theorem dX12_book_199 : decode cX12_book 199 = .ok (.aload_n 0, 1) := by decide +kernel
theorem dX12_book_200 : decode cX12_book 200 = .ok (.iconst 4, 1) := by decide +kernel
theorem dX12_book_201 : decode cX12_book 201 = .ok (.invokevirtual 176, 3) := by decide +kernel
theorem dX12_book_204 : decode cX12_book 204 = .ok (.ireturn, 1) := by decide +kernel
theorem dX12_book_205 : decode cX12_book 205 = .ok (.aload_n 0, 1) := by decide +kernel
theorem dX12_book_206 : decode cX12_book 206 = .ok (.getfield 23, 3) := by decide +kernel
theorem dX12_book_209 : decode cX12_book 209 = .ok (.iconst 0, 1) := by decide +kernel
theorem dX12_book_210 : decode cX12_book 210 = .ok (.aload_n 0, 1) := by decide +kernel
theorem dX12_book_211 : decode cX12_book 211 = .ok (.getfield 20, 3) := by decide +kernel
theorem dX12_book_214 : decode cX12_book 214 = .ok (.iconst 0, 1) := by decide +kernel
theorem dX12_book_215 : decode cX12_book 215 = .ok (.sipush 345, 3) := by decide +kernel
theorem dX12_book_218 : decode cX12_book 218 = .ok (.invokestatic 182, 3) := by decide +kernel
theorem dX12_book_221 : decode cX12_book 221 = .ok (.aload_n 0, 1) := by decide +kernel
theorem dX12_book_222 : decode cX12_book 222 = .ok (.getfield 29, 3) := by decide +kernel
theorem dX12_book_225 : decode cX12_book 225 = .ok (.iconst 0, 1) := by decide +kernel
theorem dX12_book_226 : decode cX12_book 226 = .ok (.aload_n 0, 1) := by decide +kernel
theorem dX12_book_227 : decode cX12_book 227 = .ok (.getfield 26, 3) := by decide +kernel
theorem dX12_book_230 : decode cX12_book 230 = .ok (.iconst 0, 1) := by decide +kernel
theorem dX12_book_231 : decode cX12_book 231 = .ok (.bipush 87, 2) := by decide +kernel
theorem dX12_book_233 : decode cX12_book 233 = .ok (.invokestatic 182, 3) := by decide +kernel
theorem dX12_book_236 : decode cX12_book 236 = .ok (.aload_n 0, 1) := by decide +kernel
theorem dX12_book_237 : decode cX12_book 237 = .ok (.iconst 1, 1) := by decide +kernel
theorem dX12_book_238 : decode cX12_book 238 = .ok (.putfield 186, 3) := by decide +kernel
theorem dX12_book_241 : decode cX12_book 241 = .ok (.aload_n 0, 1) := by decide +kernel
theorem dX12_book_242 : decode cX12_book 242 = .ok (.iconst 0, 1) := by decide +kernel
theorem dX12_book_243 : decode cX12_book 243 = .ok (.putfield 189, 3) := by decide +kernel
theorem dX12_book_246 : decode cX12_book 246 = .ok (.aload_n 0, 1) := by decide +kernel
theorem dX12_book_247 : decode cX12_book 247 = .ok (.iconst 0, 1) := by decide +kernel
theorem dX12_book_248 : decode cX12_book 248 = .ok (.putfield 192, 3) := by decide +kernel
theorem dX12_book_251 : decode cX12_book 251 = .ok (.aload_n 0, 1) := by decide +kernel
theorem dX12_book_252 : decode cX12_book 252 = .ok (.iconst 0, 1) := by decide +kernel
theorem dX12_book_253 : decode cX12_book 253 = .ok (.putfield 195, 3) := by decide +kernel
theorem dX12_book_256 : decode cX12_book 256 = .ok (.aload_n 0, 1) := by decide +kernel
theorem dX12_book_257 : decode cX12_book 257 = .ok (.getfield 20, 3) := by decide +kernel
theorem dX12_book_260 : decode cX12_book 260 = .ok (.iconst 2, 1) := by decide +kernel
theorem dX12_book_261 : decode cX12_book 261 = .ok (.iaload, 1) := by decide +kernel
theorem dX12_book_262 : decode cX12_book 262 = .ok (.ireturn, 1) := by decide +kernel
section
variable {b : Nat} {ad : Nat → Nat} {I J : HI} {L M : HL} {R : HR} {Q : QT} {tp : Nat → Nat} {nt tr fa pl : Nat} {F : bkF} {S : Nat → LSt} {u r : Nat} {im : Nat → LSt} {ic : Nat}
theorem rf_bkF {f p : Nat} (h : RefB I tp nt tr fa pl F S u r im ic) (h2 : J 157 2 = nI 0) (h11 : J 157 11 = nI 4) (h9 : J 157 9 = nI f) (h10 : J 157 10 = nI p) (hj : ∀ j, j = 14 ∨ j = 23 ∨ j = 24 ∨ j = 25 → J 157 j = I 157 j) (hx : ∀ x, x = 160 ∨ x = 162 ∨ x = 165 ∨ x = 166 ∨ x = 167 → J x = I x) : RefB J tp 0 4 f p F S u r im ic := by
  obtain ⟨-, -, c, ⟨d1, d2, d3, d4, d5⟩, ⟨e1, e2, e3⟩, ff⟩ := h
  exact ⟨⟨h2, by decide, fun i hi => absurd hi (Nat.not_lt_zero i)⟩, ⟨h11, h9, fun _ => h10, by decide⟩, c.fr (hx 160 (by decide)) (hj 14 (by decide)) (hx 162 (by decide)), ⟨by rw [hj 23 (by decide)]; exact d1, by rw [hj 24 (by decide)]; exact d2, d3, fun j q => (d4 j q).fr (hx 165 (by decide)), fun j q => (d5 j q).fr (hx 166 (by decide))⟩, ⟨by rw [hj 25 (by decide)]; exact e1, e2, fun c q => (e3 c q).fr (hx 167 (by decide))⟩, ff⟩
theorem rf_bkS {F' : bkF} {s' : LSt} (h2 : J 157 2 = nI 0) (h11 : J 157 11 = nI 0) (h9 : J 157 9 = nI 0) (hF : ∀ k, k < 192 → J 160 k = nI (F' k)) (h14 : J 157 14 = nI 1) (h0 : F' 0 ≠ 0) (hO : FOK F') (hS : StI J 162 0 s') (hK : LOK F' s') (h23 : J 157 23 = nI 0) (h24 : J 157 24 = nI 0) (h25 : J 157 25 = nI 0) : RefB J tp 0 0 0 pl F' (putS S s') 0 0 im 0 :=
  ⟨⟨h2, by decide, fun i hi => absurd hi (Nat.not_lt_zero i)⟩, ⟨h11, h9, fun q => absurd q (by decide), by decide⟩, ⟨⟨⟨rfl, hF⟩, by rw [h14, decide_eq_true (show 0 < F' 0 by omega)]; rfl, hO, fun q => absurd q h0⟩, hS, hK⟩, ⟨h23, h24, by decide, fun j q => absurd q (Nat.not_lt_zero j), fun j q => absurd q (Nat.not_lt_zero j)⟩, ⟨h25, by decide, fun c q => absurd q (Nat.not_lt_zero c)⟩, fun _ => ⟨rfl, rfl, rfl⟩⟩
theorem l_bk {n : Nat} {x2 : Option Value} {K : HI} (hR : RO R) (h : RefB I tp nt tr fa pl F S u r im ic) (hn : n ≤ nt) (hn9 : nt ≤ 900) (hK1 : BsM K tp n) (hK5 : K 157 5 = nI 0) (hK13 : K 157 13 = nI 0) (hK2 : K 157 2 = nI 0) (hK11 : K 157 11 = nI 0) (hKj : ∀ j, j = 14 ∨ j = 23 ∨ j = 24 ∨ j = 25 → K 157 j = I 157 j) (hKx : ∀ x, x ≠ 157 → x ≠ 161 → x ≠ 163 → K x = I x) (hf : ∀ k, k < 345 → K 161 k = nI 0) (hs : ∀ k, k < 87 → K 163 k = nI 0) (hQ0 : ∀ f p, pars tp n = .inl (f, p) → YQ I L R tp 0 4 f p F S u r im ic (-1) Q) (hQ1 : ∀ v, pars tp n = .inr v → YQ I L R tp 0 0 0 pl v.2.1 (putS S v.2.2) 0 0 im 0 (nI (v.2.1 2)) Q) : VV yX12_book cX12_book 3 (some .int) 11 Q b ad 90 [some (.ref (b + 157)), some (.int (nI n)), x2] [] K L R := by
  have hby : ∀ i, i < n → tp i < 256 := fun i hi => (hK1.2.2 i hi).2
  have tailF : ∀ (J : HI) (f p : Nat), FlM J f p → FrK K J → pars tp n = .inl (f, p) → VV yX12_book cX12_book 3 (some .int) 11 Q b ad 192 [some (.ref (b + 157)), some (.int (nI n)), x2] [] J L R := by
    intro J f p j1 jk q
    refine v_aload_0 dX12_book_192 ?_
    refine u_getI dX12_book_193 gf_X12_92 (by first | assumption | rfl | exact led_1 (by assumption) | exact led_2 (by assumption) | exact bk_m (by assumption) (by first | assumption | omega) | exact bk_p (by assumption) (by first | assumption | omega) | exact bk_o (by assumption) (by first | assumption | omega) | exact bk_s (by assumption) (by first | assumption | omega) | exact bk_1 (by assumption) | exact bk_2 (by assumption) | exact bk_3 (by assumption) | exact bk_4 (by assumption) | exact bk_5 (by assumption) | exact bk_6 (by assumption) | exact bk_7 (by assumption) | exact bk_8 (by assumption) | exact sh_ring _ (by first | assumption | omega) | exact sh_imgs _ (by first | assumption | omega)) ?_
    rw [j1.1]
    refine v_if_eq (tgt := 205) dX12_book_196 (by decide) (fun hc196 => ?_) (fun hc196 => ?_)
    · exact absurd hc196 (by decide)
    · (first | rw [bI_0, Bool.not_eq_false] at hc196 | rw [bI_0] at hc196 | rw [show (0 : Int32) = nI 0 from rfl, nI_eq (by omega) (by omega)] at hc196 | skip)
      refine v_aload_0 dX12_book_199 ?_
      refine v_iconst (v := nI 4) dX12_book_200 (by decide) ?_
      refine u_callV_1 dX12_book_201 ml_X12_176 mv_X12_no (by first | assumption | rfl | exact led_1 (by assumption) | exact led_2 (by assumption) | exact bk_m (by assumption) (by first | assumption | omega) | exact bk_p (by assumption) (by first | assumption | omega) | exact bk_o (by assumption) (by first | assumption | omega) | exact bk_s (by assumption) (by first | assumption | omega) | exact bk_1 (by assumption) | exact bk_2 (by assumption) | exact bk_3 (by assumption) | exact bk_4 (by assumption) | exact bk_5 (by assumption) | exact bk_6 (by assumption) | exact bk_7 (by assumption) | exact bk_8 (by assumption) | exact sh_ring _ (by first | assumption | omega) | exact sh_imgs _ (by first | assumption | omega)) (by decide) rfl (by decide) (Nat.le_of_ble_eq_true rfl) (c_X12_no (k := 4) ?_)
      refine v_iret dX12_book_204 rfl rfl rfl rfl ?_
      exact hQ0 f p q _ _ (rf_bkF h (by rw [ui_o (by decide), jk.2 2 (by decide)]; exact hK2) (ui_s _ _ _ _) (by rw [ui_o (by decide)]; exact j1.2.1) (by rw [ui_o (by decide)]; exact j1.2.2) (fun j hj => by rw [ui_o (by omega), jk.2 j (by omega)]; exact hKj j hj) (fun x hx => by rw [ui_ne (by omega), jk.1 x (by omega) (by omega) (by omega) (by omega)]; exact hKx x (by omega) (by omega) (by omega))) (fun x hx => by rw [ui_ne (by omega), jk.1 x (by omega) (by omega) (by omega) (by omega)]; exact hKx x (by omega) (by omega) (by omega)) (fun _ _ => rfl)
  have tailF148 : ∀ (J : HI) (f p : Nat), FlM J f p → FrK K J → pars tp n = .inl (f, p) → VV yX12_book cX12_book 3 (some .int) 11 Q b ad 148 [some (.ref (b + 157)), some (.int (nI n)), x2] [] J L R := by
    intro J f p j1 jk q
    refine v_aload_0 dX12_book_148 ?_
    refine u_getI dX12_book_149 gf_X12_92 (by first | assumption | rfl | exact led_1 (by assumption) | exact led_2 (by assumption) | exact bk_m (by assumption) (by first | assumption | omega) | exact bk_p (by assumption) (by first | assumption | omega) | exact bk_o (by assumption) (by first | assumption | omega) | exact bk_s (by assumption) (by first | assumption | omega) | exact bk_1 (by assumption) | exact bk_2 (by assumption) | exact bk_3 (by assumption) | exact bk_4 (by assumption) | exact bk_5 (by assumption) | exact bk_6 (by assumption) | exact bk_7 (by assumption) | exact bk_8 (by assumption) | exact sh_ring _ (by first | assumption | omega) | exact sh_imgs _ (by first | assumption | omega)) ?_
    rw [j1.1]
    refine v_if_ne (tgt := 192) dX12_book_152 (by decide) (fun hc152 => ?_) (fun hc152 => ?_)
    · (first | rw [bI_0, Bool.not_eq_false] at hc152 | rw [bI_0] at hc152 | rw [show (0 : Int32) = nI 0 from rfl, nI_eq (by omega) (by omega)] at hc152 | skip)
      exact tailF J f p j1 jk q
    · exact absurd hc152 (by decide)
  have tailF98 : ∀ (J : HI) (f p : Nat), FlM J f p → FrK K J → pars tp n = .inl (f, p) → VV yX12_book cX12_book 3 (some .int) 11 Q b ad 98 [some (.ref (b + 157)), some (.int (nI n)), x2] [] J L R := by
    intro J f p j1 jk q
    refine v_aload_0 dX12_book_98 ?_
    refine u_getI dX12_book_99 gf_X12_92 (by first | assumption | rfl | exact led_1 (by assumption) | exact led_2 (by assumption) | exact bk_m (by assumption) (by first | assumption | omega) | exact bk_p (by assumption) (by first | assumption | omega) | exact bk_o (by assumption) (by first | assumption | omega) | exact bk_s (by assumption) (by first | assumption | omega) | exact bk_1 (by assumption) | exact bk_2 (by assumption) | exact bk_3 (by assumption) | exact bk_4 (by assumption) | exact bk_5 (by assumption) | exact bk_6 (by assumption) | exact bk_7 (by assumption) | exact bk_8 (by assumption) | exact sh_ring _ (by first | assumption | omega) | exact sh_imgs _ (by first | assumption | omega)) ?_
    rw [j1.1]
    refine v_if_ne (tgt := 125) dX12_book_102 (by decide) (fun hc102 => ?_) (fun hc102 => ?_)
    · (first | rw [bI_0, Bool.not_eq_false] at hc102 | rw [bI_0] at hc102 | rw [show (0 : Int32) = nI 0 from rfl, nI_eq (by omega) (by omega)] at hc102 | skip)
      refine v_aload_0 dX12_book_125 ?_
      refine u_getI dX12_book_126 gf_X12_92 (by first | assumption | rfl | exact led_1 (by assumption) | exact led_2 (by assumption) | exact bk_m (by assumption) (by first | assumption | omega) | exact bk_p (by assumption) (by first | assumption | omega) | exact bk_o (by assumption) (by first | assumption | omega) | exact bk_s (by assumption) (by first | assumption | omega) | exact bk_1 (by assumption) | exact bk_2 (by assumption) | exact bk_3 (by assumption) | exact bk_4 (by assumption) | exact bk_5 (by assumption) | exact bk_6 (by assumption) | exact bk_7 (by assumption) | exact bk_8 (by assumption) | exact sh_ring _ (by first | assumption | omega) | exact sh_imgs _ (by first | assumption | omega)) ?_
      rw [j1.1]
      refine v_if_ne (tgt := 148) dX12_book_129 (by decide) (fun hc129 => ?_) (fun hc129 => ?_)
      · (first | rw [bI_0, Bool.not_eq_false] at hc129 | rw [bI_0] at hc129 | rw [show (0 : Int32) = nI 0 from rfl, nI_eq (by omega) (by omega)] at hc129 | skip)
        exact tailF148 J f p j1 jk q
      · exact absurd hc129 (by decide)
    · exact absurd hc102 (by decide)
  have tailS : ∀ (J : HI) (s : PS), LvM J tp n s.1 s.2.1 s.2.2 → PInv n s → FrK K J → pars tp n = finP tp n s → VV yX12_book cX12_book 3 (some .int) 11 Q b ad 125 [some (.ref (b + 157)), some (.int (nI n)), x2] [] J L R := by
    intro J s hL hI jk q
    have h13 := hL.2.2.1
    have t4 := hL.2.2.2.1.1
    have t6 := hL.2.2.2.1.2.2.1
    have hk9 : tK tp n s.1 < 60 := by unfold tK; (repeat' split) <;> omega
    have g0 := hL.2.2.2.2.1 0 (by decide)
    have g2 := hL.2.2.2.2.1 2 (by decide)
    have g3 := hL.2.2.2.2.1 3 (by decide)
    unfold finP at q
    refine v_aload_0 dX12_book_125 ?_
    refine u_getI dX12_book_126 gf_X12_92 (by first | assumption | rfl | exact led_1 (by assumption) | exact led_2 (by assumption) | exact bk_m (by assumption) (by first | assumption | omega) | exact bk_p (by assumption) (by first | assumption | omega) | exact bk_o (by assumption) (by first | assumption | omega) | exact bk_s (by assumption) (by first | assumption | omega) | exact bk_1 (by assumption) | exact bk_2 (by assumption) | exact bk_3 (by assumption) | exact bk_4 (by assumption) | exact bk_5 (by assumption) | exact bk_6 (by assumption) | exact bk_7 (by assumption) | exact bk_8 (by assumption) | exact sh_ring _ (by first | assumption | omega) | exact sh_imgs _ (by first | assumption | omega)) ?_
    rw [h13]
    refine v_if_ne (tgt := 148) dX12_book_129 (by decide) (fun hc129 => ?_) (fun hc129 => ?_)
    · exact absurd rfl hc129
    · (first | rw [bI_0, Bool.not_eq_false] at hc129 | rw [bI_0] at hc129 | rw [show (0 : Int32) = nI 0 from rfl, nI_eq (by omega) (by omega)] at hc129 | skip)
      refine v_aload_0 dX12_book_132 ?_
      refine u_getI dX12_book_133 gf_X12_82 (by first | assumption | rfl | exact led_1 (by assumption) | exact led_2 (by assumption) | exact bk_m (by assumption) (by first | assumption | omega) | exact bk_p (by assumption) (by first | assumption | omega) | exact bk_o (by assumption) (by first | assumption | omega) | exact bk_s (by assumption) (by first | assumption | omega) | exact bk_1 (by assumption) | exact bk_2 (by assumption) | exact bk_3 (by assumption) | exact bk_4 (by assumption) | exact bk_5 (by assumption) | exact bk_6 (by assumption) | exact bk_7 (by assumption) | exact bk_8 (by assumption) | exact sh_ring _ (by first | assumption | omega) | exact sh_imgs _ (by first | assumption | omega)) ?_
      rw [t6]
      refine v_if_eq (tgt := 148) dX12_book_136 (by decide) (fun hc136 => ?_) (fun hc136 => ?_)
      · (first | rw [bI_0, Bool.not_eq_false] at hc136 | rw [bI_0] at hc136 | rw [show (0 : Int32) = nI 0 from rfl, nI_eq (by omega) (by omega)] at hc136 | skip)
        first
          | exact tailF148 _ 1 _ wrong_fl.1 (jk.trans wrong_fl.2.k) (by rw [q, if_neg hc136])
          | (refine v_aload_0 dX12_book_148 ?_
             refine u_getI dX12_book_149 gf_X12_92 (by first | assumption | rfl | exact led_1 (by assumption) | exact led_2 (by assumption) | exact bk_m (by assumption) (by first | assumption | omega) | exact bk_p (by assumption) (by first | assumption | omega) | exact bk_o (by assumption) (by first | assumption | omega) | exact bk_s (by assumption) (by first | assumption | omega) | exact bk_1 (by assumption) | exact bk_2 (by assumption) | exact bk_3 (by assumption) | exact bk_4 (by assumption) | exact bk_5 (by assumption) | exact bk_6 (by assumption) | exact bk_7 (by assumption) | exact bk_8 (by assumption) | exact sh_ring _ (by first | assumption | omega) | exact sh_imgs _ (by first | assumption | omega)) ?_
             rw [h13]
             refine v_if_ne (tgt := 192) dX12_book_152 (by decide) (fun hc152 => ?_) (fun hc152 => ?_)
             · exact absurd rfl hc152
             · (first | rw [bI_0, Bool.not_eq_false] at hc152 | rw [bI_0] at hc152 | rw [show (0 : Int32) = nI 0 from rfl, nI_eq (by omega) (by omega)] at hc152 | skip)
               refine v_aload_0 dX12_book_155 ?_
               refine u_getR dX12_book_156 gf_X12_23 (by first | assumption | rfl | exact led_1 (by assumption) | exact led_2 (by assumption) | exact bk_m (by assumption) (by first | assumption | omega) | exact bk_p (by assumption) (by first | assumption | omega) | exact bk_o (by assumption) (by first | assumption | omega) | exact bk_s (by assumption) (by first | assumption | omega) | exact bk_1 (by assumption) | exact bk_2 (by assumption) | exact bk_3 (by assumption) | exact bk_4 (by assumption) | exact bk_5 (by assumption) | exact bk_6 (by assumption) | exact bk_7 (by assumption) | exact bk_8 (by assumption) | exact sh_ring _ (by first | assumption | omega) | exact sh_imgs _ (by first | assumption | omega)) (ro_X12_16 (by assumption)) ?_
               refine v_iconst (v := nI 0) dX12_book_159 (by decide) ?_
               refine u_iald dX12_book_160 (by first | assumption | rfl | exact led_1 (by assumption) | exact led_2 (by assumption) | exact bk_m (by assumption) (by first | assumption | omega) | exact bk_p (by assumption) (by first | assumption | omega) | exact bk_o (by assumption) (by first | assumption | omega) | exact bk_s (by assumption) (by first | assumption | omega) | exact bk_1 (by assumption) | exact bk_2 (by assumption) | exact bk_3 (by assumption) | exact bk_4 (by assumption) | exact bk_5 (by assumption) | exact bk_6 (by assumption) | exact bk_7 (by assumption) | exact bk_8 (by assumption) | exact sh_ring _ (by first | assumption | omega) | exact sh_imgs _ (by first | assumption | omega)) (by first | with_reducible rfl | (simp only [nlit, nI_add, pk_mul]; with_reducible rfl) | rfl) (by first | assumption | omega) (by first | assumption | decide) ?_
               rw [g0.1]
               refine v_if_eq (tgt := 182) dX12_book_161 (by decide) (fun hc161 => ?_) (fun hc161 => ?_)
               · (first | rw [bI_0, Bool.not_eq_false] at hc161 | rw [bI_0] at hc161 | rw [show (0 : Int32) = nI 0 from rfl, nI_eq (by omega) (by omega)] at hc161 | skip)
                 refine v_aload_0 dX12_book_182 ?_
                 refine v_bipush (v := nI 6) dX12_book_183 (by decide) ?_
                 refine v_aload_0 dX12_book_185 ?_
                 refine u_getI dX12_book_186 gf_X12_73 (by first | assumption | rfl | exact led_1 (by assumption) | exact led_2 (by assumption) | exact bk_m (by assumption) (by first | assumption | omega) | exact bk_p (by assumption) (by first | assumption | omega) | exact bk_o (by assumption) (by first | assumption | omega) | exact bk_s (by assumption) (by first | assumption | omega) | exact bk_1 (by assumption) | exact bk_2 (by assumption) | exact bk_3 (by assumption) | exact bk_4 (by assumption) | exact bk_5 (by assumption) | exact bk_6 (by assumption) | exact bk_7 (by assumption) | exact bk_8 (by assumption) | exact sh_ring _ (by first | assumption | omega) | exact sh_imgs _ (by first | assumption | omega)) ?_
                 rw [t4]
                 refine u_callV_2 dX12_book_189 ml_X12_119 mv_X12_wrong (by first | assumption | rfl | exact led_1 (by assumption) | exact led_2 (by assumption) | exact bk_m (by assumption) (by first | assumption | omega) | exact bk_p (by assumption) (by first | assumption | omega) | exact bk_o (by assumption) (by first | assumption | omega) | exact bk_s (by assumption) (by first | assumption | omega) | exact bk_1 (by assumption) | exact bk_2 (by assumption) | exact bk_3 (by assumption) | exact bk_4 (by assumption) | exact bk_5 (by assumption) | exact bk_6 (by assumption) | exact bk_7 (by assumption) | exact bk_8 (by assumption) | exact sh_ring _ (by first | assumption | omega) | exact sh_imgs _ (by first | assumption | omega)) (by decide) rfl (by decide) (Nat.le_of_ble_eq_true rfl) (c_X12_wrong h13 ?_)
                 exact tailF _ 6 _ wrong_fl.1 (jk.trans wrong_fl.2.k) (by rw [q, if_pos hc136, if_pos (by first | exact Or.inl hc161 | exact Or.inr (Or.inl hc170) | exact Or.inr (Or.inr hc179))])
               · (first | rw [bI_0, Bool.not_eq_false] at hc161 | rw [bI_0] at hc161 | rw [show (0 : Int32) = nI 0 from rfl, nI_eq (by omega) (by omega)] at hc161 | skip)
                 refine v_aload_0 dX12_book_164 ?_
                 refine u_getR dX12_book_165 gf_X12_23 (by first | assumption | rfl | exact led_1 (by assumption) | exact led_2 (by assumption) | exact bk_m (by assumption) (by first | assumption | omega) | exact bk_p (by assumption) (by first | assumption | omega) | exact bk_o (by assumption) (by first | assumption | omega) | exact bk_s (by assumption) (by first | assumption | omega) | exact bk_1 (by assumption) | exact bk_2 (by assumption) | exact bk_3 (by assumption) | exact bk_4 (by assumption) | exact bk_5 (by assumption) | exact bk_6 (by assumption) | exact bk_7 (by assumption) | exact bk_8 (by assumption) | exact sh_ring _ (by first | assumption | omega) | exact sh_imgs _ (by first | assumption | omega)) (ro_X12_16 (by assumption)) ?_
                 refine v_iconst (v := nI 2) dX12_book_168 (by decide) ?_
                 refine u_iald dX12_book_169 (by first | assumption | rfl | exact led_1 (by assumption) | exact led_2 (by assumption) | exact bk_m (by assumption) (by first | assumption | omega) | exact bk_p (by assumption) (by first | assumption | omega) | exact bk_o (by assumption) (by first | assumption | omega) | exact bk_s (by assumption) (by first | assumption | omega) | exact bk_1 (by assumption) | exact bk_2 (by assumption) | exact bk_3 (by assumption) | exact bk_4 (by assumption) | exact bk_5 (by assumption) | exact bk_6 (by assumption) | exact bk_7 (by assumption) | exact bk_8 (by assumption) | exact sh_ring _ (by first | assumption | omega) | exact sh_imgs _ (by first | assumption | omega)) (by first | with_reducible rfl | (simp only [nlit, nI_add, pk_mul]; with_reducible rfl) | rfl) (by first | assumption | omega) (by first | assumption | decide) ?_
                 rw [g2.1]
                 refine v_if_eq (tgt := 182) dX12_book_170 (by decide) (fun hc170 => ?_) (fun hc170 => ?_)
                 · (first | rw [bI_0, Bool.not_eq_false] at hc170 | rw [bI_0] at hc170 | rw [show (0 : Int32) = nI 0 from rfl, nI_eq (by omega) (by omega)] at hc170 | skip)
                   refine v_aload_0 dX12_book_182 ?_
                   refine v_bipush (v := nI 6) dX12_book_183 (by decide) ?_
                   refine v_aload_0 dX12_book_185 ?_
                   refine u_getI dX12_book_186 gf_X12_73 (by first | assumption | rfl | exact led_1 (by assumption) | exact led_2 (by assumption) | exact bk_m (by assumption) (by first | assumption | omega) | exact bk_p (by assumption) (by first | assumption | omega) | exact bk_o (by assumption) (by first | assumption | omega) | exact bk_s (by assumption) (by first | assumption | omega) | exact bk_1 (by assumption) | exact bk_2 (by assumption) | exact bk_3 (by assumption) | exact bk_4 (by assumption) | exact bk_5 (by assumption) | exact bk_6 (by assumption) | exact bk_7 (by assumption) | exact bk_8 (by assumption) | exact sh_ring _ (by first | assumption | omega) | exact sh_imgs _ (by first | assumption | omega)) ?_
                   rw [t4]
                   refine u_callV_2 dX12_book_189 ml_X12_119 mv_X12_wrong (by first | assumption | rfl | exact led_1 (by assumption) | exact led_2 (by assumption) | exact bk_m (by assumption) (by first | assumption | omega) | exact bk_p (by assumption) (by first | assumption | omega) | exact bk_o (by assumption) (by first | assumption | omega) | exact bk_s (by assumption) (by first | assumption | omega) | exact bk_1 (by assumption) | exact bk_2 (by assumption) | exact bk_3 (by assumption) | exact bk_4 (by assumption) | exact bk_5 (by assumption) | exact bk_6 (by assumption) | exact bk_7 (by assumption) | exact bk_8 (by assumption) | exact sh_ring _ (by first | assumption | omega) | exact sh_imgs _ (by first | assumption | omega)) (by decide) rfl (by decide) (Nat.le_of_ble_eq_true rfl) (c_X12_wrong h13 ?_)
                   exact tailF _ 6 _ wrong_fl.1 (jk.trans wrong_fl.2.k) (by rw [q, if_pos hc136, if_pos (by first | exact Or.inl hc161 | exact Or.inr (Or.inl hc170) | exact Or.inr (Or.inr hc179))])
                 · (first | rw [bI_0, Bool.not_eq_false] at hc170 | rw [bI_0] at hc170 | rw [show (0 : Int32) = nI 0 from rfl, nI_eq (by omega) (by omega)] at hc170 | skip)
                   refine v_aload_0 dX12_book_173 ?_
                   refine u_getR dX12_book_174 gf_X12_23 (by first | assumption | rfl | exact led_1 (by assumption) | exact led_2 (by assumption) | exact bk_m (by assumption) (by first | assumption | omega) | exact bk_p (by assumption) (by first | assumption | omega) | exact bk_o (by assumption) (by first | assumption | omega) | exact bk_s (by assumption) (by first | assumption | omega) | exact bk_1 (by assumption) | exact bk_2 (by assumption) | exact bk_3 (by assumption) | exact bk_4 (by assumption) | exact bk_5 (by assumption) | exact bk_6 (by assumption) | exact bk_7 (by assumption) | exact bk_8 (by assumption) | exact sh_ring _ (by first | assumption | omega) | exact sh_imgs _ (by first | assumption | omega)) (ro_X12_16 (by assumption)) ?_
                   refine v_iconst (v := nI 3) dX12_book_177 (by decide) ?_
                   refine u_iald dX12_book_178 (by first | assumption | rfl | exact led_1 (by assumption) | exact led_2 (by assumption) | exact bk_m (by assumption) (by first | assumption | omega) | exact bk_p (by assumption) (by first | assumption | omega) | exact bk_o (by assumption) (by first | assumption | omega) | exact bk_s (by assumption) (by first | assumption | omega) | exact bk_1 (by assumption) | exact bk_2 (by assumption) | exact bk_3 (by assumption) | exact bk_4 (by assumption) | exact bk_5 (by assumption) | exact bk_6 (by assumption) | exact bk_7 (by assumption) | exact bk_8 (by assumption) | exact sh_ring _ (by first | assumption | omega) | exact sh_imgs _ (by first | assumption | omega)) (by first | with_reducible rfl | (simp only [nlit, nI_add, pk_mul]; with_reducible rfl) | rfl) (by first | assumption | omega) (by first | assumption | decide) ?_
                   rw [g3.1]
                   refine v_if_ne (tgt := 192) dX12_book_179 (by decide) (fun hc179 => ?_) (fun hc179 => ?_)
                   · (first | rw [bI_0, Bool.not_eq_false] at hc179 | rw [bI_0] at hc179 | rw [show (0 : Int32) = nI 0 from rfl, nI_eq (by omega) (by omega)] at hc179 | skip)
                     rw [if_pos hc136, if_neg (by omega)] at q
                     have hv := hQ1 s q
                     refine v_aload_0 dX12_book_192 ?_
                     refine u_getI dX12_book_193 gf_X12_92 (by first | assumption | rfl | exact led_1 (by assumption) | exact led_2 (by assumption) | exact bk_m (by assumption) (by first | assumption | omega) | exact bk_p (by assumption) (by first | assumption | omega) | exact bk_o (by assumption) (by first | assumption | omega) | exact bk_s (by assumption) (by first | assumption | omega) | exact bk_1 (by assumption) | exact bk_2 (by assumption) | exact bk_3 (by assumption) | exact bk_4 (by assumption) | exact bk_5 (by assumption) | exact bk_6 (by assumption) | exact bk_7 (by assumption) | exact bk_8 (by assumption) | exact sh_ring _ (by first | assumption | omega) | exact sh_imgs _ (by first | assumption | omega)) ?_
                     rw [h13]
                     refine v_if_eq (tgt := 205) dX12_book_196 (by decide) (fun hc196 => ?_) (fun hc196 => ?_)
                     · (first | rw [bI_0, Bool.not_eq_false] at hc196 | rw [bI_0] at hc196 | rw [show (0 : Int32) = nI 0 from rfl, nI_eq (by omega) (by omega)] at hc196 | skip)
                       refine v_aload_0 dX12_book_205 ?_
                       refine u_getR dX12_book_206 gf_X12_23 (by first | assumption | rfl | exact led_1 (by assumption) | exact led_2 (by assumption) | exact bk_m (by assumption) (by first | assumption | omega) | exact bk_p (by assumption) (by first | assumption | omega) | exact bk_o (by assumption) (by first | assumption | omega) | exact bk_s (by assumption) (by first | assumption | omega) | exact bk_1 (by assumption) | exact bk_2 (by assumption) | exact bk_3 (by assumption) | exact bk_4 (by assumption) | exact bk_5 (by assumption) | exact bk_6 (by assumption) | exact bk_7 (by assumption) | exact bk_8 (by assumption) | exact sh_ring _ (by first | assumption | omega) | exact sh_imgs _ (by first | assumption | omega)) (ro_X12_16 (by assumption)) ?_
                       refine v_iconst (v := nI 0) dX12_book_209 (by decide) ?_
                       refine v_aload_0 dX12_book_210 ?_
                       refine u_getR dX12_book_211 gf_X12_20 (by first | assumption | rfl | exact led_1 (by assumption) | exact led_2 (by assumption) | exact bk_m (by assumption) (by first | assumption | omega) | exact bk_p (by assumption) (by first | assumption | omega) | exact bk_o (by assumption) (by first | assumption | omega) | exact bk_s (by assumption) (by first | assumption | omega) | exact bk_1 (by assumption) | exact bk_2 (by assumption) | exact bk_3 (by assumption) | exact bk_4 (by assumption) | exact bk_5 (by assumption) | exact bk_6 (by assumption) | exact bk_7 (by assumption) | exact bk_8 (by assumption) | exact sh_ring _ (by first | assumption | omega) | exact sh_imgs _ (by first | assumption | omega)) (ro_X12_15 (by assumption)) ?_
                       refine v_iconst (v := nI 0) dX12_book_214 (by decide) ?_
                       refine v_sipush (v := nI 345) dX12_book_215 (by decide) ?_
                       refine u_callS_5 dX12_book_218 ml_X12_182 ms_X12_copy (by decide) (Nat.le_of_ble_eq_true rfl) (c_X12_copy (i0 := 0) (j0 := 0) (m := 345) rfl rfl (by decide) (by decide) (by decide) (by decide) (by decide) (fun J6 c1 c2 => ?_))
                       refine v_aload_0 dX12_book_221 ?_
                       refine u_getR dX12_book_222 gf_X12_29 (by first | assumption | rfl | exact led_1 (by assumption) | exact led_2 (by assumption) | exact bk_m (by assumption) (by first | assumption | omega) | exact bk_p (by assumption) (by first | assumption | omega) | exact bk_o (by assumption) (by first | assumption | omega) | exact bk_s (by assumption) (by first | assumption | omega) | exact bk_1 (by assumption) | exact bk_2 (by assumption) | exact bk_3 (by assumption) | exact bk_4 (by assumption) | exact bk_5 (by assumption) | exact bk_6 (by assumption) | exact bk_7 (by assumption) | exact bk_8 (by assumption) | exact sh_ring _ (by first | assumption | omega) | exact sh_imgs _ (by first | assumption | omega)) (ro_X12_18 (by assumption)) ?_
                       refine v_iconst (v := nI 0) dX12_book_225 (by decide) ?_
                       refine v_aload_0 dX12_book_226 ?_
                       refine u_getR dX12_book_227 gf_X12_26 (by first | assumption | rfl | exact led_1 (by assumption) | exact led_2 (by assumption) | exact bk_m (by assumption) (by first | assumption | omega) | exact bk_p (by assumption) (by first | assumption | omega) | exact bk_o (by assumption) (by first | assumption | omega) | exact bk_s (by assumption) (by first | assumption | omega) | exact bk_1 (by assumption) | exact bk_2 (by assumption) | exact bk_3 (by assumption) | exact bk_4 (by assumption) | exact bk_5 (by assumption) | exact bk_6 (by assumption) | exact bk_7 (by assumption) | exact bk_8 (by assumption) | exact sh_ring _ (by first | assumption | omega) | exact sh_imgs _ (by first | assumption | omega)) (ro_X12_17 (by assumption)) ?_
                       refine v_iconst (v := nI 0) dX12_book_230 (by decide) ?_
                       refine v_bipush (v := nI 87) dX12_book_231 (by decide) ?_
                       refine u_callS_5 dX12_book_233 ml_X12_182 ms_X12_copy (by decide) (Nat.le_of_ble_eq_true rfl) (c_X12_copy (i0 := 0) (j0 := 0) (m := 87) rfl rfl (by decide) (by decide) (by decide) (by decide) (by decide) (fun J7 d1 d2 => ?_))
                       refine v_aload_0 dX12_book_236 ?_
                       refine v_iconst (v := nI 1) dX12_book_237 (by decide) ?_
                       refine u_putI dX12_book_238 gf_X12_186 (by first | assumption | rfl | exact led_1 (by assumption) | exact led_2 (by assumption) | exact bk_m (by assumption) (by first | assumption | omega) | exact bk_p (by assumption) (by first | assumption | omega) | exact bk_o (by assumption) (by first | assumption | omega) | exact bk_s (by assumption) (by first | assumption | omega) | exact bk_1 (by assumption) | exact bk_2 (by assumption) | exact bk_3 (by assumption) | exact bk_4 (by assumption) | exact bk_5 (by assumption) | exact bk_6 (by assumption) | exact bk_7 (by assumption) | exact bk_8 (by assumption) | exact sh_ring _ (by first | assumption | omega) | exact sh_imgs _ (by first | assumption | omega)) (by first | rfl | exact bI_n _) rfl rfl ?_
                       refine v_aload_0 dX12_book_241 ?_
                       refine v_iconst (v := nI 0) dX12_book_242 (by decide) ?_
                       refine u_putI dX12_book_243 gf_X12_189 (by first | assumption | rfl | exact led_1 (by assumption) | exact led_2 (by assumption) | exact bk_m (by assumption) (by first | assumption | omega) | exact bk_p (by assumption) (by first | assumption | omega) | exact bk_o (by assumption) (by first | assumption | omega) | exact bk_s (by assumption) (by first | assumption | omega) | exact bk_1 (by assumption) | exact bk_2 (by assumption) | exact bk_3 (by assumption) | exact bk_4 (by assumption) | exact bk_5 (by assumption) | exact bk_6 (by assumption) | exact bk_7 (by assumption) | exact bk_8 (by assumption) | exact sh_ring _ (by first | assumption | omega) | exact sh_imgs _ (by first | assumption | omega)) rfl rfl rfl ?_
                       refine v_aload_0 dX12_book_246 ?_
                       refine v_iconst (v := nI 0) dX12_book_247 (by decide) ?_
                       refine u_putI dX12_book_248 gf_X12_192 (by first | assumption | rfl | exact led_1 (by assumption) | exact led_2 (by assumption) | exact bk_m (by assumption) (by first | assumption | omega) | exact bk_p (by assumption) (by first | assumption | omega) | exact bk_o (by assumption) (by first | assumption | omega) | exact bk_s (by assumption) (by first | assumption | omega) | exact bk_1 (by assumption) | exact bk_2 (by assumption) | exact bk_3 (by assumption) | exact bk_4 (by assumption) | exact bk_5 (by assumption) | exact bk_6 (by assumption) | exact bk_7 (by assumption) | exact bk_8 (by assumption) | exact sh_ring _ (by first | assumption | omega) | exact sh_imgs _ (by first | assumption | omega)) rfl rfl rfl ?_
                       refine v_aload_0 dX12_book_251 ?_
                       refine v_iconst (v := nI 0) dX12_book_252 (by decide) ?_
                       refine u_putI dX12_book_253 gf_X12_195 (by first | assumption | rfl | exact led_1 (by assumption) | exact led_2 (by assumption) | exact bk_m (by assumption) (by first | assumption | omega) | exact bk_p (by assumption) (by first | assumption | omega) | exact bk_o (by assumption) (by first | assumption | omega) | exact bk_s (by assumption) (by first | assumption | omega) | exact bk_1 (by assumption) | exact bk_2 (by assumption) | exact bk_3 (by assumption) | exact bk_4 (by assumption) | exact bk_5 (by assumption) | exact bk_6 (by assumption) | exact bk_7 (by assumption) | exact bk_8 (by assumption) | exact sh_ring _ (by first | assumption | omega) | exact sh_imgs _ (by first | assumption | omega)) rfl rfl rfl ?_
                       refine v_aload_0 dX12_book_256 ?_
                       refine u_getR dX12_book_257 gf_X12_20 (by first | assumption | rfl | exact led_1 (by assumption) | exact led_2 (by assumption) | exact bk_m (by assumption) (by first | assumption | omega) | exact bk_p (by assumption) (by first | assumption | omega) | exact bk_o (by assumption) (by first | assumption | omega) | exact bk_s (by assumption) (by first | assumption | omega) | exact bk_1 (by assumption) | exact bk_2 (by assumption) | exact bk_3 (by assumption) | exact bk_4 (by assumption) | exact bk_5 (by assumption) | exact bk_6 (by assumption) | exact bk_7 (by assumption) | exact bk_8 (by assumption) | exact sh_ring _ (by first | assumption | omega) | exact sh_imgs _ (by first | assumption | omega)) (ro_X12_15 (by assumption)) ?_
                       refine v_iconst (v := nI 2) dX12_book_260 (by decide) ?_
                       refine u_iald dX12_book_261 (by first | assumption | rfl | exact led_1 (by assumption) | exact led_2 (by assumption) | exact bk_m (by assumption) (by first | assumption | omega) | exact bk_p (by assumption) (by first | assumption | omega) | exact bk_o (by assumption) (by first | assumption | omega) | exact bk_s (by assumption) (by first | assumption | omega) | exact bk_1 (by assumption) | exact bk_2 (by assumption) | exact bk_3 (by assumption) | exact bk_4 (by assumption) | exact bk_5 (by assumption) | exact bk_6 (by assumption) | exact bk_7 (by assumption) | exact bk_8 (by assumption) | exact sh_ring _ (by first | assumption | omega) | exact sh_imgs _ (by first | assumption | omega)) (by first | with_reducible rfl | (simp only [nlit, nI_add, pk_mul]; with_reducible rfl) | rfl) (by first | assumption | omega) (by first | assumption | decide) ?_
                       refine v_iret dX12_book_262 rfl rfl rfl rfl ?_
                       have b1 := hL.2.2.2.2.1
                       have hSN := hL.2.2.2.2.2
                       have hK2' := jk.2 2 (by decide)
                       have cp : ∀ k, k < 345 → J6 160 k = J 161 k := fun k hk => by rw [c1 k, if_pos (by omega)]; congr 1; omega
                       have e7 : ∀ x, x ≠ 160 → x ≠ 162 → J7 x = J x := fun x a1 a2 => by rw [d2 x a2, c2 x a1]
                       have e160 : J7 160 = J6 160 := d2 160 (by decide)
                       have st : ∀ k, k < 87 → J7 162 k = J 163 k := fun k hk => by rw [d1 k, if_pos (by omega), c2 163 (by decide)]; congr 1; omega
                       rw [show ui (ui (ui (ui J7 157 14 (nI 1)) 157 23 (nI 0)) 157 24 (nI 0)) 157 25 (nI 0) 160 2 = nI (s.2.1 2) by rw [ui_ne (by decide), ui_ne (by decide), ui_ne (by decide), ui_ne (by decide), e160, cp 2 (by decide)]; exact g2.1]
                       refine hv _ _ (rf_bkS ?_ ?_ ?_ (fun k hk => ?_) ?_ (by omega) hI.2.1 ?_ hI.2.2.2.2.2.1 ?_ ?_ ?_) (fun x hx => ?_) (fun _ _ => rfl)
                       · rw [ui_o (by decide), ui_o (by decide), ui_o (by decide), ui_o (by decide), e7 157 (by decide) (by decide), hK2']; exact hK2
                       · rw [ui_o (by decide), ui_o (by decide), ui_o (by decide), ui_o (by decide), e7 157 (by decide) (by decide), jk.2 11 (by decide)]; exact hK11
                       · rw [ui_o (by decide), ui_o (by decide), ui_o (by decide), ui_o (by decide), e7 157 (by decide) (by decide)]; exact hL.1.1.2
                       · rw [ui_ne (by decide), ui_ne (by decide), ui_ne (by decide), ui_ne (by decide), e160, cp k (by omega)]; exact (b1 k (by omega)).1
                       · rw [ui_o (by decide), ui_o (by decide), ui_o (by decide), ui_s]
                       · have hn20 := hI.2.2.2.2.2.1.1
                         refine ⟨?_, fun i hi => ?_, fun p hp => ?_⟩
                         · rw [ui_ne (by decide), ui_ne (by decide), ui_ne (by decide), ui_ne (by decide), st 0 (by decide)]; exact hSN.1
                         · have hi2 : i < s.2.2.1 := hi
                           rw [ui_ne (by decide), ui_ne (by decide), ui_ne (by decide), ui_ne (by decide), st _ (by omega), st _ (by omega), st _ (by omega), st _ (by omega)]
                           exact hSN.2.1 i hi
                         · rw [ui_ne (by decide), ui_ne (by decide), ui_ne (by decide), ui_ne (by decide), st _ (by omega)]; exact hSN.2.2 p hp
                       · rw [ui_o (by decide), ui_o (by decide), ui_s]
                       · rw [ui_o (by decide), ui_s]
                       · exact ui_s _ _ _ _
                       · rw [ui_ne (by omega), ui_ne (by omega), ui_ne (by omega), ui_ne (by omega), e7 x (by omega) (by omega), jk.1 x (by omega) (by omega) (by omega) (by omega)]; exact hKx x (by omega) (by omega) (by omega)
                     · exact absurd rfl hc196
                   · (first | rw [bI_0, Bool.not_eq_false] at hc179 | rw [bI_0] at hc179 | rw [show (0 : Int32) = nI 0 from rfl, nI_eq (by omega) (by omega)] at hc179 | skip)
                     refine v_aload_0 dX12_book_182 ?_
                     refine v_bipush (v := nI 6) dX12_book_183 (by decide) ?_
                     refine v_aload_0 dX12_book_185 ?_
                     refine u_getI dX12_book_186 gf_X12_73 (by first | assumption | rfl | exact led_1 (by assumption) | exact led_2 (by assumption) | exact bk_m (by assumption) (by first | assumption | omega) | exact bk_p (by assumption) (by first | assumption | omega) | exact bk_o (by assumption) (by first | assumption | omega) | exact bk_s (by assumption) (by first | assumption | omega) | exact bk_1 (by assumption) | exact bk_2 (by assumption) | exact bk_3 (by assumption) | exact bk_4 (by assumption) | exact bk_5 (by assumption) | exact bk_6 (by assumption) | exact bk_7 (by assumption) | exact bk_8 (by assumption) | exact sh_ring _ (by first | assumption | omega) | exact sh_imgs _ (by first | assumption | omega)) ?_
                     rw [t4]
                     refine u_callV_2 dX12_book_189 ml_X12_119 mv_X12_wrong (by first | assumption | rfl | exact led_1 (by assumption) | exact led_2 (by assumption) | exact bk_m (by assumption) (by first | assumption | omega) | exact bk_p (by assumption) (by first | assumption | omega) | exact bk_o (by assumption) (by first | assumption | omega) | exact bk_s (by assumption) (by first | assumption | omega) | exact bk_1 (by assumption) | exact bk_2 (by assumption) | exact bk_3 (by assumption) | exact bk_4 (by assumption) | exact bk_5 (by assumption) | exact bk_6 (by assumption) | exact bk_7 (by assumption) | exact bk_8 (by assumption) | exact sh_ring _ (by first | assumption | omega) | exact sh_imgs _ (by first | assumption | omega)) (by decide) rfl (by decide) (Nat.le_of_ble_eq_true rfl) (c_X12_wrong h13 ?_)
                     exact tailF _ 6 _ wrong_fl.1 (jk.trans wrong_fl.2.k) (by rw [q, if_pos hc136, if_pos (by first | exact Or.inl hc161 | exact Or.inr (Or.inl hc170) | exact Or.inr (Or.inr hc179))]))
      · (first | rw [bI_0, Bool.not_eq_false] at hc136 | rw [bI_0] at hc136 | rw [show (0 : Int32) = nI 0 from rfl, nI_eq (by omega) (by omega)] at hc136 | skip)
        refine v_aload_0 dX12_book_139 ?_
        refine v_iconst (v := nI 1) dX12_book_140 (by decide) ?_
        refine v_aload_0 dX12_book_141 ?_
        refine u_getI dX12_book_142 gf_X12_73 (by first | assumption | rfl | exact led_1 (by assumption) | exact led_2 (by assumption) | exact bk_m (by assumption) (by first | assumption | omega) | exact bk_p (by assumption) (by first | assumption | omega) | exact bk_o (by assumption) (by first | assumption | omega) | exact bk_s (by assumption) (by first | assumption | omega) | exact bk_1 (by assumption) | exact bk_2 (by assumption) | exact bk_3 (by assumption) | exact bk_4 (by assumption) | exact bk_5 (by assumption) | exact bk_6 (by assumption) | exact bk_7 (by assumption) | exact bk_8 (by assumption) | exact sh_ring _ (by first | assumption | omega) | exact sh_imgs _ (by first | assumption | omega)) ?_
        rw [t4]
        refine u_callV_2 dX12_book_145 ml_X12_119 mv_X12_wrong (by first | assumption | rfl | exact led_1 (by assumption) | exact led_2 (by assumption) | exact bk_m (by assumption) (by first | assumption | omega) | exact bk_p (by assumption) (by first | assumption | omega) | exact bk_o (by assumption) (by first | assumption | omega) | exact bk_s (by assumption) (by first | assumption | omega) | exact bk_1 (by assumption) | exact bk_2 (by assumption) | exact bk_3 (by assumption) | exact bk_4 (by assumption) | exact bk_5 (by assumption) | exact bk_6 (by assumption) | exact bk_7 (by assumption) | exact bk_8 (by assumption) | exact sh_ring _ (by first | assumption | omega) | exact sh_imgs _ (by first | assumption | omega)) (by decide) rfl (by decide) (Nat.le_of_ble_eq_true rfl) (c_X12_wrong h13 ?_)
        first
          | exact tailF148 _ 1 _ wrong_fl.1 (jk.trans wrong_fl.2.k) (by rw [q, if_neg hc136])
          | (refine v_aload_0 dX12_book_148 ?_
             refine u_getI dX12_book_149 gf_X12_92 (by first | assumption | rfl | exact led_1 (by assumption) | exact led_2 (by assumption) | exact bk_m (by assumption) (by first | assumption | omega) | exact bk_p (by assumption) (by first | assumption | omega) | exact bk_o (by assumption) (by first | assumption | omega) | exact bk_s (by assumption) (by first | assumption | omega) | exact bk_1 (by assumption) | exact bk_2 (by assumption) | exact bk_3 (by assumption) | exact bk_4 (by assumption) | exact bk_5 (by assumption) | exact bk_6 (by assumption) | exact bk_7 (by assumption) | exact bk_8 (by assumption) | exact sh_ring _ (by first | assumption | omega) | exact sh_imgs _ (by first | assumption | omega)) ?_
             rw [h13]
             refine v_if_ne (tgt := 192) dX12_book_152 (by decide) (fun hc152 => ?_) (fun hc152 => ?_)
             · exact absurd rfl hc152
             · (first | rw [bI_0, Bool.not_eq_false] at hc152 | rw [bI_0] at hc152 | rw [show (0 : Int32) = nI 0 from rfl, nI_eq (by omega) (by omega)] at hc152 | skip)
               refine v_aload_0 dX12_book_155 ?_
               refine u_getR dX12_book_156 gf_X12_23 (by first | assumption | rfl | exact led_1 (by assumption) | exact led_2 (by assumption) | exact bk_m (by assumption) (by first | assumption | omega) | exact bk_p (by assumption) (by first | assumption | omega) | exact bk_o (by assumption) (by first | assumption | omega) | exact bk_s (by assumption) (by first | assumption | omega) | exact bk_1 (by assumption) | exact bk_2 (by assumption) | exact bk_3 (by assumption) | exact bk_4 (by assumption) | exact bk_5 (by assumption) | exact bk_6 (by assumption) | exact bk_7 (by assumption) | exact bk_8 (by assumption) | exact sh_ring _ (by first | assumption | omega) | exact sh_imgs _ (by first | assumption | omega)) (ro_X12_16 (by assumption)) ?_
               refine v_iconst (v := nI 0) dX12_book_159 (by decide) ?_
               refine u_iald dX12_book_160 (by first | assumption | rfl | exact led_1 (by assumption) | exact led_2 (by assumption) | exact bk_m (by assumption) (by first | assumption | omega) | exact bk_p (by assumption) (by first | assumption | omega) | exact bk_o (by assumption) (by first | assumption | omega) | exact bk_s (by assumption) (by first | assumption | omega) | exact bk_1 (by assumption) | exact bk_2 (by assumption) | exact bk_3 (by assumption) | exact bk_4 (by assumption) | exact bk_5 (by assumption) | exact bk_6 (by assumption) | exact bk_7 (by assumption) | exact bk_8 (by assumption) | exact sh_ring _ (by first | assumption | omega) | exact sh_imgs _ (by first | assumption | omega)) (by first | with_reducible rfl | (simp only [nlit, nI_add, pk_mul]; with_reducible rfl) | rfl) (by first | assumption | omega) (by first | assumption | decide) ?_
               rw [g0.1]
               refine v_if_eq (tgt := 182) dX12_book_161 (by decide) (fun hc161 => ?_) (fun hc161 => ?_)
               · (first | rw [bI_0, Bool.not_eq_false] at hc161 | rw [bI_0] at hc161 | rw [show (0 : Int32) = nI 0 from rfl, nI_eq (by omega) (by omega)] at hc161 | skip)
                 refine v_aload_0 dX12_book_182 ?_
                 refine v_bipush (v := nI 6) dX12_book_183 (by decide) ?_
                 refine v_aload_0 dX12_book_185 ?_
                 refine u_getI dX12_book_186 gf_X12_73 (by first | assumption | rfl | exact led_1 (by assumption) | exact led_2 (by assumption) | exact bk_m (by assumption) (by first | assumption | omega) | exact bk_p (by assumption) (by first | assumption | omega) | exact bk_o (by assumption) (by first | assumption | omega) | exact bk_s (by assumption) (by first | assumption | omega) | exact bk_1 (by assumption) | exact bk_2 (by assumption) | exact bk_3 (by assumption) | exact bk_4 (by assumption) | exact bk_5 (by assumption) | exact bk_6 (by assumption) | exact bk_7 (by assumption) | exact bk_8 (by assumption) | exact sh_ring _ (by first | assumption | omega) | exact sh_imgs _ (by first | assumption | omega)) ?_
                 rw [t4]
                 refine u_callV_2 dX12_book_189 ml_X12_119 mv_X12_wrong (by first | assumption | rfl | exact led_1 (by assumption) | exact led_2 (by assumption) | exact bk_m (by assumption) (by first | assumption | omega) | exact bk_p (by assumption) (by first | assumption | omega) | exact bk_o (by assumption) (by first | assumption | omega) | exact bk_s (by assumption) (by first | assumption | omega) | exact bk_1 (by assumption) | exact bk_2 (by assumption) | exact bk_3 (by assumption) | exact bk_4 (by assumption) | exact bk_5 (by assumption) | exact bk_6 (by assumption) | exact bk_7 (by assumption) | exact bk_8 (by assumption) | exact sh_ring _ (by first | assumption | omega) | exact sh_imgs _ (by first | assumption | omega)) (by decide) rfl (by decide) (Nat.le_of_ble_eq_true rfl) (c_X12_wrong h13 ?_)
                 exact tailF _ 6 _ wrong_fl.1 (jk.trans wrong_fl.2.k) (by rw [q, if_pos hc136, if_pos (by first | exact Or.inl hc161 | exact Or.inr (Or.inl hc170) | exact Or.inr (Or.inr hc179))])
               · (first | rw [bI_0, Bool.not_eq_false] at hc161 | rw [bI_0] at hc161 | rw [show (0 : Int32) = nI 0 from rfl, nI_eq (by omega) (by omega)] at hc161 | skip)
                 refine v_aload_0 dX12_book_164 ?_
                 refine u_getR dX12_book_165 gf_X12_23 (by first | assumption | rfl | exact led_1 (by assumption) | exact led_2 (by assumption) | exact bk_m (by assumption) (by first | assumption | omega) | exact bk_p (by assumption) (by first | assumption | omega) | exact bk_o (by assumption) (by first | assumption | omega) | exact bk_s (by assumption) (by first | assumption | omega) | exact bk_1 (by assumption) | exact bk_2 (by assumption) | exact bk_3 (by assumption) | exact bk_4 (by assumption) | exact bk_5 (by assumption) | exact bk_6 (by assumption) | exact bk_7 (by assumption) | exact bk_8 (by assumption) | exact sh_ring _ (by first | assumption | omega) | exact sh_imgs _ (by first | assumption | omega)) (ro_X12_16 (by assumption)) ?_
                 refine v_iconst (v := nI 2) dX12_book_168 (by decide) ?_
                 refine u_iald dX12_book_169 (by first | assumption | rfl | exact led_1 (by assumption) | exact led_2 (by assumption) | exact bk_m (by assumption) (by first | assumption | omega) | exact bk_p (by assumption) (by first | assumption | omega) | exact bk_o (by assumption) (by first | assumption | omega) | exact bk_s (by assumption) (by first | assumption | omega) | exact bk_1 (by assumption) | exact bk_2 (by assumption) | exact bk_3 (by assumption) | exact bk_4 (by assumption) | exact bk_5 (by assumption) | exact bk_6 (by assumption) | exact bk_7 (by assumption) | exact bk_8 (by assumption) | exact sh_ring _ (by first | assumption | omega) | exact sh_imgs _ (by first | assumption | omega)) (by first | with_reducible rfl | (simp only [nlit, nI_add, pk_mul]; with_reducible rfl) | rfl) (by first | assumption | omega) (by first | assumption | decide) ?_
                 rw [g2.1]
                 refine v_if_eq (tgt := 182) dX12_book_170 (by decide) (fun hc170 => ?_) (fun hc170 => ?_)
                 · (first | rw [bI_0, Bool.not_eq_false] at hc170 | rw [bI_0] at hc170 | rw [show (0 : Int32) = nI 0 from rfl, nI_eq (by omega) (by omega)] at hc170 | skip)
                   refine v_aload_0 dX12_book_182 ?_
                   refine v_bipush (v := nI 6) dX12_book_183 (by decide) ?_
                   refine v_aload_0 dX12_book_185 ?_
                   refine u_getI dX12_book_186 gf_X12_73 (by first | assumption | rfl | exact led_1 (by assumption) | exact led_2 (by assumption) | exact bk_m (by assumption) (by first | assumption | omega) | exact bk_p (by assumption) (by first | assumption | omega) | exact bk_o (by assumption) (by first | assumption | omega) | exact bk_s (by assumption) (by first | assumption | omega) | exact bk_1 (by assumption) | exact bk_2 (by assumption) | exact bk_3 (by assumption) | exact bk_4 (by assumption) | exact bk_5 (by assumption) | exact bk_6 (by assumption) | exact bk_7 (by assumption) | exact bk_8 (by assumption) | exact sh_ring _ (by first | assumption | omega) | exact sh_imgs _ (by first | assumption | omega)) ?_
                   rw [t4]
                   refine u_callV_2 dX12_book_189 ml_X12_119 mv_X12_wrong (by first | assumption | rfl | exact led_1 (by assumption) | exact led_2 (by assumption) | exact bk_m (by assumption) (by first | assumption | omega) | exact bk_p (by assumption) (by first | assumption | omega) | exact bk_o (by assumption) (by first | assumption | omega) | exact bk_s (by assumption) (by first | assumption | omega) | exact bk_1 (by assumption) | exact bk_2 (by assumption) | exact bk_3 (by assumption) | exact bk_4 (by assumption) | exact bk_5 (by assumption) | exact bk_6 (by assumption) | exact bk_7 (by assumption) | exact bk_8 (by assumption) | exact sh_ring _ (by first | assumption | omega) | exact sh_imgs _ (by first | assumption | omega)) (by decide) rfl (by decide) (Nat.le_of_ble_eq_true rfl) (c_X12_wrong h13 ?_)
                   exact tailF _ 6 _ wrong_fl.1 (jk.trans wrong_fl.2.k) (by rw [q, if_pos hc136, if_pos (by first | exact Or.inl hc161 | exact Or.inr (Or.inl hc170) | exact Or.inr (Or.inr hc179))])
                 · (first | rw [bI_0, Bool.not_eq_false] at hc170 | rw [bI_0] at hc170 | rw [show (0 : Int32) = nI 0 from rfl, nI_eq (by omega) (by omega)] at hc170 | skip)
                   refine v_aload_0 dX12_book_173 ?_
                   refine u_getR dX12_book_174 gf_X12_23 (by first | assumption | rfl | exact led_1 (by assumption) | exact led_2 (by assumption) | exact bk_m (by assumption) (by first | assumption | omega) | exact bk_p (by assumption) (by first | assumption | omega) | exact bk_o (by assumption) (by first | assumption | omega) | exact bk_s (by assumption) (by first | assumption | omega) | exact bk_1 (by assumption) | exact bk_2 (by assumption) | exact bk_3 (by assumption) | exact bk_4 (by assumption) | exact bk_5 (by assumption) | exact bk_6 (by assumption) | exact bk_7 (by assumption) | exact bk_8 (by assumption) | exact sh_ring _ (by first | assumption | omega) | exact sh_imgs _ (by first | assumption | omega)) (ro_X12_16 (by assumption)) ?_
                   refine v_iconst (v := nI 3) dX12_book_177 (by decide) ?_
                   refine u_iald dX12_book_178 (by first | assumption | rfl | exact led_1 (by assumption) | exact led_2 (by assumption) | exact bk_m (by assumption) (by first | assumption | omega) | exact bk_p (by assumption) (by first | assumption | omega) | exact bk_o (by assumption) (by first | assumption | omega) | exact bk_s (by assumption) (by first | assumption | omega) | exact bk_1 (by assumption) | exact bk_2 (by assumption) | exact bk_3 (by assumption) | exact bk_4 (by assumption) | exact bk_5 (by assumption) | exact bk_6 (by assumption) | exact bk_7 (by assumption) | exact bk_8 (by assumption) | exact sh_ring _ (by first | assumption | omega) | exact sh_imgs _ (by first | assumption | omega)) (by first | with_reducible rfl | (simp only [nlit, nI_add, pk_mul]; with_reducible rfl) | rfl) (by first | assumption | omega) (by first | assumption | decide) ?_
                   rw [g3.1]
                   refine v_if_ne (tgt := 192) dX12_book_179 (by decide) (fun hc179 => ?_) (fun hc179 => ?_)
                   · (first | rw [bI_0, Bool.not_eq_false] at hc179 | rw [bI_0] at hc179 | rw [show (0 : Int32) = nI 0 from rfl, nI_eq (by omega) (by omega)] at hc179 | skip)
                     rw [if_pos hc136, if_neg (by omega)] at q
                     have hv := hQ1 s q
                     refine v_aload_0 dX12_book_192 ?_
                     refine u_getI dX12_book_193 gf_X12_92 (by first | assumption | rfl | exact led_1 (by assumption) | exact led_2 (by assumption) | exact bk_m (by assumption) (by first | assumption | omega) | exact bk_p (by assumption) (by first | assumption | omega) | exact bk_o (by assumption) (by first | assumption | omega) | exact bk_s (by assumption) (by first | assumption | omega) | exact bk_1 (by assumption) | exact bk_2 (by assumption) | exact bk_3 (by assumption) | exact bk_4 (by assumption) | exact bk_5 (by assumption) | exact bk_6 (by assumption) | exact bk_7 (by assumption) | exact bk_8 (by assumption) | exact sh_ring _ (by first | assumption | omega) | exact sh_imgs _ (by first | assumption | omega)) ?_
                     rw [h13]
                     refine v_if_eq (tgt := 205) dX12_book_196 (by decide) (fun hc196 => ?_) (fun hc196 => ?_)
                     · (first | rw [bI_0, Bool.not_eq_false] at hc196 | rw [bI_0] at hc196 | rw [show (0 : Int32) = nI 0 from rfl, nI_eq (by omega) (by omega)] at hc196 | skip)
                       refine v_aload_0 dX12_book_205 ?_
                       refine u_getR dX12_book_206 gf_X12_23 (by first | assumption | rfl | exact led_1 (by assumption) | exact led_2 (by assumption) | exact bk_m (by assumption) (by first | assumption | omega) | exact bk_p (by assumption) (by first | assumption | omega) | exact bk_o (by assumption) (by first | assumption | omega) | exact bk_s (by assumption) (by first | assumption | omega) | exact bk_1 (by assumption) | exact bk_2 (by assumption) | exact bk_3 (by assumption) | exact bk_4 (by assumption) | exact bk_5 (by assumption) | exact bk_6 (by assumption) | exact bk_7 (by assumption) | exact bk_8 (by assumption) | exact sh_ring _ (by first | assumption | omega) | exact sh_imgs _ (by first | assumption | omega)) (ro_X12_16 (by assumption)) ?_
                       refine v_iconst (v := nI 0) dX12_book_209 (by decide) ?_
                       refine v_aload_0 dX12_book_210 ?_
                       refine u_getR dX12_book_211 gf_X12_20 (by first | assumption | rfl | exact led_1 (by assumption) | exact led_2 (by assumption) | exact bk_m (by assumption) (by first | assumption | omega) | exact bk_p (by assumption) (by first | assumption | omega) | exact bk_o (by assumption) (by first | assumption | omega) | exact bk_s (by assumption) (by first | assumption | omega) | exact bk_1 (by assumption) | exact bk_2 (by assumption) | exact bk_3 (by assumption) | exact bk_4 (by assumption) | exact bk_5 (by assumption) | exact bk_6 (by assumption) | exact bk_7 (by assumption) | exact bk_8 (by assumption) | exact sh_ring _ (by first | assumption | omega) | exact sh_imgs _ (by first | assumption | omega)) (ro_X12_15 (by assumption)) ?_
                       refine v_iconst (v := nI 0) dX12_book_214 (by decide) ?_
                       refine v_sipush (v := nI 345) dX12_book_215 (by decide) ?_
                       refine u_callS_5 dX12_book_218 ml_X12_182 ms_X12_copy (by decide) (Nat.le_of_ble_eq_true rfl) (c_X12_copy (i0 := 0) (j0 := 0) (m := 345) rfl rfl (by decide) (by decide) (by decide) (by decide) (by decide) (fun J6 c1 c2 => ?_))
                       refine v_aload_0 dX12_book_221 ?_
                       refine u_getR dX12_book_222 gf_X12_29 (by first | assumption | rfl | exact led_1 (by assumption) | exact led_2 (by assumption) | exact bk_m (by assumption) (by first | assumption | omega) | exact bk_p (by assumption) (by first | assumption | omega) | exact bk_o (by assumption) (by first | assumption | omega) | exact bk_s (by assumption) (by first | assumption | omega) | exact bk_1 (by assumption) | exact bk_2 (by assumption) | exact bk_3 (by assumption) | exact bk_4 (by assumption) | exact bk_5 (by assumption) | exact bk_6 (by assumption) | exact bk_7 (by assumption) | exact bk_8 (by assumption) | exact sh_ring _ (by first | assumption | omega) | exact sh_imgs _ (by first | assumption | omega)) (ro_X12_18 (by assumption)) ?_
                       refine v_iconst (v := nI 0) dX12_book_225 (by decide) ?_
                       refine v_aload_0 dX12_book_226 ?_
                       refine u_getR dX12_book_227 gf_X12_26 (by first | assumption | rfl | exact led_1 (by assumption) | exact led_2 (by assumption) | exact bk_m (by assumption) (by first | assumption | omega) | exact bk_p (by assumption) (by first | assumption | omega) | exact bk_o (by assumption) (by first | assumption | omega) | exact bk_s (by assumption) (by first | assumption | omega) | exact bk_1 (by assumption) | exact bk_2 (by assumption) | exact bk_3 (by assumption) | exact bk_4 (by assumption) | exact bk_5 (by assumption) | exact bk_6 (by assumption) | exact bk_7 (by assumption) | exact bk_8 (by assumption) | exact sh_ring _ (by first | assumption | omega) | exact sh_imgs _ (by first | assumption | omega)) (ro_X12_17 (by assumption)) ?_
                       refine v_iconst (v := nI 0) dX12_book_230 (by decide) ?_
                       refine v_bipush (v := nI 87) dX12_book_231 (by decide) ?_
                       refine u_callS_5 dX12_book_233 ml_X12_182 ms_X12_copy (by decide) (Nat.le_of_ble_eq_true rfl) (c_X12_copy (i0 := 0) (j0 := 0) (m := 87) rfl rfl (by decide) (by decide) (by decide) (by decide) (by decide) (fun J7 d1 d2 => ?_))
                       refine v_aload_0 dX12_book_236 ?_
                       refine v_iconst (v := nI 1) dX12_book_237 (by decide) ?_
                       refine u_putI dX12_book_238 gf_X12_186 (by first | assumption | rfl | exact led_1 (by assumption) | exact led_2 (by assumption) | exact bk_m (by assumption) (by first | assumption | omega) | exact bk_p (by assumption) (by first | assumption | omega) | exact bk_o (by assumption) (by first | assumption | omega) | exact bk_s (by assumption) (by first | assumption | omega) | exact bk_1 (by assumption) | exact bk_2 (by assumption) | exact bk_3 (by assumption) | exact bk_4 (by assumption) | exact bk_5 (by assumption) | exact bk_6 (by assumption) | exact bk_7 (by assumption) | exact bk_8 (by assumption) | exact sh_ring _ (by first | assumption | omega) | exact sh_imgs _ (by first | assumption | omega)) (by first | rfl | exact bI_n _) rfl rfl ?_
                       refine v_aload_0 dX12_book_241 ?_
                       refine v_iconst (v := nI 0) dX12_book_242 (by decide) ?_
                       refine u_putI dX12_book_243 gf_X12_189 (by first | assumption | rfl | exact led_1 (by assumption) | exact led_2 (by assumption) | exact bk_m (by assumption) (by first | assumption | omega) | exact bk_p (by assumption) (by first | assumption | omega) | exact bk_o (by assumption) (by first | assumption | omega) | exact bk_s (by assumption) (by first | assumption | omega) | exact bk_1 (by assumption) | exact bk_2 (by assumption) | exact bk_3 (by assumption) | exact bk_4 (by assumption) | exact bk_5 (by assumption) | exact bk_6 (by assumption) | exact bk_7 (by assumption) | exact bk_8 (by assumption) | exact sh_ring _ (by first | assumption | omega) | exact sh_imgs _ (by first | assumption | omega)) rfl rfl rfl ?_
                       refine v_aload_0 dX12_book_246 ?_
                       refine v_iconst (v := nI 0) dX12_book_247 (by decide) ?_
                       refine u_putI dX12_book_248 gf_X12_192 (by first | assumption | rfl | exact led_1 (by assumption) | exact led_2 (by assumption) | exact bk_m (by assumption) (by first | assumption | omega) | exact bk_p (by assumption) (by first | assumption | omega) | exact bk_o (by assumption) (by first | assumption | omega) | exact bk_s (by assumption) (by first | assumption | omega) | exact bk_1 (by assumption) | exact bk_2 (by assumption) | exact bk_3 (by assumption) | exact bk_4 (by assumption) | exact bk_5 (by assumption) | exact bk_6 (by assumption) | exact bk_7 (by assumption) | exact bk_8 (by assumption) | exact sh_ring _ (by first | assumption | omega) | exact sh_imgs _ (by first | assumption | omega)) rfl rfl rfl ?_
                       refine v_aload_0 dX12_book_251 ?_
                       refine v_iconst (v := nI 0) dX12_book_252 (by decide) ?_
                       refine u_putI dX12_book_253 gf_X12_195 (by first | assumption | rfl | exact led_1 (by assumption) | exact led_2 (by assumption) | exact bk_m (by assumption) (by first | assumption | omega) | exact bk_p (by assumption) (by first | assumption | omega) | exact bk_o (by assumption) (by first | assumption | omega) | exact bk_s (by assumption) (by first | assumption | omega) | exact bk_1 (by assumption) | exact bk_2 (by assumption) | exact bk_3 (by assumption) | exact bk_4 (by assumption) | exact bk_5 (by assumption) | exact bk_6 (by assumption) | exact bk_7 (by assumption) | exact bk_8 (by assumption) | exact sh_ring _ (by first | assumption | omega) | exact sh_imgs _ (by first | assumption | omega)) rfl rfl rfl ?_
                       refine v_aload_0 dX12_book_256 ?_
                       refine u_getR dX12_book_257 gf_X12_20 (by first | assumption | rfl | exact led_1 (by assumption) | exact led_2 (by assumption) | exact bk_m (by assumption) (by first | assumption | omega) | exact bk_p (by assumption) (by first | assumption | omega) | exact bk_o (by assumption) (by first | assumption | omega) | exact bk_s (by assumption) (by first | assumption | omega) | exact bk_1 (by assumption) | exact bk_2 (by assumption) | exact bk_3 (by assumption) | exact bk_4 (by assumption) | exact bk_5 (by assumption) | exact bk_6 (by assumption) | exact bk_7 (by assumption) | exact bk_8 (by assumption) | exact sh_ring _ (by first | assumption | omega) | exact sh_imgs _ (by first | assumption | omega)) (ro_X12_15 (by assumption)) ?_
                       refine v_iconst (v := nI 2) dX12_book_260 (by decide) ?_
                       refine u_iald dX12_book_261 (by first | assumption | rfl | exact led_1 (by assumption) | exact led_2 (by assumption) | exact bk_m (by assumption) (by first | assumption | omega) | exact bk_p (by assumption) (by first | assumption | omega) | exact bk_o (by assumption) (by first | assumption | omega) | exact bk_s (by assumption) (by first | assumption | omega) | exact bk_1 (by assumption) | exact bk_2 (by assumption) | exact bk_3 (by assumption) | exact bk_4 (by assumption) | exact bk_5 (by assumption) | exact bk_6 (by assumption) | exact bk_7 (by assumption) | exact bk_8 (by assumption) | exact sh_ring _ (by first | assumption | omega) | exact sh_imgs _ (by first | assumption | omega)) (by first | with_reducible rfl | (simp only [nlit, nI_add, pk_mul]; with_reducible rfl) | rfl) (by first | assumption | omega) (by first | assumption | decide) ?_
                       refine v_iret dX12_book_262 rfl rfl rfl rfl ?_
                       have b1 := hL.2.2.2.2.1
                       have hSN := hL.2.2.2.2.2
                       have hK2' := jk.2 2 (by decide)
                       have cp : ∀ k, k < 345 → J6 160 k = J 161 k := fun k hk => by rw [c1 k, if_pos (by omega)]; congr 1; omega
                       have e7 : ∀ x, x ≠ 160 → x ≠ 162 → J7 x = J x := fun x a1 a2 => by rw [d2 x a2, c2 x a1]
                       have e160 : J7 160 = J6 160 := d2 160 (by decide)
                       have st : ∀ k, k < 87 → J7 162 k = J 163 k := fun k hk => by rw [d1 k, if_pos (by omega), c2 163 (by decide)]; congr 1; omega
                       rw [show ui (ui (ui (ui J7 157 14 (nI 1)) 157 23 (nI 0)) 157 24 (nI 0)) 157 25 (nI 0) 160 2 = nI (s.2.1 2) by rw [ui_ne (by decide), ui_ne (by decide), ui_ne (by decide), ui_ne (by decide), e160, cp 2 (by decide)]; exact g2.1]
                       refine hv _ _ (rf_bkS ?_ ?_ ?_ (fun k hk => ?_) ?_ (by omega) hI.2.1 ?_ hI.2.2.2.2.2.1 ?_ ?_ ?_) (fun x hx => ?_) (fun _ _ => rfl)
                       · rw [ui_o (by decide), ui_o (by decide), ui_o (by decide), ui_o (by decide), e7 157 (by decide) (by decide), hK2']; exact hK2
                       · rw [ui_o (by decide), ui_o (by decide), ui_o (by decide), ui_o (by decide), e7 157 (by decide) (by decide), jk.2 11 (by decide)]; exact hK11
                       · rw [ui_o (by decide), ui_o (by decide), ui_o (by decide), ui_o (by decide), e7 157 (by decide) (by decide)]; exact hL.1.1.2
                       · rw [ui_ne (by decide), ui_ne (by decide), ui_ne (by decide), ui_ne (by decide), e160, cp k (by omega)]; exact (b1 k (by omega)).1
                       · rw [ui_o (by decide), ui_o (by decide), ui_o (by decide), ui_s]
                       · have hn20 := hI.2.2.2.2.2.1.1
                         refine ⟨?_, fun i hi => ?_, fun p hp => ?_⟩
                         · rw [ui_ne (by decide), ui_ne (by decide), ui_ne (by decide), ui_ne (by decide), st 0 (by decide)]; exact hSN.1
                         · have hi2 : i < s.2.2.1 := hi
                           rw [ui_ne (by decide), ui_ne (by decide), ui_ne (by decide), ui_ne (by decide), st _ (by omega), st _ (by omega), st _ (by omega), st _ (by omega)]
                           exact hSN.2.1 i hi
                         · rw [ui_ne (by decide), ui_ne (by decide), ui_ne (by decide), ui_ne (by decide), st _ (by omega)]; exact hSN.2.2 p hp
                       · rw [ui_o (by decide), ui_o (by decide), ui_s]
                       · rw [ui_o (by decide), ui_s]
                       · exact ui_s _ _ _ _
                       · rw [ui_ne (by omega), ui_ne (by omega), ui_ne (by omega), ui_ne (by omega), e7 x (by omega) (by omega), jk.1 x (by omega) (by omega) (by omega) (by omega)]; exact hKx x (by omega) (by omega) (by omega)
                     · exact absurd rfl hc196
                   · (first | rw [bI_0, Bool.not_eq_false] at hc179 | rw [bI_0] at hc179 | rw [show (0 : Int32) = nI 0 from rfl, nI_eq (by omega) (by omega)] at hc179 | skip)
                     refine v_aload_0 dX12_book_182 ?_
                     refine v_bipush (v := nI 6) dX12_book_183 (by decide) ?_
                     refine v_aload_0 dX12_book_185 ?_
                     refine u_getI dX12_book_186 gf_X12_73 (by first | assumption | rfl | exact led_1 (by assumption) | exact led_2 (by assumption) | exact bk_m (by assumption) (by first | assumption | omega) | exact bk_p (by assumption) (by first | assumption | omega) | exact bk_o (by assumption) (by first | assumption | omega) | exact bk_s (by assumption) (by first | assumption | omega) | exact bk_1 (by assumption) | exact bk_2 (by assumption) | exact bk_3 (by assumption) | exact bk_4 (by assumption) | exact bk_5 (by assumption) | exact bk_6 (by assumption) | exact bk_7 (by assumption) | exact bk_8 (by assumption) | exact sh_ring _ (by first | assumption | omega) | exact sh_imgs _ (by first | assumption | omega)) ?_
                     rw [t4]
                     refine u_callV_2 dX12_book_189 ml_X12_119 mv_X12_wrong (by first | assumption | rfl | exact led_1 (by assumption) | exact led_2 (by assumption) | exact bk_m (by assumption) (by first | assumption | omega) | exact bk_p (by assumption) (by first | assumption | omega) | exact bk_o (by assumption) (by first | assumption | omega) | exact bk_s (by assumption) (by first | assumption | omega) | exact bk_1 (by assumption) | exact bk_2 (by assumption) | exact bk_3 (by assumption) | exact bk_4 (by assumption) | exact bk_5 (by assumption) | exact bk_6 (by assumption) | exact bk_7 (by assumption) | exact bk_8 (by assumption) | exact sh_ring _ (by first | assumption | omega) | exact sh_imgs _ (by first | assumption | omega)) (by decide) rfl (by decide) (Nat.le_of_ble_eq_true rfl) (c_X12_wrong h13 ?_)
                     exact tailF _ 6 _ wrong_fl.1 (jk.trans wrong_fl.2.k) (by rw [q, if_pos hc136, if_pos (by first | exact Or.inl hc161 | exact Or.inr (Or.inl hc170) | exact Or.inr (Or.inr hc179))]))
  have loop : ∀ (m : Nat) (s : PS) (J : HI), PInv n s → n ≤ m + s.1 → LvM J tp n s.1 s.2.1 s.2.2 → FrK K J → (if tK tp n s.1 = 59 then lns tp n m (nx tp n s) else .inr s) = lns tp n n ps0 → VV yX12_book cX12_book 3 (some .int) 11 Q b ad 98 [some (.ref (b + 157)), some (.int (nI n)), x2] [] J L R := by
    intro m
    induction m with
    | zero =>
      intro s J hI hm hL jk he
      have h13 := hL.2.2.1
      have t6 := hL.2.2.2.1.2.2.1
      have hk9 : tK tp n s.1 < 60 := by unfold tK; (repeat' split) <;> omega
      refine v_aload_0 dX12_book_98 ?_
      refine u_getI dX12_book_99 gf_X12_92 (by first | assumption | rfl | exact led_1 (by assumption) | exact led_2 (by assumption) | exact bk_m (by assumption) (by first | assumption | omega) | exact bk_p (by assumption) (by first | assumption | omega) | exact bk_o (by assumption) (by first | assumption | omega) | exact bk_s (by assumption) (by first | assumption | omega) | exact bk_1 (by assumption) | exact bk_2 (by assumption) | exact bk_3 (by assumption) | exact bk_4 (by assumption) | exact bk_5 (by assumption) | exact bk_6 (by assumption) | exact bk_7 (by assumption) | exact bk_8 (by assumption) | exact sh_ring _ (by first | assumption | omega) | exact sh_imgs _ (by first | assumption | omega)) ?_
      rw [h13]
      refine v_if_ne (tgt := 125) dX12_book_102 (by decide) (fun hc102 => ?_) (fun hc102 => ?_)
      · exact absurd rfl hc102
      · (first | rw [bI_0, Bool.not_eq_false] at hc102 | rw [bI_0] at hc102 | rw [show (0 : Int32) = nI 0 from rfl, nI_eq (by omega) (by omega)] at hc102 | skip)
        refine v_aload_0 dX12_book_105 ?_
        refine u_getI dX12_book_106 gf_X12_82 (by first | assumption | rfl | exact led_1 (by assumption) | exact led_2 (by assumption) | exact bk_m (by assumption) (by first | assumption | omega) | exact bk_p (by assumption) (by first | assumption | omega) | exact bk_o (by assumption) (by first | assumption | omega) | exact bk_s (by assumption) (by first | assumption | omega) | exact bk_1 (by assumption) | exact bk_2 (by assumption) | exact bk_3 (by assumption) | exact bk_4 (by assumption) | exact bk_5 (by assumption) | exact bk_6 (by assumption) | exact bk_7 (by assumption) | exact bk_8 (by assumption) | exact sh_ring _ (by first | assumption | omega) | exact sh_imgs _ (by first | assumption | omega)) ?_
        rw [t6]
        refine v_bipush (v := nI 59) dX12_book_109 (by decide) ?_
        refine v_icmp_ne (tgt := 125) dX12_book_111 (by decide) (fun hc111 => ?_) (fun hc111 => ?_)
        · rw [nI_eq (by omega) (by decide)] at hc111
          exact tailS J s hL hI jk (by unfold pars; rw [← he, if_neg hc111]; rfl)
        · rw [nI_eq (by omega) (by decide)] at hc111
          refine v_aload_0 dX12_book_114 ?_
          refine u_callV_0 dX12_book_115 ml_X12_113 mv_X12_next (by first | assumption | rfl | exact led_1 (by assumption) | exact led_2 (by assumption) | exact bk_m (by assumption) (by first | assumption | omega) | exact bk_p (by assumption) (by first | assumption | omega) | exact bk_o (by assumption) (by first | assumption | omega) | exact bk_s (by assumption) (by first | assumption | omega) | exact bk_1 (by assumption) | exact bk_2 (by assumption) | exact bk_3 (by assumption) | exact bk_4 (by assumption) | exact bk_5 (by assumption) | exact bk_6 (by assumption) | exact bk_7 (by assumption) | exact bk_8 (by assumption) | exact sh_ring _ (by first | assumption | omega) | exact sh_imgs _ (by first | assumption | omega)) (by decide) rfl (by decide) (Nat.le_of_ble_eq_true rfl) (c_X12_next hR hL.1 hL.E hL.2.2.2.1.2.1 (fun J3 t1 f1 => ?_))
          rw [if_pos hc111] at he
          have hL3 : LvM J3 tp n (nx tp n s).1 (nx tp n s).2.1 (nx tp n s).2.2 := hL.nx hL.E t1 f1
          have hI3 : PInv n (nx tp n s) := hI.mv rfl hL.E
          have jk3 := jk.trans f1.p.k
          have hlt : s.1 < (nx tp n s).1 := by have h1 := tA_b (tp := tp) hI.1; have h2 := (tE_b hby hI.1).2.2 (by rw [hc111]; decide); show s.1 < tE tp n s.1; omega
          refine v_aload_0 dX12_book_118 ?_
          refine u_callV_0 dX12_book_119 ml_X12_179 mv_X12_readLine (by first | assumption | rfl | exact led_1 (by assumption) | exact led_2 (by assumption) | exact bk_m (by assumption) (by first | assumption | omega) | exact bk_p (by assumption) (by first | assumption | omega) | exact bk_o (by assumption) (by first | assumption | omega) | exact bk_s (by assumption) (by first | assumption | omega) | exact bk_1 (by assumption) | exact bk_2 (by assumption) | exact bk_3 (by assumption) | exact bk_4 (by assumption) | exact bk_5 (by assumption) | exact bk_6 (by assumption) | exact bk_7 (by assumption) | exact bk_8 (by assumption) | exact sh_ring _ (by first | assumption | omega) | exact sh_imgs _ (by first | assumption | omega)) (by decide) rfl (by decide) (Nat.le_of_ble_eq_true rfl) (c_X12_readLine (s := nx tp n s) hR hL3 hI3 (fun f p q J4 k1 k2 => ?_) (fun v q J4 k1 k2 => ?_))
          · refine v_goto (tgt := 98) dX12_book_122 (by decide) ?_
            exact tailF98 J4 f p k1 (jk3.trans k2) (by unfold pars; exact bnd_l (by rw [← he]; exact q))
          · have hv := inv_line hby hI3 q
            have := hv.1.1
            omega
    | succ m ih =>
      intro s J hI hm hL jk he
      have h13 := hL.2.2.1
      have t6 := hL.2.2.2.1.2.2.1
      have hk9 : tK tp n s.1 < 60 := by unfold tK; (repeat' split) <;> omega
      refine v_aload_0 dX12_book_98 ?_
      refine u_getI dX12_book_99 gf_X12_92 (by first | assumption | rfl | exact led_1 (by assumption) | exact led_2 (by assumption) | exact bk_m (by assumption) (by first | assumption | omega) | exact bk_p (by assumption) (by first | assumption | omega) | exact bk_o (by assumption) (by first | assumption | omega) | exact bk_s (by assumption) (by first | assumption | omega) | exact bk_1 (by assumption) | exact bk_2 (by assumption) | exact bk_3 (by assumption) | exact bk_4 (by assumption) | exact bk_5 (by assumption) | exact bk_6 (by assumption) | exact bk_7 (by assumption) | exact bk_8 (by assumption) | exact sh_ring _ (by first | assumption | omega) | exact sh_imgs _ (by first | assumption | omega)) ?_
      rw [h13]
      refine v_if_ne (tgt := 125) dX12_book_102 (by decide) (fun hc102 => ?_) (fun hc102 => ?_)
      · exact absurd rfl hc102
      · (first | rw [bI_0, Bool.not_eq_false] at hc102 | rw [bI_0] at hc102 | rw [show (0 : Int32) = nI 0 from rfl, nI_eq (by omega) (by omega)] at hc102 | skip)
        refine v_aload_0 dX12_book_105 ?_
        refine u_getI dX12_book_106 gf_X12_82 (by first | assumption | rfl | exact led_1 (by assumption) | exact led_2 (by assumption) | exact bk_m (by assumption) (by first | assumption | omega) | exact bk_p (by assumption) (by first | assumption | omega) | exact bk_o (by assumption) (by first | assumption | omega) | exact bk_s (by assumption) (by first | assumption | omega) | exact bk_1 (by assumption) | exact bk_2 (by assumption) | exact bk_3 (by assumption) | exact bk_4 (by assumption) | exact bk_5 (by assumption) | exact bk_6 (by assumption) | exact bk_7 (by assumption) | exact bk_8 (by assumption) | exact sh_ring _ (by first | assumption | omega) | exact sh_imgs _ (by first | assumption | omega)) ?_
        rw [t6]
        refine v_bipush (v := nI 59) dX12_book_109 (by decide) ?_
        refine v_icmp_ne (tgt := 125) dX12_book_111 (by decide) (fun hc111 => ?_) (fun hc111 => ?_)
        · rw [nI_eq (by omega) (by decide)] at hc111
          exact tailS J s hL hI jk (by unfold pars; rw [← he, if_neg hc111]; rfl)
        · rw [nI_eq (by omega) (by decide)] at hc111
          refine v_aload_0 dX12_book_114 ?_
          refine u_callV_0 dX12_book_115 ml_X12_113 mv_X12_next (by first | assumption | rfl | exact led_1 (by assumption) | exact led_2 (by assumption) | exact bk_m (by assumption) (by first | assumption | omega) | exact bk_p (by assumption) (by first | assumption | omega) | exact bk_o (by assumption) (by first | assumption | omega) | exact bk_s (by assumption) (by first | assumption | omega) | exact bk_1 (by assumption) | exact bk_2 (by assumption) | exact bk_3 (by assumption) | exact bk_4 (by assumption) | exact bk_5 (by assumption) | exact bk_6 (by assumption) | exact bk_7 (by assumption) | exact bk_8 (by assumption) | exact sh_ring _ (by first | assumption | omega) | exact sh_imgs _ (by first | assumption | omega)) (by decide) rfl (by decide) (Nat.le_of_ble_eq_true rfl) (c_X12_next hR hL.1 hL.E hL.2.2.2.1.2.1 (fun J3 t1 f1 => ?_))
          rw [if_pos hc111] at he
          have hL3 : LvM J3 tp n (nx tp n s).1 (nx tp n s).2.1 (nx tp n s).2.2 := hL.nx hL.E t1 f1
          have hI3 : PInv n (nx tp n s) := hI.mv rfl hL.E
          have jk3 := jk.trans f1.p.k
          have hlt : s.1 < (nx tp n s).1 := by have h1 := tA_b (tp := tp) hI.1; have h2 := (tE_b hby hI.1).2.2 (by rw [hc111]; decide); show s.1 < tE tp n s.1; omega
          refine v_aload_0 dX12_book_118 ?_
          refine u_callV_0 dX12_book_119 ml_X12_179 mv_X12_readLine (by first | assumption | rfl | exact led_1 (by assumption) | exact led_2 (by assumption) | exact bk_m (by assumption) (by first | assumption | omega) | exact bk_p (by assumption) (by first | assumption | omega) | exact bk_o (by assumption) (by first | assumption | omega) | exact bk_s (by assumption) (by first | assumption | omega) | exact bk_1 (by assumption) | exact bk_2 (by assumption) | exact bk_3 (by assumption) | exact bk_4 (by assumption) | exact bk_5 (by assumption) | exact bk_6 (by assumption) | exact bk_7 (by assumption) | exact bk_8 (by assumption) | exact sh_ring _ (by first | assumption | omega) | exact sh_imgs _ (by first | assumption | omega)) (by decide) rfl (by decide) (Nat.le_of_ble_eq_true rfl) (c_X12_readLine (s := nx tp n s) hR hL3 hI3 (fun f p q J4 k1 k2 => ?_) (fun v q J4 k1 k2 => ?_))
          · refine v_goto (tgt := 98) dX12_book_122 (by decide) ?_
            exact tailF98 J4 f p k1 (jk3.trans k2) (by unfold pars; exact bnd_l (by rw [← he]; exact bnd_l q))
          · have hv := inv_line hby hI3 q
            refine v_goto (tgt := 98) dX12_book_122 (by decide) ?_
            exact ih v J4 hv.1 (by omega) k1 (jk3.trans k2) (by rw [← he, lns, bnd_r q])
  refine v_aload_0 dX12_book_90 ?_
  refine u_callV_0 dX12_book_91 ml_X12_113 mv_X12_next (by first | assumption | rfl | exact led_1 (by assumption) | exact led_2 (by assumption) | exact bk_m (by assumption) (by first | assumption | omega) | exact bk_p (by assumption) (by first | assumption | omega) | exact bk_o (by assumption) (by first | assumption | omega) | exact bk_s (by assumption) (by first | assumption | omega) | exact bk_1 (by assumption) | exact bk_2 (by assumption) | exact bk_3 (by assumption) | exact bk_4 (by assumption) | exact bk_5 (by assumption) | exact bk_6 (by assumption) | exact bk_7 (by assumption) | exact bk_8 (by assumption) | exact sh_ring _ (by first | assumption | omega) | exact sh_imgs _ (by first | assumption | omega)) (by decide) rfl (by decide) (Nat.le_of_ble_eq_true rfl) (c_X12_next (e := 0) hR hK1 (Nat.zero_le _) hK5 (fun J3 t1 f1 => ?_))
  have hL : LvM J3 tp n ps0.1 ps0.2.1 ps0.2.2 := ⟨hK1.fr f1, Nat.zero_le _, by rw [f1.2 13 (by decide)]; exact hK13, t1, fun k hk => by rw [f1.1 161 (by decide) (by decide)]; exact ⟨hf k hk, show 0 < 2 ^ 30 by decide⟩, by rw [f1.1 163 (by decide) (by decide)]; exact hs 0 (by decide), fun i hi => absurd hi (Nat.not_lt_zero i), fun p hp => by rw [f1.1 163 (by decide) (by decide)]; exact hs _ (by omega)⟩
  have jk : FrK K J3 := f1.p.k
  refine v_aload_0 dX12_book_94 ?_
  refine u_callV_0 dX12_book_95 ml_X12_179 mv_X12_readLine (by first | assumption | rfl | exact led_1 (by assumption) | exact led_2 (by assumption) | exact bk_m (by assumption) (by first | assumption | omega) | exact bk_p (by assumption) (by first | assumption | omega) | exact bk_o (by assumption) (by first | assumption | omega) | exact bk_s (by assumption) (by first | assumption | omega) | exact bk_1 (by assumption) | exact bk_2 (by assumption) | exact bk_3 (by assumption) | exact bk_4 (by assumption) | exact bk_5 (by assumption) | exact bk_6 (by assumption) | exact bk_7 (by assumption) | exact bk_8 (by assumption) | exact sh_ring _ (by first | assumption | omega) | exact sh_imgs _ (by first | assumption | omega)) (by decide) rfl (by decide) (Nat.le_of_ble_eq_true rfl) (c_X12_readLine (s := ps0) hR hL inv_0 (fun f p q J4 k1 k2 => ?_) (fun v q J4 k1 k2 => ?_))
  · refine v_aload_0 dX12_book_98 ?_
    refine u_getI dX12_book_99 gf_X12_92 (by first | assumption | rfl | exact led_1 (by assumption) | exact led_2 (by assumption) | exact bk_m (by assumption) (by first | assumption | omega) | exact bk_p (by assumption) (by first | assumption | omega) | exact bk_o (by assumption) (by first | assumption | omega) | exact bk_s (by assumption) (by first | assumption | omega) | exact bk_1 (by assumption) | exact bk_2 (by assumption) | exact bk_3 (by assumption) | exact bk_4 (by assumption) | exact bk_5 (by assumption) | exact bk_6 (by assumption) | exact bk_7 (by assumption) | exact bk_8 (by assumption) | exact sh_ring _ (by first | assumption | omega) | exact sh_imgs _ (by first | assumption | omega)) ?_
    rw [k1.1]
    refine v_if_ne (tgt := 125) dX12_book_102 (by decide) (fun hc102 => ?_) (fun hc102 => ?_)
    · (first | rw [bI_0, Bool.not_eq_false] at hc102 | rw [bI_0] at hc102 | rw [show (0 : Int32) = nI 0 from rfl, nI_eq (by omega) (by omega)] at hc102 | skip)
      refine v_aload_0 dX12_book_125 ?_
      refine u_getI dX12_book_126 gf_X12_92 (by first | assumption | rfl | exact led_1 (by assumption) | exact led_2 (by assumption) | exact bk_m (by assumption) (by first | assumption | omega) | exact bk_p (by assumption) (by first | assumption | omega) | exact bk_o (by assumption) (by first | assumption | omega) | exact bk_s (by assumption) (by first | assumption | omega) | exact bk_1 (by assumption) | exact bk_2 (by assumption) | exact bk_3 (by assumption) | exact bk_4 (by assumption) | exact bk_5 (by assumption) | exact bk_6 (by assumption) | exact bk_7 (by assumption) | exact bk_8 (by assumption) | exact sh_ring _ (by first | assumption | omega) | exact sh_imgs _ (by first | assumption | omega)) ?_
      rw [k1.1]
      refine v_if_ne (tgt := 148) dX12_book_129 (by decide) (fun hc129 => ?_) (fun hc129 => ?_)
      · (first | rw [bI_0, Bool.not_eq_false] at hc129 | rw [bI_0] at hc129 | rw [show (0 : Int32) = nI 0 from rfl, nI_eq (by omega) (by omega)] at hc129 | skip)
        exact tailF148 J4 f p k1 (jk.trans k2) (by unfold pars; refine bnd_l ?_; cases n with | zero => exact q | succ n => exact bnd_l q)
      · exact absurd hc129 (by decide)
    · exact absurd hc102 (by decide)
  · have hv := inv_line hby inv_0 q
    have hv1 := hv.1.1
    have hv2 : 0 < v.1 := hv.2
    refine loop (n - 1) v J4 hv.1 (by omega) k1 (jk.trans k2) ?_
    obtain ⟨m, rfl⟩ : ∃ m, n = m + 1 := ⟨n - 1, by omega⟩
    rw [lns, bnd_r q]; rfl
theorem r_book {x : Int32} (hR : RO R) (h : RefB I tp nt tr fa pl F S u r im ic) (hQ2 : indn x nt = false → YQ I L R tp nt 2 fa pl F S u r im ic (-1) Q) (hQ0 : indn x nt = true → ∀ f p, pars tp (tN x) = .inl (f, p) → YQ I L R tp 0 4 f p F S u r im ic (-1) Q) (hQ1 : indn x nt = true → ∀ v, pars tp (tN x) = .inr v → YQ I L R tp 0 0 0 pl v.2.1 (putS S v.2.2) 0 0 im 0 (nI (v.2.1 2)) Q) : KK 11 mX12_book b ad [.ref (b + 157), .int x] I L R Q := by
  have hO := h.2.2.1.1.2.2.1
  have o0 := hO.1
  have o1 := hO.2.1
  have o2 := hO.2.2.1
  have o3 := hO.2.2.2.1
  have o4 := hO.2.2.2.2.1
  have o5 := hO.2.2.2.2.2.1
  have o6 := hO.2.2.2.2.2.2.1
  have hK := h.2.2.1.2.2
  have hn20 := hK.1
  have hok : ∀ i, i < (S 0).1 → ok4 ((S 0).2.1 i) := fun i hi => (hK.2.1 i hi).1
  refine K.of (M := mX12_book) (lv := [some (.ref (b + 157)), some (.int x), none]) (by decide) (Nat.le_of_ble_eq_true rfl) rfl ?_
  refine v_aload_0 dX12_book_0 ?_
  refine u_callV_0 dX12_book_1 ml_X12_173 mv_X12_good (by first | assumption | rfl | exact led_1 (by assumption) | exact led_2 (by assumption) | exact bk_m (by assumption) (by first | assumption | omega) | exact bk_p (by assumption) (by first | assumption | omega) | exact bk_o (by assumption) (by first | assumption | omega) | exact bk_s (by assumption) (by first | assumption | omega) | exact bk_1 (by assumption) | exact bk_2 (by assumption) | exact bk_3 (by assumption) | exact bk_4 (by assumption) | exact bk_5 (by assumption) | exact bk_6 (by assumption) | exact bk_7 (by assumption) | exact bk_8 (by assumption) | exact sh_ring _ (by first | assumption | omega) | exact sh_imgs _ (by first | assumption | omega)) (by decide) rfl (by decide) (Nat.le_of_ble_eq_true rfl) (c_X12_good ?_)
  have hg := rf_good h
  skip
  skip
  refine v_iload_1 dX12_book_4 ?_
  refine v_iconst (v := nI 0) dX12_book_5 (by decide) ?_
  refine v_aload_0 dX12_book_6 ?_
  refine u_getI dX12_book_7 gf_X12_60 (by first | assumption | rfl | exact led_1 (by assumption) | exact led_2 (by assumption) | exact bk_m (by assumption) (by first | assumption | omega) | exact bk_p (by assumption) (by first | assumption | omega) | exact bk_o (by assumption) (by first | assumption | omega) | exact bk_s (by assumption) (by first | assumption | omega) | exact bk_1 (by assumption) | exact bk_2 (by assumption) | exact bk_3 (by assumption) | exact bk_4 (by assumption) | exact bk_5 (by assumption) | exact bk_6 (by assumption) | exact bk_7 (by assumption) | exact bk_8 (by assumption) | exact sh_ring _ (by first | assumption | omega) | exact sh_imgs _ (by first | assumption | omega)) ?_
  rw [ui_o (by decide), ui_o (by decide), h.1.1]
  refine u_callS_3 dX12_book_10 ml_X12_154 ms_X12_within (by decide) (Nat.le_of_ble_eq_true rfl) (c_X12_within ?_)
  refine v_if_ne (tgt := 22) dX12_book_13 (by decide) (fun hc13 => ?_) (fun hc13 => ?_)
  · (first | rw [bI_0, Bool.not_eq_false] at hc13 | rw [bI_0] at hc13 | rw [show (0 : Int32) = nI 0 from rfl, nI_eq (by omega) (by omega)] at hc13 | skip)
    have hin : indn x nt = true := hc13
    have ht9 := h.1.2.1
    obtain ⟨n, rfl, hn⟩ := indn_ex (by omega) hin
    have en : tN (nI n) = n := tN_nI (by omega)
    refine v_aload_0 dX12_book_22 ?_
    refine v_iconst (v := nI 0) dX12_book_23 (by decide) ?_
    refine u_putI dX12_book_24 gf_X12_60 (by first | assumption | rfl | exact led_1 (by assumption) | exact led_2 (by assumption) | exact bk_m (by assumption) (by first | assumption | omega) | exact bk_p (by assumption) (by first | assumption | omega) | exact bk_o (by assumption) (by first | assumption | omega) | exact bk_s (by assumption) (by first | assumption | omega) | exact bk_1 (by assumption) | exact bk_2 (by assumption) | exact bk_3 (by assumption) | exact bk_4 (by assumption) | exact bk_5 (by assumption) | exact bk_6 (by assumption) | exact bk_7 (by assumption) | exact bk_8 (by assumption) | exact sh_ring _ (by first | assumption | omega) | exact sh_imgs _ (by first | assumption | omega)) rfl rfl rfl ?_
    refine v_aload_0 dX12_book_27 ?_
    refine v_iconst (v := nI 0) dX12_book_28 (by decide) ?_
    refine u_putI dX12_book_29 gf_X12_96 (by first | assumption | rfl | exact led_1 (by assumption) | exact led_2 (by assumption) | exact bk_m (by assumption) (by first | assumption | omega) | exact bk_p (by assumption) (by first | assumption | omega) | exact bk_o (by assumption) (by first | assumption | omega) | exact bk_s (by assumption) (by first | assumption | omega) | exact bk_1 (by assumption) | exact bk_2 (by assumption) | exact bk_3 (by assumption) | exact bk_4 (by assumption) | exact bk_5 (by assumption) | exact bk_6 (by assumption) | exact bk_7 (by assumption) | exact bk_8 (by assumption) | exact sh_ring _ (by first | assumption | omega) | exact sh_imgs _ (by first | assumption | omega)) rfl rfl rfl ?_
    refine v_aload_0 dX12_book_32 ?_
    refine v_iconst (v := nI 0) dX12_book_33 (by decide) ?_
    refine u_putI dX12_book_34 gf_X12_92 (by first | assumption | rfl | exact led_1 (by assumption) | exact led_2 (by assumption) | exact bk_m (by assumption) (by first | assumption | omega) | exact bk_p (by assumption) (by first | assumption | omega) | exact bk_o (by assumption) (by first | assumption | omega) | exact bk_s (by assumption) (by first | assumption | omega) | exact bk_1 (by assumption) | exact bk_2 (by assumption) | exact bk_3 (by assumption) | exact bk_4 (by assumption) | exact bk_5 (by assumption) | exact bk_6 (by assumption) | exact bk_7 (by assumption) | exact bk_8 (by assumption) | exact sh_ring _ (by first | assumption | omega) | exact sh_imgs _ (by first | assumption | omega)) (by first | rfl | exact bI_n _) rfl rfl ?_
    refine v_iconst (v := nI 0) dX12_book_37 (by decide) ?_
    refine v_istore_2 rfl dX12_book_38 ?_
    have hQa := hQ0 hin
    have hQb := hQ1 hin
    rw [en] at hQa hQb
    have loop2 : ∀ (j k : Nat) (J : HI), k + j = 87 → (∀ x, x < 345 → J 161 x = nI 0) → (∀ x, x < k → J 163 x = nI 0) → (∀ x, x ≠ 161 → x ≠ 163 → J x = (ui (ui (ui (ui (ui I 157 0 (nI 0)) 157 11 (nI 0)) 157 2 (nI 0)) 157 9 (nI 0)) 157 13 (nI 0)) x) → VV yX12_book cX12_book 3 (some .int) 11 Q b ad 61 [some (.ref (b + 157)), some (.int (nI n)), some (.int (nI k))] [] J L R := by
      intro j
      induction j with
      | zero =>
        intro k J hk h1 h2 h3
        have ek : k = 87 := by omega
        subst ek
        refine v_iload_2 dX12_book_61 ?_
        refine v_bipush (v := nI 87) dX12_book_62 (by decide) ?_
        refine v_icmp_ge (tgt := 80) dX12_book_64 (by decide) (fun hc64 => ?_) (fun hc64 => ?_)
        · (try rw [nI_leI (by omega) (by omega)] at hc64)
          refine v_aload_0 dX12_book_80 ?_
          refine v_iload_1 dX12_book_81 ?_
          refine u_putI dX12_book_82 gf_X12_63 (by first | assumption | rfl | exact led_1 (by assumption) | exact led_2 (by assumption) | exact bk_m (by assumption) (by first | assumption | omega) | exact bk_p (by assumption) (by first | assumption | omega) | exact bk_o (by assumption) (by first | assumption | omega) | exact bk_s (by assumption) (by first | assumption | omega) | exact bk_1 (by assumption) | exact bk_2 (by assumption) | exact bk_3 (by assumption) | exact bk_4 (by assumption) | exact bk_5 (by assumption) | exact bk_6 (by assumption) | exact bk_7 (by assumption) | exact bk_8 (by assumption) | exact sh_ring _ (by first | assumption | omega) | exact sh_imgs _ (by first | assumption | omega)) rfl rfl rfl ?_
          refine v_aload_0 dX12_book_85 ?_
          refine v_iconst (v := nI 0) dX12_book_86 (by decide) ?_
          refine u_putI dX12_book_87 gf_X12_66 (by first | assumption | rfl | exact led_1 (by assumption) | exact led_2 (by assumption) | exact bk_m (by assumption) (by first | assumption | omega) | exact bk_p (by assumption) (by first | assumption | omega) | exact bk_o (by assumption) (by first | assumption | omega) | exact bk_s (by assumption) (by first | assumption | omega) | exact bk_1 (by assumption) | exact bk_2 (by assumption) | exact bk_3 (by assumption) | exact bk_4 (by assumption) | exact bk_5 (by assumption) | exact bk_6 (by assumption) | exact bk_7 (by assumption) | exact bk_8 (by assumption) | exact sh_ring _ (by first | assumption | omega) | exact sh_imgs _ (by first | assumption | omega)) rfl rfl rfl ?_
          refine l_bk (K := ui (ui J 157 3 (nI n)) 157 5 (nI 0)) hR h hn ht9 ⟨⟨by rw [ui_o (by decide), ui_s], by rw [ui_o (by decide), ui_o (by decide), h3 157 (by decide) (by decide), ui_o (by decide), ui_s]⟩, by omega, fun i hi => ?_⟩ (ui_s _ _ _ _) (by rw [ui_o (by decide), ui_o (by decide), h3 157 (by decide) (by decide), ui_s]) (by rw [ui_o (by decide), ui_o (by decide), h3 157 (by decide) (by decide), ui_o (by decide), ui_o (by decide), ui_s]) (by rw [ui_o (by decide), ui_o (by decide), h3 157 (by decide) (by decide), ui_o (by decide), ui_o (by decide), ui_o (by decide), ui_s]) (fun j hj => by rw [ui_o (by omega), ui_o (by omega), h3 157 (by decide) (by decide), ui_o (by omega), ui_o (by omega), ui_o (by omega), ui_o (by omega), ui_o (by omega)]) (fun x a1 a2 a3 => by rw [ui_ne a1, ui_ne a1, h3 x a2 a3, ui_ne a1, ui_ne a1, ui_ne a1, ui_ne a1, ui_ne a1]) (fun k hk => by rw [ui_ne (by decide), ui_ne (by decide)]; exact h1 k hk) (fun k hk => by rw [ui_ne (by decide), ui_ne (by decide)]; exact h2 k hk) hQa hQb
          rw [ui_ne (by decide), ui_ne (by decide), h3 158 (by decide) (by decide), ui_ne (by decide), ui_ne (by decide), ui_ne (by decide), ui_ne (by decide), ui_ne (by decide)]
          exact h.1.2.2 i (by omega)
        · exact absurd (nI_le (by omega) (by omega)) hc64
      | succ j ih =>
        intro k J hk h1 h2 h3
        refine v_iload_2 dX12_book_61 ?_
        refine v_bipush (v := nI 87) dX12_book_62 (by decide) ?_
        refine v_icmp_ge (tgt := 80) dX12_book_64 (by decide) (fun hc64 => ?_) (fun hc64 => ?_)
        · exact absurd hc64 (nI_ge (by omega) (by omega))
        · (try rw [nI_leI (by omega) (by omega)] at hc64)
          refine v_aload_0 dX12_book_67 ?_
          refine u_getR dX12_book_68 gf_X12_29 (by first | assumption | rfl | exact led_1 (by assumption) | exact led_2 (by assumption) | exact bk_m (by assumption) (by first | assumption | omega) | exact bk_p (by assumption) (by first | assumption | omega) | exact bk_o (by assumption) (by first | assumption | omega) | exact bk_s (by assumption) (by first | assumption | omega) | exact bk_1 (by assumption) | exact bk_2 (by assumption) | exact bk_3 (by assumption) | exact bk_4 (by assumption) | exact bk_5 (by assumption) | exact bk_6 (by assumption) | exact bk_7 (by assumption) | exact bk_8 (by assumption) | exact sh_ring _ (by first | assumption | omega) | exact sh_imgs _ (by first | assumption | omega)) (ro_X12_18 (by assumption)) ?_
          refine v_iload_2 dX12_book_71 ?_
          refine v_iconst (v := nI 0) dX12_book_72 (by decide) ?_
          refine u_iast dX12_book_73 (by first | assumption | rfl | exact led_1 (by assumption) | exact led_2 (by assumption) | exact bk_m (by assumption) (by first | assumption | omega) | exact bk_p (by assumption) (by first | assumption | omega) | exact bk_o (by assumption) (by first | assumption | omega) | exact bk_s (by assumption) (by first | assumption | omega) | exact bk_1 (by assumption) | exact bk_2 (by assumption) | exact bk_3 (by assumption) | exact bk_4 (by assumption) | exact bk_5 (by assumption) | exact bk_6 (by assumption) | exact bk_7 (by assumption) | exact bk_8 (by assumption) | exact sh_ring _ (by first | assumption | omega) | exact sh_imgs _ (by first | assumption | omega)) (by first | with_reducible rfl | (simp only [nlit, nI_add, pk_mul]; with_reducible rfl) | rfl) (by first | assumption | omega) (by first | assumption | decide) ?_
          refine v_iinc_2 (v := 1) rfl dX12_book_74 (by decide) ?_
          rw [show nI k + 1 = nI (k + 1) from nI_1 k]
          refine v_goto (tgt := 61) dX12_book_77 (by decide) ?_
          exact ih (k + 1) _ (by omega) (fun x hx => by rw [ui_ne (by decide)]; exact h1 x hx) (fun x hx => by
            by_cases e : x = k
            · subst e; exact ui_s _ _ _ _
            · rw [ui_o e]; exact h2 x (by omega)) (fun x a1 a2 => by rw [ui_ne a2]; exact h3 x a1 a2)
    have loop1 : ∀ (j k : Nat) (J : HI), k + j = 345 → (∀ x, x < k → J 161 x = nI 0) → (∀ x, x ≠ 161 → J x = (ui (ui (ui (ui (ui I 157 0 (nI 0)) 157 11 (nI 0)) 157 2 (nI 0)) 157 9 (nI 0)) 157 13 (nI 0)) x) → VV yX12_book cX12_book 3 (some .int) 11 Q b ad 39 [some (.ref (b + 157)), some (.int (nI n)), some (.int (nI k))] [] J L R := by
      intro j
      induction j with
      | zero =>
        intro k J hk h1 h3
        have ek : k = 345 := by omega
        subst ek
        refine v_iload_2 dX12_book_39 ?_
        refine v_sipush (v := nI 345) dX12_book_40 (by decide) ?_
        refine v_icmp_ge (tgt := 59) dX12_book_43 (by decide) (fun hc43 => ?_) (fun hc43 => ?_)
        · (try rw [nI_leI (by omega) (by omega)] at hc43)
          refine v_iconst (v := nI 0) dX12_book_59 (by decide) ?_
          refine v_istore_2 rfl dX12_book_60 ?_
          exact loop2 87 0 J (by omega) h1 (fun x hx => absurd hx (Nat.not_lt_zero x)) (fun x a1 _ => h3 x a1)
        · exact absurd (nI_le (by omega) (by omega)) hc43
      | succ j ih =>
        intro k J hk h1 h3
        refine v_iload_2 dX12_book_39 ?_
        refine v_sipush (v := nI 345) dX12_book_40 (by decide) ?_
        refine v_icmp_ge (tgt := 59) dX12_book_43 (by decide) (fun hc43 => ?_) (fun hc43 => ?_)
        · exact absurd hc43 (nI_ge (by omega) (by omega))
        · (try rw [nI_leI (by omega) (by omega)] at hc43)
          refine v_aload_0 dX12_book_46 ?_
          refine u_getR dX12_book_47 gf_X12_23 (by first | assumption | rfl | exact led_1 (by assumption) | exact led_2 (by assumption) | exact bk_m (by assumption) (by first | assumption | omega) | exact bk_p (by assumption) (by first | assumption | omega) | exact bk_o (by assumption) (by first | assumption | omega) | exact bk_s (by assumption) (by first | assumption | omega) | exact bk_1 (by assumption) | exact bk_2 (by assumption) | exact bk_3 (by assumption) | exact bk_4 (by assumption) | exact bk_5 (by assumption) | exact bk_6 (by assumption) | exact bk_7 (by assumption) | exact bk_8 (by assumption) | exact sh_ring _ (by first | assumption | omega) | exact sh_imgs _ (by first | assumption | omega)) (ro_X12_16 (by assumption)) ?_
          refine v_iload_2 dX12_book_50 ?_
          refine v_iconst (v := nI 0) dX12_book_51 (by decide) ?_
          refine u_iast dX12_book_52 (by first | assumption | rfl | exact led_1 (by assumption) | exact led_2 (by assumption) | exact bk_m (by assumption) (by first | assumption | omega) | exact bk_p (by assumption) (by first | assumption | omega) | exact bk_o (by assumption) (by first | assumption | omega) | exact bk_s (by assumption) (by first | assumption | omega) | exact bk_1 (by assumption) | exact bk_2 (by assumption) | exact bk_3 (by assumption) | exact bk_4 (by assumption) | exact bk_5 (by assumption) | exact bk_6 (by assumption) | exact bk_7 (by assumption) | exact bk_8 (by assumption) | exact sh_ring _ (by first | assumption | omega) | exact sh_imgs _ (by first | assumption | omega)) (by first | with_reducible rfl | (simp only [nlit, nI_add, pk_mul]; with_reducible rfl) | rfl) (by first | assumption | omega) (by first | assumption | decide) ?_
          refine v_iinc_2 (v := 1) rfl dX12_book_53 (by decide) ?_
          rw [show nI k + 1 = nI (k + 1) from nI_1 k]
          refine v_goto (tgt := 39) dX12_book_56 (by decide) ?_
          exact ih (k + 1) _ (by omega) (fun x hx => by
            by_cases e : x = k
            · subst e; exact ui_s _ _ _ _
            · rw [ui_o e]; exact h1 x (by omega)) (fun x a1 => by rw [ui_ne a1]; exact h3 x a1)
    exact loop1 345 0 _ (by omega) (fun x hx => absurd hx (Nat.not_lt_zero x)) (fun x _ => rfl)
  · (first | rw [bI_0, Bool.not_eq_false] at hc13 | rw [bI_0] at hc13 | rw [show (0 : Int32) = nI 0 from rfl, nI_eq (by omega) (by omega)] at hc13 | skip)
    refine v_aload_0 dX12_book_16 ?_
    refine v_iconst (v := nI 2) dX12_book_17 (by decide) ?_
    refine u_callV_1 dX12_book_18 ml_X12_176 mv_X12_no (by first | assumption | rfl | exact led_1 (by assumption) | exact led_2 (by assumption) | exact bk_m (by assumption) (by first | assumption | omega) | exact bk_p (by assumption) (by first | assumption | omega) | exact bk_o (by assumption) (by first | assumption | omega) | exact bk_s (by assumption) (by first | assumption | omega) | exact bk_1 (by assumption) | exact bk_2 (by assumption) | exact bk_3 (by assumption) | exact bk_4 (by assumption) | exact bk_5 (by assumption) | exact bk_6 (by assumption) | exact bk_7 (by assumption) | exact bk_8 (by assumption) | exact sh_ring _ (by first | assumption | omega) | exact sh_imgs _ (by first | assumption | omega)) (by decide) rfl (by decide) (Nat.le_of_ble_eq_true rfl) (c_X12_no (k := 2) ?_)
    refine v_iret dX12_book_21 rfl rfl rfl rfl ?_
    exact (hQ2 hc13).fin (rf_tr hg (by decide)) (fun x hx => by simp only [ui_ne (show x ≠ 157 by omega)]) (fun _ _ => rfl) rfl rfl
end
