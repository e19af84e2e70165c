theorem dX12_look_0 : decode cX12_look 0 = .ok (.iload_n 1, 1) := by decide +kernel
theorem dX12_look_1 : decode cX12_look 1 = .ok (.aload_n 0, 1) := by decide +kernel
theorem dX12_look_2 : decode cX12_look 2 = .ok (.getfield 63, 3) := by decide +kernel
theorem dX12_look_5 : decode cX12_look 5 = .ok (.if_icmp .ge 12, 3) := by decide +kernel
theorem dX12_look_8 : decode cX12_look 8 = .ok (.aload_n 0, 1) := by decide +kernel
theorem dX12_look_9 : decode cX12_look 9 = .ok (.getfield 7, 3) := by decide +kernel
theorem dX12_look_12 : decode cX12_look 12 = .ok (.iload_n 1, 1) := by decide +kernel
theorem dX12_look_13 : decode cX12_look 13 = .ok (.iaload, 1) := by decide +kernel
theorem dX12_look_14 : decode cX12_look 14 = .ok (.goto 4, 3) := by decide +kernel
theorem dX12_look_17 : decode cX12_look 17 = .ok (.iconst (-1), 1) := by decide +kernel
theorem dX12_look_18 : decode cX12_look 18 = .ok (.ireturn, 1) := by decide +kernel
theorem dX12_isSmall_0 : decode cX12_isSmall 0 = .ok (.iload_n 0, 1) := by decide +kernel
theorem dX12_isSmall_1 : decode cX12_isSmall 1 = .ok (.bipush 97, 2) := by decide +kernel
theorem dX12_isSmall_3 : decode cX12_isSmall 3 = .ok (.if_icmp .lt 13, 3) := by decide +kernel
theorem dX12_isSmall_6 : decode cX12_isSmall 6 = .ok (.iload_n 0, 1) := by decide +kernel
theorem dX12_isSmall_7 : decode cX12_isSmall 7 = .ok (.bipush 122, 2) := by decide +kernel
theorem dX12_isSmall_9 : decode cX12_isSmall 9 = .ok (.if_icmp .gt 7, 3) := by decide +kernel
theorem dX12_isSmall_12 : decode cX12_isSmall 12 = .ok (.iconst 1, 1) := by decide +kernel
theorem dX12_isSmall_13 : decode cX12_isSmall 13 = .ok (.goto 4, 3) := by decide +kernel
theorem dX12_isSmall_16 : decode cX12_isSmall 16 = .ok (.iconst 0, 1) := by decide +kernel
theorem dX12_isSmall_17 : decode cX12_isSmall 17 = .ok (.ireturn, 1) := by decide +kernel
theorem dX12_isDigit_0 : decode cX12_isDigit 0 = .ok (.iload_n 0, 1) := by decide +kernel
theorem dX12_isDigit_1 : decode cX12_isDigit 1 = .ok (.bipush 48, 2) := by decide +kernel
theorem dX12_isDigit_3 : decode cX12_isDigit 3 = .ok (.if_icmp .lt 13, 3) := by decide +kernel
theorem dX12_isDigit_6 : decode cX12_isDigit 6 = .ok (.iload_n 0, 1) := by decide +kernel
theorem dX12_isDigit_7 : decode cX12_isDigit 7 = .ok (.bipush 57, 2) := by decide +kernel
theorem dX12_isDigit_9 : decode cX12_isDigit 9 = .ok (.if_icmp .gt 7, 3) := by decide +kernel
theorem dX12_isDigit_12 : decode cX12_isDigit 12 = .ok (.iconst 1, 1) := by decide +kernel
theorem dX12_isDigit_13 : decode cX12_isDigit 13 = .ok (.goto 4, 3) := by decide +kernel
theorem dX12_isDigit_16 : decode cX12_isDigit 16 = .ok (.iconst 0, 1) := by decide +kernel
theorem dX12_isDigit_17 : decode cX12_isDigit 17 = .ok (.ireturn, 1) := by decide +kernel
theorem dX12_next_0 : decode cX12_next 0 = .ok (.aload_n 0, 1) := by decide +kernel
theorem dX12_next_1 : decode cX12_next 1 = .ok (.getfield 66, 3) := by decide +kernel
theorem dX12_next_4 : decode cX12_next 4 = .ok (.istore_n 1, 1) := by decide +kernel
theorem dX12_next_5 : decode cX12_next 5 = .ok (.aload_n 0, 1) := by decide +kernel
theorem dX12_next_6 : decode cX12_next 6 = .ok (.iload_n 1, 1) := by decide +kernel
theorem dX12_next_7 : decode cX12_next 7 = .ok (.invokevirtual 69, 3) := by decide +kernel
theorem dX12_next_10 : decode cX12_next 10 = .ok (.bipush 32, 2) := by decide +kernel
theorem dX12_next_12 : decode cX12_next 12 = .ok (.if_icmp .ne 9, 3) := by decide +kernel
theorem dX12_next_15 : decode cX12_next 15 = .ok (.iinc 1 1, 3) := by decide +kernel
theorem dX12_next_18 : decode cX12_next 18 = .ok (.goto (-13), 3) := by decide +kernel
theorem dX12_next_21 : decode cX12_next 21 = .ok (.aload_n 0, 1) := by decide +kernel
theorem dX12_next_22 : decode cX12_next 22 = .ok (.iload_n 1, 1) := by decide +kernel
theorem dX12_next_23 : decode cX12_next 23 = .ok (.putfield 73, 3) := by decide +kernel
theorem dX12_next_26 : decode cX12_next 26 = .ok (.aload_n 0, 1) := by decide +kernel
theorem dX12_next_27 : decode cX12_next 27 = .ok (.iload_n 1, 1) := by decide +kernel
theorem dX12_next_28 : decode cX12_next 28 = .ok (.invokevirtual 69, 3) := by decide +kernel
theorem dX12_next_31 : decode cX12_next 31 = .ok (.istore_n 2, 1) := by decide +kernel
theorem dX12_next_32 : decode cX12_next 32 = .ok (.aload_n 0, 1) := by decide +kernel
theorem dX12_next_33 : decode cX12_next 33 = .ok (.iconst 0, 1) := by decide +kernel
theorem dX12_next_34 : decode cX12_next 34 = .ok (.putfield 76, 3) := by decide +kernel
theorem dX12_next_37 : decode cX12_next 37 = .ok (.aload_n 0, 1) := by decide +kernel
theorem dX12_next_38 : decode cX12_next 38 = .ok (.iconst 0, 1) := by decide +kernel
theorem dX12_next_39 : decode cX12_next 39 = .ok (.putfield 79, 3) := by decide +kernel
theorem dX12_next_42 : decode cX12_next 42 = .ok (.iload_n 2, 1) := by decide +kernel
theorem dX12_next_43 : decode cX12_next 43 = .ok (.iconst (-1), 1) := by decide +kernel
theorem dX12_next_44 : decode cX12_next 44 = .ok (.if_icmp .ne 16, 3) := by decide +kernel
theorem dX12_next_47 : decode cX12_next 47 = .ok (.aload_n 0, 1) := by decide +kernel
theorem dX12_next_48 : decode cX12_next 48 = .ok (.iconst 0, 1) := by decide +kernel
theorem dX12_next_49 : decode cX12_next 49 = .ok (.putfield 82, 3) := by decide +kernel
theorem dX12_next_52 : decode cX12_next 52 = .ok (.aload_n 0, 1) := by decide +kernel
theorem dX12_next_53 : decode cX12_next 53 = .ok (.iload_n 1, 1) := by decide +kernel
theorem dX12_next_54 : decode cX12_next 54 = .ok (.putfield 66, 3) := by decide +kernel
theorem dX12_next_57 : decode cX12_next 57 = .ok (.goto 190, 3) := by decide +kernel
theorem dX12_next_60 : decode cX12_next 60 = .ok (.iload_n 2, 1) := by decide +kernel
theorem dX12_next_61 : decode cX12_next 61 = .ok (.invokestatic 85, 3) := by decide +kernel
theorem dX12_next_64 : decode cX12_next 64 = .ok (.ifCond .eq 79, 3) := by decide +kernel
theorem dX12_next_67 : decode cX12_next 67 = .ok (.aload_n 0, 1) := by decide +kernel
theorem dX12_next_68 : decode cX12_next 68 = .ok (.iload_n 1, 1) := by decide +kernel
theorem dX12_next_69 : decode cX12_next 69 = .ok (.invokevirtual 69, 3) := by decide +kernel
theorem dX12_next_72 : decode cX12_next 72 = .ok (.invokestatic 85, 3) := by decide +kernel
theorem dX12_next_75 : decode cX12_next 75 = .ok (.ifCond .eq 42, 3) := by decide +kernel
theorem dX12_next_78 : decode cX12_next 78 = .ok (.aload_n 0, 1) := by decide +kernel
theorem dX12_next_79 : decode cX12_next 79 = .ok (.getfield 76, 3) := by decide +kernel
theorem dX12_next_82 : decode cX12_next 82 = .ok (.bipush 8, 2) := by decide +kernel
theorem dX12_next_84 : decode cX12_next 84 = .ok (.if_icmp .ge 17, 3) := by decide +kernel
theorem dX12_next_87 : decode cX12_next 87 = .ok (.aload_n 0, 1) := by decide +kernel
theorem dX12_next_88 : decode cX12_next 88 = .ok (.getfield 17, 3) := by decide +kernel
theorem dX12_next_91 : decode cX12_next 91 = .ok (.aload_n 0, 1) := by decide +kernel
theorem dX12_next_92 : decode cX12_next 92 = .ok (.getfield 76, 3) := by decide +kernel
theorem dX12_next_95 : decode cX12_next 95 = .ok (.aload_n 0, 1) := by decide +kernel
theorem dX12_next_96 : decode cX12_next 96 = .ok (.iload_n 1, 1) := by decide +kernel
theorem dX12_next_97 : decode cX12_next 97 = .ok (.invokevirtual 69, 3) := by decide +kernel
theorem dX12_next_100 : decode cX12_next 100 = .ok (.iastore, 1) := by decide +kernel
theorem dX12_next_101 : decode cX12_next 101 = .ok (.aload_n 0, 1) := by decide +kernel
theorem dX12_next_102 : decode cX12_next 102 = .ok (.dup, 1) := by decide +kernel
theorem dX12_next_103 : decode cX12_next 103 = .ok (.getfield 76, 3) := by decide +kernel
theorem dX12_next_106 : decode cX12_next 106 = .ok (.iconst 1, 1) := by decide +kernel
theorem dX12_next_107 : decode cX12_next 107 = .ok (.iadd, 1) := by decide +kernel
theorem dX12_next_108 : decode cX12_next 108 = .ok (.putfield 76, 3) := by decide +kernel
theorem dX12_next_111 : decode cX12_next 111 = .ok (.iinc 1 1, 3) := by decide +kernel
theorem dX12_next_114 : decode cX12_next 114 = .ok (.goto (-47), 3) := by decide +kernel
theorem dX12_next_117 : decode cX12_next 117 = .ok (.aload_n 0, 1) := by decide +kernel
theorem dX12_next_118 : decode cX12_next 118 = .ok (.iload_n 1, 1) := by decide +kernel
theorem dX12_next_119 : decode cX12_next 119 = .ok (.putfield 66, 3) := by decide +kernel
theorem dX12_next_122 : decode cX12_next 122 = .ok (.aload_n 0, 1) := by decide +kernel
theorem dX12_next_123 : decode cX12_next 123 = .ok (.aload_n 0, 1) := by decide +kernel
theorem dX12_next_124 : decode cX12_next 124 = .ok (.getfield 76, 3) := by decide +kernel
theorem dX12_next_127 : decode cX12_next 127 = .ok (.bipush 8, 2) := by decide +kernel
theorem dX12_next_129 : decode cX12_next 129 = .ok (.if_icmp .le 7, 3) := by decide +kernel
theorem dX12_next_132 : decode cX12_next 132 = .ok (.iconst 1, 1) := by decide +kernel
theorem dX12_next_133 : decode cX12_next 133 = .ok (.goto 4, 3) := by decide +kernel
theorem dX12_next_136 : decode cX12_next 136 = .ok (.iconst 2, 1) := by decide +kernel
theorem dX12_next_137 : decode cX12_next 137 = .ok (.putfield 82, 3) := by decide +kernel
theorem dX12_next_140 : decode cX12_next 140 = .ok (.goto 107, 3) := by decide +kernel
theorem dX12_next_143 : decode cX12_next 143 = .ok (.iload_n 2, 1) := by decide +kernel
theorem dX12_next_144 : decode cX12_next 144 = .ok (.invokestatic 89, 3) := by decide +kernel
theorem dX12_next_147 : decode cX12_next 147 = .ok (.ifCond .eq 72, 3) := by decide +kernel
theorem dX12_next_150 : decode cX12_next 150 = .ok (.iconst 0, 1) := by decide +kernel
theorem dX12_next_151 : decode cX12_next 151 = .ok (.istore_n 3, 1) := by decide +kernel
theorem dX12_next_152 : decode cX12_next 152 = .ok (.aload_n 0, 1) := by decide +kernel
theorem dX12_next_153 : decode cX12_next 153 = .ok (.iload_n 1, 1) := by decide +kernel
theorem dX12_next_154 : decode cX12_next 154 = .ok (.invokevirtual 69, 3) := by decide +kernel
theorem dX12_next_157 : decode cX12_next 157 = .ok (.invokestatic 89, 3) := by decide +kernel
theorem dX12_next_160 : decode cX12_next 160 = .ok (.ifCond .eq 37, 3) := by decide +kernel
theorem dX12_next_163 : decode cX12_next 163 = .ok (.iload_n 3, 1) := by decide +kernel
theorem dX12_next_164 : decode cX12_next 164 = .ok (.iconst 3, 1) := by decide +kernel
theorem dX12_next_165 : decode cX12_next 165 = .ok (.if_icmp .ge 23, 3) := by decide +kernel
theorem dX12_next_168 : decode cX12_next 168 = .ok (.aload_n 0, 1) := by decide +kernel
theorem dX12_next_169 : decode cX12_next 169 = .ok (.bipush 10, 2) := by decide +kernel
theorem dX12_next_171 : decode cX12_next 171 = .ok (.aload_n 0, 1) := by decide +kernel
theorem dX12_next_172 : decode cX12_next 172 = .ok (.getfield 79, 3) := by decide +kernel
theorem dX12_next_175 : decode cX12_next 175 = .ok (.imul, 1) := by decide +kernel
theorem dX12_next_176 : decode cX12_next 176 = .ok (.aload_n 0, 1) := by decide +kernel
theorem dX12_next_177 : decode cX12_next 177 = .ok (.iload_n 1, 1) := by decide +kernel
theorem dX12_next_178 : decode cX12_next 178 = .ok (.invokevirtual 69, 3) := by decide +kernel
theorem dX12_next_181 : decode cX12_next 181 = .ok (.iadd, 1) := by decide +kernel
theorem dX12_next_182 : decode cX12_next 182 = .ok (.bipush 48, 2) := by decide +kernel
theorem dX12_next_184 : decode cX12_next 184 = .ok (.isub, 1) := by decide +kernel
theorem dX12_next_185 : decode cX12_next 185 = .ok (.putfield 79, 3) := by decide +kernel
theorem dX12_next_188 : decode cX12_next 188 = .ok (.iinc 3 1, 3) := by decide +kernel
theorem dX12_next_191 : decode cX12_next 191 = .ok (.iinc 1 1, 3) := by decide +kernel
theorem dX12_next_194 : decode cX12_next 194 = .ok (.goto (-42), 3) := by decide +kernel
theorem dX12_next_197 : decode cX12_next 197 = .ok (.aload_n 0, 1) := by decide +kernel
theorem dX12_next_198 : decode cX12_next 198 = .ok (.iload_n 1, 1) := by decide +kernel
theorem dX12_next_199 : decode cX12_next 199 = .ok (.putfield 66, 3) := by decide +kernel
theorem dX12_next_202 : decode cX12_next 202 = .ok (.aload_n 0, 1) := by decide +kernel
theorem dX12_next_203 : decode cX12_next 203 = .ok (.iload_n 3, 1) := by decide +kernel
theorem dX12_next_204 : decode cX12_next 204 = .ok (.iconst 3, 1) := by decide +kernel
theorem dX12_next_205 : decode cX12_next 205 = .ok (.if_icmp .le 7, 3) := by decide +kernel
theorem dX12_next_208 : decode cX12_next 208 = .ok (.iconst 1, 1) := by decide +kernel
theorem dX12_next_209 : decode cX12_next 209 = .ok (.goto 4, 3) := by decide +kernel
theorem dX12_next_212 : decode cX12_next 212 = .ok (.iconst 3, 1) := by decide +kernel
theorem dX12_next_213 : decode cX12_next 213 = .ok (.putfield 82, 3) := by decide +kernel
theorem dX12_next_216 : decode cX12_next 216 = .ok (.goto 31, 3) := by decide +kernel
theorem dX12_next_219 : decode cX12_next 219 = .ok (.aload_n 0, 1) := by decide +kernel
theorem dX12_next_220 : decode cX12_next 220 = .ok (.iload_n 1, 1) := by decide +kernel
theorem dX12_next_221 : decode cX12_next 221 = .ok (.iconst 1, 1) := by decide +kernel
theorem dX12_next_222 : decode cX12_next 222 = .ok (.iadd, 1) := by decide +kernel
theorem dX12_next_223 : decode cX12_next 223 = .ok (.putfield 66, 3) := by decide +kernel
theorem dX12_next_226 : decode cX12_next 226 = .ok (.aload_n 0, 1) := by decide +kernel
theorem dX12_next_227 : decode cX12_next 227 = .ok (.iload_n 2, 1) := by decide +kernel
theorem dX12_next_228 : decode cX12_next 228 = .ok (.bipush 59, 2) := by decide +kernel
theorem dX12_next_230 : decode cX12_next 230 = .ok (.if_icmp .eq 9, 3) := by decide +kernel
theorem dX12_next_233 : decode cX12_next 233 = .ok (.iload_n 2, 1) := by decide +kernel
theorem dX12_next_234 : decode cX12_next 234 = .ok (.bipush 44, 2) := by decide +kernel
theorem dX12_next_236 : decode cX12_next 236 = .ok (.if_icmp .ne 7, 3) := by decide +kernel
theorem dX12_next_239 : decode cX12_next 239 = .ok (.iload_n 2, 1) := by decide +kernel
theorem dX12_next_240 : decode cX12_next 240 = .ok (.goto 4, 3) := by decide +kernel
theorem dX12_next_243 : decode cX12_next 243 = .ok (.iconst 1, 1) := by decide +kernel
theorem dX12_next_244 : decode cX12_next 244 = .ok (.putfield 82, 3) := by decide +kernel
theorem dX12_next_247 : decode cX12_next 247 = .ok (.return_, 1) := by decide +kernel
theorem dX12_wrong_0 : decode cX12_wrong 0 = .ok (.aload_n 0, 1) := by decide +kernel
theorem dX12_wrong_1 : decode cX12_wrong 1 = .ok (.getfield 92, 3) := by decide +kernel
theorem dX12_wrong_4 : decode cX12_wrong 4 = .ok (.ifCond .eq 4, 3) := by decide +kernel
theorem dX12_wrong_7 : decode cX12_wrong 7 = .ok (.return_, 1) := by decide +kernel
theorem dX12_wrong_8 : decode cX12_wrong 8 = .ok (.aload_n 0, 1) := by decide +kernel
theorem dX12_wrong_9 : decode cX12_wrong 9 = .ok (.iconst 1, 1) := by decide +kernel
theorem dX12_wrong_10 : decode cX12_wrong 10 = .ok (.putfield 92, 3) := by decide +kernel
theorem dX12_wrong_13 : decode cX12_wrong 13 = .ok (.aload_n 0, 1) := by decide +kernel
theorem dX12_wrong_14 : decode cX12_wrong 14 = .ok (.iload_n 1, 1) := by decide +kernel
theorem dX12_wrong_15 : decode cX12_wrong 15 = .ok (.putfield 96, 3) := by decide +kernel
theorem dX12_wrong_18 : decode cX12_wrong 18 = .ok (.aload_n 0, 1) := by decide +kernel
theorem dX12_wrong_19 : decode cX12_wrong 19 = .ok (.iload_n 2, 1) := by decide +kernel
theorem dX12_wrong_20 : decode cX12_wrong 20 = .ok (.putfield 13, 3) := by decide +kernel
theorem dX12_wrong_23 : decode cX12_wrong 23 = .ok (.return_, 1) := by decide +kernel
/-! the reference's reader: its tokens -/
def lkV (c : Nat) : Int32 := if c = 256 then -1 else nI c
theorem lkV_c : ∀ n, n < 257 → ((lkV n < nI 97 ↔ n < 97 ∨ n = 256) ∧ (nI 122 < lkV n ↔ 122 < n ∧ n < 256) ∧ (lkV n < nI 48 ↔ n < 48 ∨ n = 256) ∧ (nI 57 < lkV n ↔ 57 < n ∧ n < 256) ∧ (lkV n = nI 32 ↔ n = 32) ∧ (lkV n = nI 59 ↔ n = 59) ∧ (lkV n = nI 44 ↔ n = 44) ∧ (lkV n = -1 ↔ n = 256)) := by decide +kernel
def BsM (I : HI) (tp : Nat → Nat) (sz : Nat) : Prop := (I 157 3 = nI sz ∧ I 157 9 = nI 0) ∧ sz ≤ 900 ∧ ∀ i, i < sz → I 158 i = nI (tp i) ∧ tp i < 256
def TkM (I : HI) (tp : Nat → Nat) (sz e : Nat) : Prop := I 157 4 = nI (tA tp sz e) ∧ I 157 5 = nI (tE tp sz e) ∧ I 157 6 = nI (tK tp sz e) ∧ (tK tp sz e = 3 → I 157 7 = nI (tW tp sz e)) ∧ (tK tp sz e = 2 → I 157 8 = nI (tE tp sz e - tA tp sz e) ∧ ∀ i, i < tE tp sz e - tA tp sz e → I 159 i = nI (tp (tA tp sz e + i)))
/-- what the reading of a token leaves as it was -/
def FrT (I J : HI) : Prop := (∀ x, x ≠ 157 → x ≠ 159 → J x = I x) ∧ ∀ k, (k < 4 ∨ 8 < k) → J 157 k = I 157 k
theorem FrT.refl {I : HI} : FrT I I := ⟨fun _ _ _ => rfl, fun _ _ => rfl⟩
theorem FrT.trans {I J K : HI} (h : FrT I J) (g : FrT J K) : FrT I K := ⟨fun x a c => (g.1 x a c).trans (h.1 x a c), fun k a => (g.2 k a).trans (h.2 k a)⟩
theorem FrT.up {I J : HI} {j : Nat} {v : Int32} (h : FrT I J) (hj : 4 ≤ j ∧ j ≤ 8) : FrT I (ui J 157 j v) := ⟨fun x a c => by rw [ui_ne a]; exact h.1 x a c, fun k a => by rw [ui_o (by omega)]; exact h.2 k a⟩
theorem FrT.let {I J : HI} {j : Nat} {v : Int32} (h : FrT I J) : FrT I (ui J 159 j v) := ⟨fun x a c => by rw [ui_ne c]; exact h.1 x a c, fun k a => by rw [ui_ne (by decide)]; exact h.2 k a⟩
theorem BsM.fr {I J : HI} {tp : Nat → Nat} {sz : Nat} (h : BsM I tp sz) (f : FrT I J) : BsM J tp sz := ⟨⟨by rw [f.2 3 (by omega)]; exact h.1.1, by rw [f.2 9 (by omega)]; exact h.1.2⟩, h.2.1, fun i hi => by rw [f.1 158 (by decide) (by decide)]; exact h.2.2 i hi⟩
theorem lk_le {tp : Nat → Nat} {sz : Nat} (hb : ∀ i, i < sz → tp i < 256) (k : Nat) : lk tp sz k < 257 := by
  unfold lk
  split
  · have := hb k (by assumption); omega
  · omega
section
variable {b : Nat} {ad : Nat → Nat} {I J : HI} {L M : HL} {R : HR} {Q : QT} {tp : Nat → Nat} {sz k e : Nat}
theorem c_X12_look (hR : RO R) (h : BsM I tp sz) (hk : k < 2 ^ 30) (hQ : Q (some (.int (lkV (lk tp sz k)))) SH I L R) : KK 0 mX12_look b ad [.ref (b + 157), .int (nI k)] I L R Q := by
  obtain ⟨⟨h1, -⟩, h2, h3⟩ := h
  refine K.of (M := mX12_look) (lv := [some (.ref (b + 157)), some (.int (nI k))]) (by decide) (Nat.le_of_ble_eq_true rfl) rfl ?_
  refine v_iload_1 dX12_look_0 ?_
  refine v_aload_0 dX12_look_1 ?_
  refine u_getI dX12_look_2 gf_X12_63 (by first | assumption | rfl | exact led_1 (by assumption) | exact led_2 (by assumption) | exact bk_m (by assumption) (by first | assumption | omega) | exact bk_p (by assumption) (by first | assumption | omega) | exact bk_o (by assumption) (by first | assumption | omega) | exact bk_s (by assumption) (by first | assumption | omega) | exact bk_1 (by assumption) | exact bk_2 (by assumption) | exact bk_3 (by assumption) | exact bk_4 (by assumption) | exact bk_5 (by assumption) | exact bk_6 (by assumption) | exact bk_7 (by assumption) | exact bk_8 (by assumption) | exact sh_ring _ (by first | assumption | omega) | exact sh_imgs _ (by first | assumption | omega)) ?_
  rw [h1]
  refine v_icmp_ge (tgt := 17) dX12_look_5 (by decide) (fun hc5 => ?_) (fun hc5 => ?_)
  · (try rw [nI_leI (by omega) (by omega)] at hc5)
    refine v_iconst (v := -1) dX12_look_17 (by decide) ?_
    refine v_iret dX12_look_18 rfl rfl rfl rfl ?_
    first
      | (rw [lk_out (by omega)] at hQ; exact hQ)
      | (have q := h3 k (by omega); rw [q.1]; rw [lk_in (by omega)] at hQ; unfold lkV at hQ; rw [if_neg (by omega)] at hQ; exact hQ)
  · (try rw [nI_leI (by omega) (by omega)] at hc5)
    refine v_aload_0 dX12_look_8 ?_
    refine u_getR dX12_look_9 gf_X12_7 (by first | assumption | rfl | exact led_1 (by assumption) | exact led_2 (by assumption) | exact bk_m (by assumption) (by first | assumption | omega) | exact bk_p (by assumption) (by first | assumption | omega) | exact bk_o (by assumption) (by first | assumption | omega) | exact bk_s (by assumption) (by first | assumption | omega) | exact bk_1 (by assumption) | exact bk_2 (by assumption) | exact bk_3 (by assumption) | exact bk_4 (by assumption) | exact bk_5 (by assumption) | exact bk_6 (by assumption) | exact bk_7 (by assumption) | exact bk_8 (by assumption) | exact sh_ring _ (by first | assumption | omega) | exact sh_imgs _ (by first | assumption | omega)) (ro_X12_1 (by assumption)) ?_
    refine v_iload_1 dX12_look_12 ?_
    refine u_iald dX12_look_13 (by first | assumption | rfl | exact led_1 (by assumption) | exact led_2 (by assumption) | exact bk_m (by assumption) (by first | assumption | omega) | exact bk_p (by assumption) (by first | assumption | omega) | exact bk_o (by assumption) (by first | assumption | omega) | exact bk_s (by assumption) (by first | assumption | omega) | exact bk_1 (by assumption) | exact bk_2 (by assumption) | exact bk_3 (by assumption) | exact bk_4 (by assumption) | exact bk_5 (by assumption) | exact bk_6 (by assumption) | exact bk_7 (by assumption) | exact bk_8 (by assumption) | exact sh_ring _ (by first | assumption | omega) | exact sh_imgs _ (by first | assumption | omega)) (by first | with_reducible rfl | (simp only [nlit, nI_add, pk_mul]; with_reducible rfl) | rfl) (by first | assumption | omega) (by first | assumption | decide) ?_
    refine v_goto (tgt := 18) dX12_look_14 (by decide) ?_
    refine v_iret dX12_look_18 rfl rfl rfl rfl ?_
    first
      | (rw [lk_out (by omega)] at hQ; exact hQ)
      | (have q := h3 k (by omega); rw [q.1]; rw [lk_in (by omega)] at hQ; unfold lkV at hQ; rw [if_neg (by omega)] at hQ; exact hQ)
theorem c_X12_isSmall {c : Nat} (hc : c < 257) (hQ : Q (some (.int (bI (isS c)))) SH I L R) : KK 0 mX12_isSmall b ad [.int (lkV c)] I L R Q := by
  have hh := lkV_c c hc
  refine K.of (M := mX12_isSmall) (lv := [some (.int (lkV c))]) (by decide) (Nat.le_of_ble_eq_true rfl) rfl ?_
  refine v_iload_0 dX12_isSmall_0 ?_
  refine v_bipush (v := nI 97) dX12_isSmall_1 (by decide) ?_
  refine v_icmp_lt (tgt := 16) dX12_isSmall_3 (by decide) (fun hc3 => ?_) (fun hc3 => ?_)
  · rw [hh.1] at hc3
    refine v_iconst (v := nI 0) dX12_isSmall_16 (by decide) ?_
    refine v_zret dX12_isSmall_17 (by first | rfl | exact bI_n _) rfl rfl rfl rfl ?_
    first
      | (have q : isS c = true := (by unfold isS; rw [decide_eq_true (show 97 ≤ c by omega), decide_eq_true (show c ≤ 122 by omega)]; rfl); rw [q] at hQ; exact hQ)
      | (have q : isS c = false := (by unfold isS; rw [Bool.and_eq_false_iff, decide_eq_false_iff_not, decide_eq_false_iff_not]; omega); rw [q] at hQ; exact hQ)
  · rw [hh.1] at hc3
    refine v_iload_0 dX12_isSmall_6 ?_
    refine v_bipush (v := nI 122) dX12_isSmall_7 (by decide) ?_
    refine v_icmp_gt (tgt := 16) dX12_isSmall_9 (by decide) (fun hc9 => ?_) (fun hc9 => ?_)
    · rw [hh.2.1] at hc9
      refine v_iconst (v := nI 0) dX12_isSmall_16 (by decide) ?_
      refine v_zret dX12_isSmall_17 (by first | rfl | exact bI_n _) rfl rfl rfl rfl ?_
      first
        | (have q : isS c = true := (by unfold isS; rw [decide_eq_true (show 97 ≤ c by omega), decide_eq_true (show c ≤ 122 by omega)]; rfl); rw [q] at hQ; exact hQ)
        | (have q : isS c = false := (by unfold isS; rw [Bool.and_eq_false_iff, decide_eq_false_iff_not, decide_eq_false_iff_not]; omega); rw [q] at hQ; exact hQ)
    · rw [hh.2.1] at hc9
      refine v_iconst (v := nI 1) dX12_isSmall_12 (by decide) ?_
      refine v_goto (tgt := 17) dX12_isSmall_13 (by decide) ?_
      refine v_zret dX12_isSmall_17 (by first | rfl | exact bI_n _) rfl rfl rfl rfl ?_
      first
        | (have q : isS c = true := (by unfold isS; rw [decide_eq_true (show 97 ≤ c by omega), decide_eq_true (show c ≤ 122 by omega)]; rfl); rw [q] at hQ; exact hQ)
        | (have q : isS c = false := (by unfold isS; rw [Bool.and_eq_false_iff, decide_eq_false_iff_not, decide_eq_false_iff_not]; omega); rw [q] at hQ; exact hQ)
theorem c_X12_isDigit {c : Nat} (hc : c < 257) (hQ : Q (some (.int (bI (isD c)))) SH I L R) : KK 0 mX12_isDigit b ad [.int (lkV c)] I L R Q := by
  have hh := lkV_c c hc
  refine K.of (M := mX12_isDigit) (lv := [some (.int (lkV c))]) (by decide) (Nat.le_of_ble_eq_true rfl) rfl ?_
  refine v_iload_0 dX12_isDigit_0 ?_
  refine v_bipush (v := nI 48) dX12_isDigit_1 (by decide) ?_
  refine v_icmp_lt (tgt := 16) dX12_isDigit_3 (by decide) (fun hc3 => ?_) (fun hc3 => ?_)
  · rw [hh.2.2.1] at hc3
    refine v_iconst (v := nI 0) dX12_isDigit_16 (by decide) ?_
    refine v_zret dX12_isDigit_17 (by first | rfl | exact bI_n _) rfl rfl rfl rfl ?_
    first
      | (have q : isD c = true := (by unfold isD; rw [decide_eq_true (show 48 ≤ c by omega), decide_eq_true (show c ≤ 57 by omega)]; rfl); rw [q] at hQ; exact hQ)
      | (have q : isD c = false := (by unfold isD; rw [Bool.and_eq_false_iff, decide_eq_false_iff_not, decide_eq_false_iff_not]; omega); rw [q] at hQ; exact hQ)
  · rw [hh.2.2.1] at hc3
    refine v_iload_0 dX12_isDigit_6 ?_
    refine v_bipush (v := nI 57) dX12_isDigit_7 (by decide) ?_
    refine v_icmp_gt (tgt := 16) dX12_isDigit_9 (by decide) (fun hc9 => ?_) (fun hc9 => ?_)
    · rw [hh.2.2.2.1] at hc9
      refine v_iconst (v := nI 0) dX12_isDigit_16 (by decide) ?_
      refine v_zret dX12_isDigit_17 (by first | rfl | exact bI_n _) rfl rfl rfl rfl ?_
      first
        | (have q : isD c = true := (by unfold isD; rw [decide_eq_true (show 48 ≤ c by omega), decide_eq_true (show c ≤ 57 by omega)]; rfl); rw [q] at hQ; exact hQ)
        | (have q : isD c = false := (by unfold isD; rw [Bool.and_eq_false_iff, decide_eq_false_iff_not, decide_eq_false_iff_not]; omega); rw [q] at hQ; exact hQ)
    · rw [hh.2.2.2.1] at hc9
      refine v_iconst (v := nI 1) dX12_isDigit_12 (by decide) ?_
      refine v_goto (tgt := 17) dX12_isDigit_13 (by decide) ?_
      refine v_zret dX12_isDigit_17 (by first | rfl | exact bI_n _) rfl rfl rfl rfl ?_
      first
        | (have q : isD c = true := (by unfold isD; rw [decide_eq_true (show 48 ≤ c by omega), decide_eq_true (show c ≤ 57 by omega)]; rfl); rw [q] at hQ; exact hQ)
        | (have q : isD c = false := (by unfold isD; rw [Bool.and_eq_false_iff, decide_eq_false_iff_not, decide_eq_false_iff_not]; omega); rw [q] at hQ; exact hQ)
theorem c_X12_wrong {f p : Nat} (h : I 157 13 = nI 0) (hQ : Q none SH (ui (ui (ui I 157 13 (nI 1)) 157 9 (nI f)) 157 10 (nI p)) L R) : KK 0 mX12_wrong b ad [.ref (b + 157), .int (nI f), .int (nI p)] I L R Q := by
  refine K.of (M := mX12_wrong) (lv := [some (.ref (b + 157)), some (.int (nI f)), some (.int (nI p))]) (by decide) (Nat.le_of_ble_eq_true rfl) rfl ?_
  refine v_aload_0 dX12_wrong_0 ?_
  refine u_getI dX12_wrong_1 gf_X12_92 (by first | assumption | rfl | exact led_1 (by assumption) | exact led_2 (by assumption) | exact bk_m (by assumption) (by first | assumption | omega) | exact bk_p (by assumption) (by first | assumption | omega) | exact bk_o (by assumption) (by first | assumption | omega) | exact bk_s (by assumption) (by first | assumption | omega) | exact bk_1 (by assumption) | exact bk_2 (by assumption) | exact bk_3 (by assumption) | exact bk_4 (by assumption) | exact bk_5 (by assumption) | exact bk_6 (by assumption) | exact bk_7 (by assumption) | exact bk_8 (by assumption) | exact sh_ring _ (by first | assumption | omega) | exact sh_imgs _ (by first | assumption | omega)) ?_
  rw [h]
  refine v_if_eq (tgt := 8) dX12_wrong_4 (by decide) (fun hc4 => ?_) (fun hc4 => ?_)
  · (first | rw [bI_0, Bool.not_eq_false] at hc4 | rw [bI_0] at hc4 | rw [show (0 : Int32) = nI 0 from rfl, nI_eq (by omega) (by omega)] at hc4 | skip)
    refine v_aload_0 dX12_wrong_8 ?_
    refine v_iconst (v := nI 1) dX12_wrong_9 (by decide) ?_
    refine u_putI dX12_wrong_10 gf_X12_92 (by first | assumption | rfl | exact led_1 (by assumption) | exact led_2 (by assumption) | exact bk_m (by assumption) (by first | assumption | omega) | exact bk_p (by assumption) (by first | assumption | omega) | exact bk_o (by assumption) (by first | assumption | omega) | exact bk_s (by assumption) (by first | assumption | omega) | exact bk_1 (by assumption) | exact bk_2 (by assumption) | exact bk_3 (by assumption) | exact bk_4 (by assumption) | exact bk_5 (by assumption) | exact bk_6 (by assumption) | exact bk_7 (by assumption) | exact bk_8 (by assumption) | exact sh_ring _ (by first | assumption | omega) | exact sh_imgs _ (by first | assumption | omega)) (by first | rfl | exact bI_n _) rfl rfl ?_
    refine v_aload_0 dX12_wrong_13 ?_
    refine v_iload_1 dX12_wrong_14 ?_
    refine u_putI dX12_wrong_15 gf_X12_96 (by first | assumption | rfl | exact led_1 (by assumption) | exact led_2 (by assumption) | exact bk_m (by assumption) (by first | assumption | omega) | exact bk_p (by assumption) (by first | assumption | omega) | exact bk_o (by assumption) (by first | assumption | omega) | exact bk_s (by assumption) (by first | assumption | omega) | exact bk_1 (by assumption) | exact bk_2 (by assumption) | exact bk_3 (by assumption) | exact bk_4 (by assumption) | exact bk_5 (by assumption) | exact bk_6 (by assumption) | exact bk_7 (by assumption) | exact bk_8 (by assumption) | exact sh_ring _ (by first | assumption | omega) | exact sh_imgs _ (by first | assumption | omega)) rfl rfl rfl ?_
    refine v_aload_0 dX12_wrong_18 ?_
    refine v_iload_2 dX12_wrong_19 ?_
    refine u_putI dX12_wrong_20 gf_X12_13 (by first | assumption | rfl | exact led_1 (by assumption) | exact led_2 (by assumption) | exact bk_m (by assumption) (by first | assumption | omega) | exact bk_p (by assumption) (by first | assumption | omega) | exact bk_o (by assumption) (by first | assumption | omega) | exact bk_s (by assumption) (by first | assumption | omega) | exact bk_1 (by assumption) | exact bk_2 (by assumption) | exact bk_3 (by assumption) | exact bk_4 (by assumption) | exact bk_5 (by assumption) | exact bk_6 (by assumption) | exact bk_7 (by assumption) | exact bk_8 (by assumption) | exact sh_ring _ (by first | assumption | omega) | exact sh_imgs _ (by first | assumption | omega)) rfl rfl rfl ?_
    refine v_vret dX12_wrong_23 rfl rfl rfl rfl ?_
    exact hQ
  · exact absurd rfl hc4
theorem z_X12_wrong {x y : Int32} (h : I 157 13 = nI 1) (hQ : Q none SH I L R) : KK 0 mX12_wrong b ad [.ref (b + 157), .int x, .int y] I L R Q := by
  refine K.of (M := mX12_wrong) (lv := [some (.ref (b + 157)), some (.int x), some (.int y)]) (by decide) (Nat.le_of_ble_eq_true rfl) rfl ?_
  refine v_aload_0 dX12_wrong_0 ?_
  refine u_getI dX12_wrong_1 gf_X12_92 (by first | assumption | rfl | exact led_1 (by assumption) | exact led_2 (by assumption) | exact bk_m (by assumption) (by first | assumption | omega) | exact bk_p (by assumption) (by first | assumption | omega) | exact bk_o (by assumption) (by first | assumption | omega) | exact bk_s (by assumption) (by first | assumption | omega) | exact bk_1 (by assumption) | exact bk_2 (by assumption) | exact bk_3 (by assumption) | exact bk_4 (by assumption) | exact bk_5 (by assumption) | exact bk_6 (by assumption) | exact bk_7 (by assumption) | exact bk_8 (by assumption) | exact sh_ring _ (by first | assumption | omega) | exact sh_imgs _ (by first | assumption | omega)) ?_
  rw [h]
  refine v_if_eq (tgt := 8) dX12_wrong_4 (by decide) (fun hc4 => ?_) (fun hc4 => ?_)
  · exact absurd hc4 (by decide)
  · (first | rw [bI_0, Bool.not_eq_false] at hc4 | rw [bI_0] at hc4 | rw [show (0 : Int32) = nI 0 from rfl, nI_eq (by omega) (by omega)] at hc4 | skip)
    refine v_vret dX12_wrong_7 rfl rfl rfl rfl ?_
    exact hQ
theorem l_nxW (hR : RO R) (h : BsM I tp sz) (he : e ≤ sz) (hA : (tA tp sz e) < sz) (hs : isS (tp (tA tp sz e)) = true) (hQ : ∀ J : HI, TkM J tp sz e → FrT I J → Q none SH J L R) : ∀ (n k : Nat) (J : HI), n = sz - k → (tA tp sz e) ≤ k → k ≤ sz → rn (smlp tp sz) n k = wE tp sz (tA tp sz e) → FrT I J → J 157 4 = nI (tA tp sz e) → J 157 8 = nI (k - (tA tp sz e)) → (∀ i, i < k - (tA tp sz e) → i < 8 → J 159 i = nI (tp ((tA tp sz e) + i))) → VV yX12_next cX12_next 4 none 1 Q b ad 67 [some (.ref (b + 157)), some (.int (nI k)), some (.int (lkV (lk tp sz (tA tp sz e)))), none] [] J L R := by
  have h9 := h.2.1
  have hby : ∀ i, i < sz → tp i < 256 := fun i hi => (h.2.2 i hi).2
  have hab := tA_b (tp := tp) he
  have hk := tk_word hA (hby _ hA) hs
  have tail : ∀ (k : Nat) (J : HI), wE tp sz (tA tp sz e) = k → (tA tp sz e) ≤ k → k ≤ sz → FrT I J → J 157 4 = nI (tA tp sz e) → J 157 8 = nI (k - (tA tp sz e)) → (∀ i, i < k - (tA tp sz e) → i < 8 → J 159 i = nI (tp ((tA tp sz e) + i))) → VV yX12_next cX12_next 4 none 1 Q b ad 117 [some (.ref (b + 157)), some (.int (nI k)), some (.int (lkV (lk tp sz (tA tp sz e)))), none] [] J L R := by
    intro k J ek k1 k2 fr q4 q8 ql
    refine v_aload_0 dX12_next_117 ?_
    refine v_iload_1 dX12_next_118 ?_
    refine u_putI dX12_next_119 gf_X12_66 (by first | assumption | rfl | exact led_1 (by assumption) | exact led_2 (by assumption) | exact bk_m (by assumption) (by first | assumption | omega) | exact bk_p (by assumption) (by first | assumption | omega) | exact bk_o (by assumption) (by first | assumption | omega) | exact bk_s (by assumption) (by first | assumption | omega) | exact bk_1 (by assumption) | exact bk_2 (by assumption) | exact bk_3 (by assumption) | exact bk_4 (by assumption) | exact bk_5 (by assumption) | exact bk_6 (by assumption) | exact bk_7 (by assumption) | exact bk_8 (by assumption) | exact sh_ring _ (by first | assumption | omega) | exact sh_imgs _ (by first | assumption | omega)) rfl rfl rfl ?_
    refine v_aload_0 dX12_next_122 ?_
    refine v_aload_0 dX12_next_123 ?_
    refine u_getI dX12_next_124 gf_X12_76 (by first | assumption | rfl | exact led_1 (by assumption) | exact led_2 (by assumption) | exact bk_m (by assumption) (by first | assumption | omega) | exact bk_p (by assumption) (by first | assumption | omega) | exact bk_o (by assumption) (by first | assumption | omega) | exact bk_s (by assumption) (by first | assumption | omega) | exact bk_1 (by assumption) | exact bk_2 (by assumption) | exact bk_3 (by assumption) | exact bk_4 (by assumption) | exact bk_5 (by assumption) | exact bk_6 (by assumption) | exact bk_7 (by assumption) | exact bk_8 (by assumption) | exact sh_ring _ (by first | assumption | omega) | exact sh_imgs _ (by first | assumption | omega)) ?_
    rw [ui_o (by decide), q8]
    refine v_bipush (v := nI 8) dX12_next_127 (by decide) ?_
    refine v_icmp_le (tgt := 136) dX12_next_129 (by decide) (fun hc129 => ?_) (fun hc129 => ?_)
    · (try rw [nI_leI (by omega) (by omega)] at hc129)
      refine v_iconst (v := nI 2) dX12_next_136 (by decide) ?_
      refine u_putI dX12_next_137 gf_X12_82 (by first | assumption | rfl | exact led_1 (by assumption) | exact led_2 (by assumption) | exact bk_m (by assumption) (by first | assumption | omega) | exact bk_p (by assumption) (by first | assumption | omega) | exact bk_o (by assumption) (by first | assumption | omega) | exact bk_s (by assumption) (by first | assumption | omega) | exact bk_1 (by assumption) | exact bk_2 (by assumption) | exact bk_3 (by assumption) | exact bk_4 (by assumption) | exact bk_5 (by assumption) | exact bk_6 (by assumption) | exact bk_7 (by assumption) | exact bk_8 (by assumption) | exact sh_ring _ (by first | assumption | omega) | exact sh_imgs _ (by first | assumption | omega)) rfl rfl rfl ?_
      refine v_goto (tgt := 247) dX12_next_140 (by decide) ?_
      refine v_vret dX12_next_247 rfl rfl rfl rfl ?_
      refine hQ _ ⟨?_, ?_, ?_, fun q => ?_, fun q => ?_⟩ ((fr.up (by decide)).up (by decide))
      · rw [ui_o (by decide), ui_o (by decide), q4]
      · rw [ui_o (by decide), ui_s, hk.1, ek]
      · rw [ui_s, hk.2, ek]; first | rw [if_neg (by omega)] | rw [if_pos (by omega)]
      · rw [hk.2] at q; split at q <;> cases q
      · have q2 : k - tA tp sz e ≤ 8 := by rw [hk.2, ek] at q; split at q; cases q; omega
        refine ⟨by rw [ui_o (by decide), ui_o (by decide), q8, hk.1, ek], fun i hi => ?_⟩
        rw [hk.1, ek] at hi
        rw [ui_ne (by decide), ui_ne (by decide)]
        exact ql i hi (by omega)
    · (try rw [nI_leI (by omega) (by omega)] at hc129)
      refine v_iconst (v := nI 1) dX12_next_132 (by decide) ?_
      refine v_goto (tgt := 137) dX12_next_133 (by decide) ?_
      refine u_putI dX12_next_137 gf_X12_82 (by first | assumption | rfl | exact led_1 (by assumption) | exact led_2 (by assumption) | exact bk_m (by assumption) (by first | assumption | omega) | exact bk_p (by assumption) (by first | assumption | omega) | exact bk_o (by assumption) (by first | assumption | omega) | exact bk_s (by assumption) (by first | assumption | omega) | exact bk_1 (by assumption) | exact bk_2 (by assumption) | exact bk_3 (by assumption) | exact bk_4 (by assumption) | exact bk_5 (by assumption) | exact bk_6 (by assumption) | exact bk_7 (by assumption) | exact bk_8 (by assumption) | exact sh_ring _ (by first | assumption | omega) | exact sh_imgs _ (by first | assumption | omega)) rfl rfl rfl ?_
      refine v_goto (tgt := 247) dX12_next_140 (by decide) ?_
      refine v_vret dX12_next_247 rfl rfl rfl rfl ?_
      refine hQ _ ⟨?_, ?_, ?_, fun q => ?_, fun q => ?_⟩ ((fr.up (by decide)).up (by decide))
      · rw [ui_o (by decide), ui_o (by decide), q4]
      · rw [ui_o (by decide), ui_s, hk.1, ek]
      · rw [ui_s, hk.2, ek]; first | rw [if_neg (by omega)] | rw [if_pos (by omega)]
      · rw [hk.2] at q; split at q <;> cases q
      · have q2 : k - tA tp sz e ≤ 8 := by rw [hk.2, ek] at q; split at q; cases q; omega
        refine ⟨by rw [ui_o (by decide), ui_o (by decide), q8, hk.1, ek], fun i hi => ?_⟩
        rw [hk.1, ek] at hi
        rw [ui_ne (by decide), ui_ne (by decide)]
        exact ql i hi (by omega)
  intro n
  induction n with
  | zero =>
    intro k J hn k1 k2 hr fr q4 q8 ql
    have hB := h.fr fr
    have ek : k = sz := by omega
    have hl : lk tp sz k = 256 := lk_out (by omega)
    refine v_aload_0 dX12_next_67 ?_
    refine v_iload_1 dX12_next_68 ?_
    refine u_callV_1 dX12_next_69 ml_X12_69 mv_X12_look (by first | assumption | rfl | exact led_1 (by assumption) | exact led_2 (by assumption) | exact bk_m (by assumption) (by first | assumption | omega) | exact bk_p (by assumption) (by first | assumption | omega) | exact bk_o (by assumption) (by first | assumption | omega) | exact bk_s (by assumption) (by first | assumption | omega) | exact bk_1 (by assumption) | exact bk_2 (by assumption) | exact bk_3 (by assumption) | exact bk_4 (by assumption) | exact bk_5 (by assumption) | exact bk_6 (by assumption) | exact bk_7 (by assumption) | exact bk_8 (by assumption) | exact sh_ring _ (by first | assumption | omega) | exact sh_imgs _ (by first | assumption | omega)) (by decide) rfl (by decide) (Nat.le_of_ble_eq_true rfl) (c_X12_look hR hB (by omega) ?_)
    refine u_callS_1 dX12_next_72 ml_X12_85 ms_X12_isSmall (by decide) (Nat.le_of_ble_eq_true rfl) (c_X12_isSmall (lk_le hby _) ?_)
    refine v_if_eq (tgt := 117) dX12_next_75 (by decide) (fun hc75 => ?_) (fun hc75 => ?_)
    · (first | rw [bI_0, Bool.not_eq_false] at hc75 | rw [bI_0] at hc75 | rw [show (0 : Int32) = nI 0 from rfl, nI_eq (by omega) (by omega)] at hc75 | skip)
      exact tail k J hr.symm k1 k2 fr q4 q8 ql
    · (rw [hl, isS_256] at hc75; exact absurd hc75 (by decide))
  | succ n ih =>
    intro k J hn k1 k2 hr fr q4 q8 ql
    have hB := h.fr fr
    have hlk : lk tp sz k = tp k := lk_in (by omega)
    have hb := hby k (by omega)
    have hlv : lkV (lk tp sz k) = nI (tp k) := by rw [hlk]; unfold lkV; rw [if_neg (by omega)]
    refine v_aload_0 dX12_next_67 ?_
    refine v_iload_1 dX12_next_68 ?_
    refine u_callV_1 dX12_next_69 ml_X12_69 mv_X12_look (by first | assumption | rfl | exact led_1 (by assumption) | exact led_2 (by assumption) | exact bk_m (by assumption) (by first | assumption | omega) | exact bk_p (by assumption) (by first | assumption | omega) | exact bk_o (by assumption) (by first | assumption | omega) | exact bk_s (by assumption) (by first | assumption | omega) | exact bk_1 (by assumption) | exact bk_2 (by assumption) | exact bk_3 (by assumption) | exact bk_4 (by assumption) | exact bk_5 (by assumption) | exact bk_6 (by assumption) | exact bk_7 (by assumption) | exact bk_8 (by assumption) | exact sh_ring _ (by first | assumption | omega) | exact sh_imgs _ (by first | assumption | omega)) (by decide) rfl (by decide) (Nat.le_of_ble_eq_true rfl) (c_X12_look hR hB (by omega) ?_)
    refine u_callS_1 dX12_next_72 ml_X12_85 ms_X12_isSmall (by decide) (Nat.le_of_ble_eq_true rfl) (c_X12_isSmall (lk_le hby _) ?_)
    refine v_if_eq (tgt := 117) dX12_next_75 (by decide) (fun hc75 => ?_) (fun hc75 => ?_)
    · (first | rw [bI_0, Bool.not_eq_false] at hc75 | rw [bI_0] at hc75 | rw [show (0 : Int32) = nI 0 from rfl, nI_eq (by omega) (by omega)] at hc75 | skip)
      exact tail k J (by rw [← hr]; exact rn_f (p := smlp tp sz) hc75) k1 k2 fr q4 q8 ql
    · (first | rw [bI_0, Bool.not_eq_false] at hc75 | rw [bI_0] at hc75 | rw [show (0 : Int32) = nI 0 from rfl, nI_eq (by omega) (by omega)] at hc75 | skip)
      refine v_aload_0 dX12_next_78 ?_
      refine u_getI dX12_next_79 gf_X12_76 (by first | assumption | rfl | exact led_1 (by assumption) | exact led_2 (by assumption) | exact bk_m (by assumption) (by first | assumption | omega) | exact bk_p (by assumption) (by first | assumption | omega) | exact bk_o (by assumption) (by first | assumption | omega) | exact bk_s (by assumption) (by first | assumption | omega) | exact bk_1 (by assumption) | exact bk_2 (by assumption) | exact bk_3 (by assumption) | exact bk_4 (by assumption) | exact bk_5 (by assumption) | exact bk_6 (by assumption) | exact bk_7 (by assumption) | exact bk_8 (by assumption) | exact sh_ring _ (by first | assumption | omega) | exact sh_imgs _ (by first | assumption | omega)) ?_
      rw [q8]
      refine v_bipush (v := nI 8) dX12_next_82 (by decide) ?_
      refine v_icmp_ge (tgt := 101) dX12_next_84 (by decide) (fun hc84 => ?_) (fun hc84 => ?_)
      · (try rw [nI_leI (by omega) (by omega)] at hc84)
        refine v_aload_0 dX12_next_101 ?_
        refine v_dup dX12_next_102 rfl ?_
        refine u_getI dX12_next_103 gf_X12_76 (by first | assumption | rfl | exact led_1 (by assumption) | exact led_2 (by assumption) | exact bk_m (by assumption) (by first | assumption | omega) | exact bk_p (by assumption) (by first | assumption | omega) | exact bk_o (by assumption) (by first | assumption | omega) | exact bk_s (by assumption) (by first | assumption | omega) | exact bk_1 (by assumption) | exact bk_2 (by assumption) | exact bk_3 (by assumption) | exact bk_4 (by assumption) | exact bk_5 (by assumption) | exact bk_6 (by assumption) | exact bk_7 (by assumption) | exact bk_8 (by assumption) | exact sh_ring _ (by first | assumption | omega) | exact sh_imgs _ (by first | assumption | omega)) ?_
        first | rw [ui_ne (by decide), q8] | rw [q8]
        refine v_iconst (v := nI 1) dX12_next_106 (by decide) ?_
        refine v_iadd dX12_next_107 ?_
        rw [nI_add]
        refine u_putI dX12_next_108 gf_X12_76 (by first | assumption | rfl | exact led_1 (by assumption) | exact led_2 (by assumption) | exact bk_m (by assumption) (by first | assumption | omega) | exact bk_p (by assumption) (by first | assumption | omega) | exact bk_o (by assumption) (by first | assumption | omega) | exact bk_s (by assumption) (by first | assumption | omega) | exact bk_1 (by assumption) | exact bk_2 (by assumption) | exact bk_3 (by assumption) | exact bk_4 (by assumption) | exact bk_5 (by assumption) | exact bk_6 (by assumption) | exact bk_7 (by assumption) | exact bk_8 (by assumption) | exact sh_ring _ (by first | assumption | omega) | exact sh_imgs _ (by first | assumption | omega)) rfl rfl rfl ?_
        refine v_iinc_1 (v := 1) rfl dX12_next_111 (by decide) ?_
        rw [show nI k + 1 = nI (k + 1) from nI_1 k]
        refine v_goto (tgt := 67) dX12_next_114 (by decide) ?_
        first
          | (refine ih (k + 1) _ (by omega) (by omega) (by omega) (by rw [← hr]; exact (rn_t (p := smlp tp sz) hc75).symm) (fr.let.up (by decide)) (by rw [ui_o (by decide), ui_ne (by decide)]; exact q4) (by rw [ui_s]; congr 1; omega) (fun i hi h8 => ?_)
             rw [ui_ne (by decide)]
             by_cases ei : i = k - tA tp sz e
             · subst ei; rw [ui_s, show tA tp sz e + (k - tA tp sz e) = k by omega]
             · rw [ui_o ei]; exact ql i (by omega) h8)
          | (refine ih (k + 1) _ (by omega) (by omega) (by omega) (by rw [← hr]; exact (rn_t (p := smlp tp sz) hc75).symm) (fr.up (by decide)) (by rw [ui_o (by decide)]; exact q4) (by rw [ui_s]; congr 1; omega) (fun i hi h8 => ?_)
             rw [ui_ne (by decide)]
             exact ql i (by omega) h8)
      · (try rw [nI_leI (by omega) (by omega)] at hc84)
        refine v_aload_0 dX12_next_87 ?_
        refine u_getR dX12_next_88 gf_X12_17 (by first | assumption | rfl | exact led_1 (by assumption) | exact led_2 (by assumption) | exact bk_m (by assumption) (by first | assumption | omega) | exact bk_p (by assumption) (by first | assumption | omega) | exact bk_o (by assumption) (by first | assumption | omega) | exact bk_s (by assumption) (by first | assumption | omega) | exact bk_1 (by assumption) | exact bk_2 (by assumption) | exact bk_3 (by assumption) | exact bk_4 (by assumption) | exact bk_5 (by assumption) | exact bk_6 (by assumption) | exact bk_7 (by assumption) | exact bk_8 (by assumption) | exact sh_ring _ (by first | assumption | omega) | exact sh_imgs _ (by first | assumption | omega)) (ro_X12_12 (by assumption)) ?_
        refine v_aload_0 dX12_next_91 ?_
        refine u_getI dX12_next_92 gf_X12_76 (by first | assumption | rfl | exact led_1 (by assumption) | exact led_2 (by assumption) | exact bk_m (by assumption) (by first | assumption | omega) | exact bk_p (by assumption) (by first | assumption | omega) | exact bk_o (by assumption) (by first | assumption | omega) | exact bk_s (by assumption) (by first | assumption | omega) | exact bk_1 (by assumption) | exact bk_2 (by assumption) | exact bk_3 (by assumption) | exact bk_4 (by assumption) | exact bk_5 (by assumption) | exact bk_6 (by assumption) | exact bk_7 (by assumption) | exact bk_8 (by assumption) | exact sh_ring _ (by first | assumption | omega) | exact sh_imgs _ (by first | assumption | omega)) ?_
        rw [q8]
        refine v_aload_0 dX12_next_95 ?_
        refine v_iload_1 dX12_next_96 ?_
        skip
        refine u_callV_1 dX12_next_97 ml_X12_69 mv_X12_look (by first | assumption | rfl | exact led_1 (by assumption) | exact led_2 (by assumption) | exact bk_m (by assumption) (by first | assumption | omega) | exact bk_p (by assumption) (by first | assumption | omega) | exact bk_o (by assumption) (by first | assumption | omega) | exact bk_s (by assumption) (by first | assumption | omega) | exact bk_1 (by assumption) | exact bk_2 (by assumption) | exact bk_3 (by assumption) | exact bk_4 (by assumption) | exact bk_5 (by assumption) | exact bk_6 (by assumption) | exact bk_7 (by assumption) | exact bk_8 (by assumption) | exact sh_ring _ (by first | assumption | omega) | exact sh_imgs _ (by first | assumption | omega)) (by decide) rfl (by decide) (Nat.le_of_ble_eq_true rfl) (c_X12_look hR hB (by omega) ?_)
        rw [hlv]
        refine u_iast dX12_next_100 (by first | assumption | rfl | exact led_1 (by assumption) | exact led_2 (by assumption) | exact bk_m (by assumption) (by first | assumption | omega) | exact bk_p (by assumption) (by first | assumption | omega) | exact bk_o (by assumption) (by first | assumption | omega) | exact bk_s (by assumption) (by first | assumption | omega) | exact bk_1 (by assumption) | exact bk_2 (by assumption) | exact bk_3 (by assumption) | exact bk_4 (by assumption) | exact bk_5 (by assumption) | exact bk_6 (by assumption) | exact bk_7 (by assumption) | exact bk_8 (by assumption) | exact sh_ring _ (by first | assumption | omega) | exact sh_imgs _ (by first | assumption | omega)) (by first | with_reducible rfl | (simp only [nlit, nI_add, pk_mul]; with_reducible rfl) | rfl) (by first | assumption | omega) (by first | assumption | decide) ?_
        refine v_aload_0 dX12_next_101 ?_
        refine v_dup dX12_next_102 rfl ?_
        refine u_getI dX12_next_103 gf_X12_76 (by first | assumption | rfl | exact led_1 (by assumption) | exact led_2 (by assumption) | exact bk_m (by assumption) (by first | assumption | omega) | exact bk_p (by assumption) (by first | assumption | omega) | exact bk_o (by assumption) (by first | assumption | omega) | exact bk_s (by assumption) (by first | assumption | omega) | exact bk_1 (by assumption) | exact bk_2 (by assumption) | exact bk_3 (by assumption) | exact bk_4 (by assumption) | exact bk_5 (by assumption) | exact bk_6 (by assumption) | exact bk_7 (by assumption) | exact bk_8 (by assumption) | exact sh_ring _ (by first | assumption | omega) | exact sh_imgs _ (by first | assumption | omega)) ?_
        first | rw [ui_ne (by decide), q8] | rw [q8]
        refine v_iconst (v := nI 1) dX12_next_106 (by decide) ?_
        refine v_iadd dX12_next_107 ?_
        rw [nI_add]
        refine u_putI dX12_next_108 gf_X12_76 (by first | assumption | rfl | exact led_1 (by assumption) | exact led_2 (by assumption) | exact bk_m (by assumption) (by first | assumption | omega) | exact bk_p (by assumption) (by first | assumption | omega) | exact bk_o (by assumption) (by first | assumption | omega) | exact bk_s (by assumption) (by first | assumption | omega) | exact bk_1 (by assumption) | exact bk_2 (by assumption) | exact bk_3 (by assumption) | exact bk_4 (by assumption) | exact bk_5 (by assumption) | exact bk_6 (by assumption) | exact bk_7 (by assumption) | exact bk_8 (by assumption) | exact sh_ring _ (by first | assumption | omega) | exact sh_imgs _ (by first | assumption | omega)) rfl rfl rfl ?_
        refine v_iinc_1 (v := 1) rfl dX12_next_111 (by decide) ?_
        rw [show nI k + 1 = nI (k + 1) from nI_1 k]
        refine v_goto (tgt := 67) dX12_next_114 (by decide) ?_
        first
          | (refine ih (k + 1) _ (by omega) (by omega) (by omega) (by rw [← hr]; exact (rn_t (p := smlp tp sz) hc75).symm) (fr.let.up (by decide)) (by rw [ui_o (by decide), ui_ne (by decide)]; exact q4) (by rw [ui_s]; congr 1; omega) (fun i hi h8 => ?_)
             rw [ui_ne (by decide)]
             by_cases ei : i = k - tA tp sz e
             · subst ei; rw [ui_s, show tA tp sz e + (k - tA tp sz e) = k by omega]
             · rw [ui_o ei]; exact ql i (by omega) h8)
          | (refine ih (k + 1) _ (by omega) (by omega) (by omega) (by rw [← hr]; exact (rn_t (p := smlp tp sz) hc75).symm) (fr.up (by decide)) (by rw [ui_o (by decide)]; exact q4) (by rw [ui_s]; congr 1; omega) (fun i hi h8 => ?_)
             rw [ui_ne (by decide)]
             exact ql i (by omega) h8)
theorem num_dig {a k : Nat} (hk : a ≤ k) (h : 48 ≤ tp k) : nI 10 * nI (num tp a (k - a)) + nI (tp k) - nI 48 = nI (num tp a (k + 1 - a)) := by
  rw [pk_mul, nI_add, pk_sub (by omega), show k + 1 - a = (k - a) + 1 by omega, num, show a + (k - a) = k by omega]
  congr 1; omega
theorem l_nxD (hR : RO R) (h : BsM I tp sz) (he : e ≤ sz) (hA : (tA tp sz e) < sz) (hs : isS (tp (tA tp sz e)) = false) (hd : isD (tp (tA tp sz e)) = true) (hQ : ∀ J : HI, TkM J tp sz e → FrT I J → Q none SH J L R) : ∀ (n k : Nat) (J : HI), n = sz - k → (tA tp sz e) ≤ k → k ≤ sz → rn (dgt tp sz) n k = dE tp sz (tA tp sz e) → FrT I J → J 157 4 = nI (tA tp sz e) → (k - (tA tp sz e) ≤ 3 → J 157 7 = nI (num tp (tA tp sz e) (k - (tA tp sz e)))) → VV yX12_next cX12_next 4 none 1 Q b ad 152 [some (.ref (b + 157)), some (.int (nI k)), some (.int (lkV (lk tp sz (tA tp sz e)))), some (.int (nI (k - (tA tp sz e))))] [] J L R := by
  have h9 := h.2.1
  have hby : ∀ i, i < sz → tp i < 256 := fun i hi => (h.2.2 i hi).2
  have hab := tA_b (tp := tp) he
  have hk := tk_dig hA (hby _ hA) hs hd
  have tail : ∀ (k : Nat) (J : HI), dE tp sz (tA tp sz e) = k → (tA tp sz e) ≤ k → k ≤ sz → FrT I J → J 157 4 = nI (tA tp sz e) → (k - (tA tp sz e) ≤ 3 → J 157 7 = nI (num tp (tA tp sz e) (k - (tA tp sz e)))) → VV yX12_next cX12_next 4 none 1 Q b ad 197 [some (.ref (b + 157)), some (.int (nI k)), some (.int (lkV (lk tp sz (tA tp sz e)))), some (.int (nI (k - (tA tp sz e))))] [] J L R := by
    intro k J ek k1 k2 fr q4 q7
    refine v_aload_0 dX12_next_197 ?_
    refine v_iload_1 dX12_next_198 ?_
    refine u_putI dX12_next_199 gf_X12_66 (by first | assumption | rfl | exact led_1 (by assumption) | exact led_2 (by assumption) | exact bk_m (by assumption) (by first | assumption | omega) | exact bk_p (by assumption) (by first | assumption | omega) | exact bk_o (by assumption) (by first | assumption | omega) | exact bk_s (by assumption) (by first | assumption | omega) | exact bk_1 (by assumption) | exact bk_2 (by assumption) | exact bk_3 (by assumption) | exact bk_4 (by assumption) | exact bk_5 (by assumption) | exact bk_6 (by assumption) | exact bk_7 (by assumption) | exact bk_8 (by assumption) | exact sh_ring _ (by first | assumption | omega) | exact sh_imgs _ (by first | assumption | omega)) rfl rfl rfl ?_
    refine v_aload_0 dX12_next_202 ?_
    refine v_iload_3 dX12_next_203 ?_
    refine v_iconst (v := nI 3) dX12_next_204 (by decide) ?_
    refine v_icmp_le (tgt := 212) dX12_next_205 (by decide) (fun hc205 => ?_) (fun hc205 => ?_)
    · (try rw [nI_leI (by omega) (by omega)] at hc205)
      refine v_iconst (v := nI 3) dX12_next_212 (by decide) ?_
      refine u_putI dX12_next_213 gf_X12_82 (by first | assumption | rfl | exact led_1 (by assumption) | exact led_2 (by assumption) | exact bk_m (by assumption) (by first | assumption | omega) | exact bk_p (by assumption) (by first | assumption | omega) | exact bk_o (by assumption) (by first | assumption | omega) | exact bk_s (by assumption) (by first | assumption | omega) | exact bk_1 (by assumption) | exact bk_2 (by assumption) | exact bk_3 (by assumption) | exact bk_4 (by assumption) | exact bk_5 (by assumption) | exact bk_6 (by assumption) | exact bk_7 (by assumption) | exact bk_8 (by assumption) | exact sh_ring _ (by first | assumption | omega) | exact sh_imgs _ (by first | assumption | omega)) rfl rfl rfl ?_
      refine v_goto (tgt := 247) dX12_next_216 (by decide) ?_
      refine v_vret dX12_next_247 rfl rfl rfl rfl ?_
      refine hQ _ ⟨?_, ?_, ?_, fun q => ?_, fun q => ?_⟩ ((fr.up (by decide)).up (by decide))
      · rw [ui_o (by decide), ui_o (by decide), q4]
      · rw [ui_o (by decide), ui_s, hk.1, ek]
      · rw [ui_s, hk.2, ek]; first | rw [if_neg (by omega)] | rw [if_pos (by omega)]
      · have q2 : k - tA tp sz e ≤ 3 := by rw [hk.2, ek] at q; split at q; cases q; omega
        rw [ui_o (by decide), ui_o (by decide), q7 q2]; unfold tW; rw [hk.1, ek]
      · rw [hk.2] at q; split at q <;> cases q
    · (try rw [nI_leI (by omega) (by omega)] at hc205)
      refine v_iconst (v := nI 1) dX12_next_208 (by decide) ?_
      refine v_goto (tgt := 213) dX12_next_209 (by decide) ?_
      refine u_putI dX12_next_213 gf_X12_82 (by first | assumption | rfl | exact led_1 (by assumption) | exact led_2 (by assumption) | exact bk_m (by assumption) (by first | assumption | omega) | exact bk_p (by assumption) (by first | assumption | omega) | exact bk_o (by assumption) (by first | assumption | omega) | exact bk_s (by assumption) (by first | assumption | omega) | exact bk_1 (by assumption) | exact bk_2 (by assumption) | exact bk_3 (by assumption) | exact bk_4 (by assumption) | exact bk_5 (by assumption) | exact bk_6 (by assumption) | exact bk_7 (by assumption) | exact bk_8 (by assumption) | exact sh_ring _ (by first | assumption | omega) | exact sh_imgs _ (by first | assumption | omega)) rfl rfl rfl ?_
      refine v_goto (tgt := 247) dX12_next_216 (by decide) ?_
      refine v_vret dX12_next_247 rfl rfl rfl rfl ?_
      refine hQ _ ⟨?_, ?_, ?_, fun q => ?_, fun q => ?_⟩ ((fr.up (by decide)).up (by decide))
      · rw [ui_o (by decide), ui_o (by decide), q4]
      · rw [ui_o (by decide), ui_s, hk.1, ek]
      · rw [ui_s, hk.2, ek]; first | rw [if_neg (by omega)] | rw [if_pos (by omega)]
      · have q2 : k - tA tp sz e ≤ 3 := by rw [hk.2, ek] at q; split at q; cases q; omega
        rw [ui_o (by decide), ui_o (by decide), q7 q2]; unfold tW; rw [hk.1, ek]
      · rw [hk.2] at q; split at q <;> cases q
  intro n
  induction n with
  | zero =>
    intro k J hn k1 k2 hr fr q4 q7
    have hB := h.fr fr
    have hl : lk tp sz k = 256 := lk_out (by omega)
    refine v_aload_0 dX12_next_152 ?_
    refine v_iload_1 dX12_next_153 ?_
    refine u_callV_1 dX12_next_154 ml_X12_69 mv_X12_look (by first | assumption | rfl | exact led_1 (by assumption) | exact led_2 (by assumption) | exact bk_m (by assumption) (by first | assumption | omega) | exact bk_p (by assumption) (by first | assumption | omega) | exact bk_o (by assumption) (by first | assumption | omega) | exact bk_s (by assumption) (by first | assumption | omega) | exact bk_1 (by assumption) | exact bk_2 (by assumption) | exact bk_3 (by assumption) | exact bk_4 (by assumption) | exact bk_5 (by assumption) | exact bk_6 (by assumption) | exact bk_7 (by assumption) | exact bk_8 (by assumption) | exact sh_ring _ (by first | assumption | omega) | exact sh_imgs _ (by first | assumption | omega)) (by decide) rfl (by decide) (Nat.le_of_ble_eq_true rfl) (c_X12_look hR hB (by omega) ?_)
    refine u_callS_1 dX12_next_157 ml_X12_89 ms_X12_isDigit (by decide) (Nat.le_of_ble_eq_true rfl) (c_X12_isDigit (lk_le hby _) ?_)
    refine v_if_eq (tgt := 197) dX12_next_160 (by decide) (fun hc160 => ?_) (fun hc160 => ?_)
    · (first | rw [bI_0, Bool.not_eq_false] at hc160 | rw [bI_0] at hc160 | rw [show (0 : Int32) = nI 0 from rfl, nI_eq (by omega) (by omega)] at hc160 | skip)
      exact tail k J hr.symm k1 k2 fr q4 q7
    · (rw [hl, isD_256] at hc160; exact absurd hc160 (by decide))
  | succ n ih =>
    intro k J hn k1 k2 hr fr q4 q7
    have hB := h.fr fr
    have hlk : lk tp sz k = tp k := lk_in (by omega)
    have hb := hby k (by omega)
    have hlv : lkV (lk tp sz k) = nI (tp k) := by rw [hlk]; unfold lkV; rw [if_neg (by omega)]
    refine v_aload_0 dX12_next_152 ?_
    refine v_iload_1 dX12_next_153 ?_
    refine u_callV_1 dX12_next_154 ml_X12_69 mv_X12_look (by first | assumption | rfl | exact led_1 (by assumption) | exact led_2 (by assumption) | exact bk_m (by assumption) (by first | assumption | omega) | exact bk_p (by assumption) (by first | assumption | omega) | exact bk_o (by assumption) (by first | assumption | omega) | exact bk_s (by assumption) (by first | assumption | omega) | exact bk_1 (by assumption) | exact bk_2 (by assumption) | exact bk_3 (by assumption) | exact bk_4 (by assumption) | exact bk_5 (by assumption) | exact bk_6 (by assumption) | exact bk_7 (by assumption) | exact bk_8 (by assumption) | exact sh_ring _ (by first | assumption | omega) | exact sh_imgs _ (by first | assumption | omega)) (by decide) rfl (by decide) (Nat.le_of_ble_eq_true rfl) (c_X12_look hR hB (by omega) ?_)
    refine u_callS_1 dX12_next_157 ml_X12_89 ms_X12_isDigit (by decide) (Nat.le_of_ble_eq_true rfl) (c_X12_isDigit (lk_le hby _) ?_)
    refine v_if_eq (tgt := 197) dX12_next_160 (by decide) (fun hc160 => ?_) (fun hc160 => ?_)
    · (first | rw [bI_0, Bool.not_eq_false] at hc160 | rw [bI_0] at hc160 | rw [show (0 : Int32) = nI 0 from rfl, nI_eq (by omega) (by omega)] at hc160 | skip)
      exact tail k J (by rw [← hr]; exact rn_f (p := dgt tp sz) hc160) k1 k2 fr q4 q7
    · (first | rw [bI_0, Bool.not_eq_false] at hc160 | rw [bI_0] at hc160 | rw [show (0 : Int32) = nI 0 from rfl, nI_eq (by omega) (by omega)] at hc160 | skip)
      refine v_iload_3 dX12_next_163 ?_
      refine v_iconst (v := nI 3) dX12_next_164 (by decide) ?_
      refine v_icmp_ge (tgt := 188) dX12_next_165 (by decide) (fun hc165 => ?_) (fun hc165 => ?_)
      · (try rw [nI_leI (by omega) (by omega)] at hc165)
        refine v_iinc_3 (v := 1) rfl dX12_next_188 (by decide) ?_
        rw [show nI (k - tA tp sz e) + 1 = nI (k + 1 - tA tp sz e) by rw [nI_1]; congr 1; omega]
        refine v_iinc_1 (v := 1) rfl dX12_next_191 (by decide) ?_
        rw [show nI k + 1 = nI (k + 1) from nI_1 k]
        refine v_goto (tgt := 152) dX12_next_194 (by decide) ?_
        first
          | exact ih (k + 1) _ (by omega) (by omega) (by omega) (by rw [← hr]; exact (rn_t (p := dgt tp sz) hc160).symm) (fr.up (by decide)) (by rw [ui_o (by decide)]; exact q4) (fun _ => ui_s _ _ _ _)
          | exact ih (k + 1) _ (by omega) (by omega) (by omega) (by rw [← hr]; exact (rn_t (p := dgt tp sz) hc160).symm) fr q4 (fun w => by omega)
      · (try rw [nI_leI (by omega) (by omega)] at hc165)
        have h48 : 48 ≤ tp k := by rw [hlk] at hc160; unfold isD at hc160; rw [Bool.and_eq_true, decide_eq_true_eq] at hc160; exact hc160.1
        refine v_aload_0 dX12_next_168 ?_
        refine v_bipush (v := nI 10) dX12_next_169 (by decide) ?_
        refine v_aload_0 dX12_next_171 ?_
        refine u_getI dX12_next_172 gf_X12_79 (by first | assumption | rfl | exact led_1 (by assumption) | exact led_2 (by assumption) | exact bk_m (by assumption) (by first | assumption | omega) | exact bk_p (by assumption) (by first | assumption | omega) | exact bk_o (by assumption) (by first | assumption | omega) | exact bk_s (by assumption) (by first | assumption | omega) | exact bk_1 (by assumption) | exact bk_2 (by assumption) | exact bk_3 (by assumption) | exact bk_4 (by assumption) | exact bk_5 (by assumption) | exact bk_6 (by assumption) | exact bk_7 (by assumption) | exact bk_8 (by assumption) | exact sh_ring _ (by first | assumption | omega) | exact sh_imgs _ (by first | assumption | omega)) ?_
        rw [q7 (by omega)]
        refine v_imul dX12_next_175 ?_
        refine v_aload_0 dX12_next_176 ?_
        refine v_iload_1 dX12_next_177 ?_
        refine u_callV_1 dX12_next_178 ml_X12_69 mv_X12_look (by first | assumption | rfl | exact led_1 (by assumption) | exact led_2 (by assumption) | exact bk_m (by assumption) (by first | assumption | omega) | exact bk_p (by assumption) (by first | assumption | omega) | exact bk_o (by assumption) (by first | assumption | omega) | exact bk_s (by assumption) (by first | assumption | omega) | exact bk_1 (by assumption) | exact bk_2 (by assumption) | exact bk_3 (by assumption) | exact bk_4 (by assumption) | exact bk_5 (by assumption) | exact bk_6 (by assumption) | exact bk_7 (by assumption) | exact bk_8 (by assumption) | exact sh_ring _ (by first | assumption | omega) | exact sh_imgs _ (by first | assumption | omega)) (by decide) rfl (by decide) (Nat.le_of_ble_eq_true rfl) (c_X12_look hR hB (by omega) ?_)
        rw [hlv]
        refine v_iadd dX12_next_181 ?_
        refine v_bipush (v := nI 48) dX12_next_182 (by decide) ?_
        refine v_isub dX12_next_184 ?_
        rw [num_dig k1 h48]
        refine u_putI dX12_next_185 gf_X12_79 (by first | assumption | rfl | exact led_1 (by assumption) | exact led_2 (by assumption) | exact bk_m (by assumption) (by first | assumption | omega) | exact bk_p (by assumption) (by first | assumption | omega) | exact bk_o (by assumption) (by first | assumption | omega) | exact bk_s (by assumption) (by first | assumption | omega) | exact bk_1 (by assumption) | exact bk_2 (by assumption) | exact bk_3 (by assumption) | exact bk_4 (by assumption) | exact bk_5 (by assumption) | exact bk_6 (by assumption) | exact bk_7 (by assumption) | exact bk_8 (by assumption) | exact sh_ring _ (by first | assumption | omega) | exact sh_imgs _ (by first | assumption | omega)) rfl rfl rfl ?_
        refine v_iinc_3 (v := 1) rfl dX12_next_188 (by decide) ?_
        rw [show nI (k - tA tp sz e) + 1 = nI (k + 1 - tA tp sz e) by rw [nI_1]; congr 1; omega]
        refine v_iinc_1 (v := 1) rfl dX12_next_191 (by decide) ?_
        rw [show nI k + 1 = nI (k + 1) from nI_1 k]
        refine v_goto (tgt := 152) dX12_next_194 (by decide) ?_
        first
          | exact ih (k + 1) _ (by omega) (by omega) (by omega) (by rw [← hr]; exact (rn_t (p := dgt tp sz) hc160).symm) (fr.up (by decide)) (by rw [ui_o (by decide)]; exact q4) (fun _ => ui_s _ _ _ _)
          | exact ih (k + 1) _ (by omega) (by omega) (by omega) (by rw [← hr]; exact (rn_t (p := dgt tp sz) hc160).symm) fr q4 (fun w => by omega)
theorem c_X12_next (hR : RO R) (h : BsM I tp sz) (he : e ≤ sz) (h5 : I 157 5 = nI e) (hQ : ∀ J : HI, TkM J tp sz e → FrT I J → Q none SH J L R) : KK 1 mX12_next b ad [.ref (b + 157)] I L R Q := by
  have h9 := h.2.1
  have hby : ∀ i, i < sz → tp i < 256 := fun i hi => (h.2.2 i hi).2
  have hab := tA_b (tp := tp) he
  have hB := h
  have fr4 : FrT I (ui (ui (ui I 157 4 (nI (tA tp sz e))) 157 8 (nI 0)) 157 7 (nI 0)) := ((FrT.refl.up (by decide)).up (by decide)).up (by decide)
  have tail : VV yX12_next cX12_next 4 none 1 Q b ad 21 [some (.ref (b + 157)), some (.int (nI (tA tp sz e))), none, none] [] I L R := by
    refine v_aload_0 dX12_next_21 ?_
    refine v_iload_1 dX12_next_22 ?_
    refine u_putI dX12_next_23 gf_X12_73 (by first | assumption | rfl | exact led_1 (by assumption) | exact led_2 (by assumption) | exact bk_m (by assumption) (by first | assumption | omega) | exact bk_p (by assumption) (by first | assumption | omega) | exact bk_o (by assumption) (by first | assumption | omega) | exact bk_s (by assumption) (by first | assumption | omega) | exact bk_1 (by assumption) | exact bk_2 (by assumption) | exact bk_3 (by assumption) | exact bk_4 (by assumption) | exact bk_5 (by assumption) | exact bk_6 (by assumption) | exact bk_7 (by assumption) | exact bk_8 (by assumption) | exact sh_ring _ (by first | assumption | omega) | exact sh_imgs _ (by first | assumption | omega)) rfl rfl rfl ?_
    refine v_aload_0 dX12_next_26 ?_
    refine v_iload_1 dX12_next_27 ?_
    refine u_callV_1 dX12_next_28 ml_X12_69 mv_X12_look (by first | assumption | rfl | exact led_1 (by assumption) | exact led_2 (by assumption) | exact bk_m (by assumption) (by first | assumption | omega) | exact bk_p (by assumption) (by first | assumption | omega) | exact bk_o (by assumption) (by first | assumption | omega) | exact bk_s (by assumption) (by first | assumption | omega) | exact bk_1 (by assumption) | exact bk_2 (by assumption) | exact bk_3 (by assumption) | exact bk_4 (by assumption) | exact bk_5 (by assumption) | exact bk_6 (by assumption) | exact bk_7 (by assumption) | exact bk_8 (by assumption) | exact sh_ring _ (by first | assumption | omega) | exact sh_imgs _ (by first | assumption | omega)) (by decide) rfl (by decide) (Nat.le_of_ble_eq_true rfl) (c_X12_look hR (hB.fr (FrT.refl.up (by decide))) (by omega) ?_)
    refine v_istore_2 rfl dX12_next_31 ?_
    refine v_aload_0 dX12_next_32 ?_
    refine v_iconst (v := nI 0) dX12_next_33 (by decide) ?_
    refine u_putI dX12_next_34 gf_X12_76 (by first | assumption | rfl | exact led_1 (by assumption) | exact led_2 (by assumption) | exact bk_m (by assumption) (by first | assumption | omega) | exact bk_p (by assumption) (by first | assumption | omega) | exact bk_o (by assumption) (by first | assumption | omega) | exact bk_s (by assumption) (by first | assumption | omega) | exact bk_1 (by assumption) | exact bk_2 (by assumption) | exact bk_3 (by assumption) | exact bk_4 (by assumption) | exact bk_5 (by assumption) | exact bk_6 (by assumption) | exact bk_7 (by assumption) | exact bk_8 (by assumption) | exact sh_ring _ (by first | assumption | omega) | exact sh_imgs _ (by first | assumption | omega)) rfl rfl rfl ?_
    refine v_aload_0 dX12_next_37 ?_
    refine v_iconst (v := nI 0) dX12_next_38 (by decide) ?_
    refine u_putI dX12_next_39 gf_X12_79 (by first | assumption | rfl | exact led_1 (by assumption) | exact led_2 (by assumption) | exact bk_m (by assumption) (by first | assumption | omega) | exact bk_p (by assumption) (by first | assumption | omega) | exact bk_o (by assumption) (by first | assumption | omega) | exact bk_s (by assumption) (by first | assumption | omega) | exact bk_1 (by assumption) | exact bk_2 (by assumption) | exact bk_3 (by assumption) | exact bk_4 (by assumption) | exact bk_5 (by assumption) | exact bk_6 (by assumption) | exact bk_7 (by assumption) | exact bk_8 (by assumption) | exact sh_ring _ (by first | assumption | omega) | exact sh_imgs _ (by first | assumption | omega)) rfl rfl rfl ?_
    refine v_iload_2 dX12_next_42 ?_
    refine v_iconst (v := -1) dX12_next_43 (by decide) ?_
    refine v_icmp_ne (tgt := 60) dX12_next_44 (by decide) (fun hc44 => ?_) (fun hc44 => ?_)
    · rw [(lkV_c _ (lk_le hby _)).2.2.2.2.2.2.2] at hc44
      refine v_iload_2 dX12_next_60 ?_
      refine u_callS_1 dX12_next_61 ml_X12_85 ms_X12_isSmall (by decide) (Nat.le_of_ble_eq_true rfl) (c_X12_isSmall (lk_le hby _) ?_)
      refine v_if_eq (tgt := 143) dX12_next_64 (by decide) (fun hc64 => ?_) (fun hc64 => ?_)
      · (first | rw [bI_0, Bool.not_eq_false] at hc64 | rw [bI_0] at hc64 | rw [show (0 : Int32) = nI 0 from rfl, nI_eq (by omega) (by omega)] at hc64 | skip)
        refine v_iload_2 dX12_next_143 ?_
        refine u_callS_1 dX12_next_144 ml_X12_89 ms_X12_isDigit (by decide) (Nat.le_of_ble_eq_true rfl) (c_X12_isDigit (lk_le hby _) ?_)
        refine v_if_eq (tgt := 219) dX12_next_147 (by decide) (fun hc147 => ?_) (fun hc147 => ?_)
        · (first | rw [bI_0, Bool.not_eq_false] at hc147 | rw [bI_0] at hc147 | rw [show (0 : Int32) = nI 0 from rfl, nI_eq (by omega) (by omega)] at hc147 | skip)
          refine v_aload_0 dX12_next_219 ?_
          refine v_iload_1 dX12_next_220 ?_
          refine v_iconst (v := nI 1) dX12_next_221 (by decide) ?_
          refine v_iadd dX12_next_222 ?_
          rw [nI_add]
          refine u_putI dX12_next_223 gf_X12_66 (by first | assumption | rfl | exact led_1 (by assumption) | exact led_2 (by assumption) | exact bk_m (by assumption) (by first | assumption | omega) | exact bk_p (by assumption) (by first | assumption | omega) | exact bk_o (by assumption) (by first | assumption | omega) | exact bk_s (by assumption) (by first | assumption | omega) | exact bk_1 (by assumption) | exact bk_2 (by assumption) | exact bk_3 (by assumption) | exact bk_4 (by assumption) | exact bk_5 (by assumption) | exact bk_6 (by assumption) | exact bk_7 (by assumption) | exact bk_8 (by assumption) | exact sh_ring _ (by first | assumption | omega) | exact sh_imgs _ (by first | assumption | omega)) rfl rfl rfl ?_
          refine v_aload_0 dX12_next_226 ?_
          refine v_iload_2 dX12_next_227 ?_
          refine v_bipush (v := nI 59) dX12_next_228 (by decide) ?_
          refine v_icmp_eq (tgt := 239) dX12_next_230 (by decide) (fun hc230 => ?_) (fun hc230 => ?_)
          · rw [(lkV_c _ (lk_le hby _)).2.2.2.2.2.1] at hc230
            refine v_iload_2 dX12_next_239 ?_
            refine v_goto (tgt := 244) dX12_next_240 (by decide) ?_
            refine u_putI dX12_next_244 gf_X12_82 (by first | assumption | rfl | exact led_1 (by assumption) | exact led_2 (by assumption) | exact bk_m (by assumption) (by first | assumption | omega) | exact bk_p (by assumption) (by first | assumption | omega) | exact bk_o (by assumption) (by first | assumption | omega) | exact bk_s (by assumption) (by first | assumption | omega) | exact bk_1 (by assumption) | exact bk_2 (by assumption) | exact bk_3 (by assumption) | exact bk_4 (by assumption) | exact bk_5 (by assumption) | exact bk_6 (by assumption) | exact bk_7 (by assumption) | exact bk_8 (by assumption) | exact sh_ring _ (by first | assumption | omega) | exact sh_imgs _ (by first | assumption | omega)) rfl rfl rfl ?_
            refine v_vret dX12_next_247 rfl rfl rfl rfl ?_
            have hA : tA tp sz e < sz := Nat.lt_of_not_le (fun w => hc44 (lk_out (by omega)))
            have hlk : lk tp sz (tA tp sz e) = tp (tA tp sz e) := lk_in hA
            rw [hlk] at hc64 hc147
            have hk := tk_sign hA (hby _ hA) hc64 hc147
            refine hQ _ ⟨?_, ?_, ?_, fun q => ?_, fun q => ?_⟩ ((fr4.up (by decide)).up (by decide))
            · rw [ui_o (by decide), ui_o (by decide), ui_o (by decide), ui_o (by decide), ui_s]
            · rw [ui_o (by decide), ui_s, hk.1]
            · rw [ui_s, hk.2]
              first
                | (rw [hlk] at hc230; rw [hlk, hc230]; rfl)
                | (rw [hlk] at hc230 hc236; rw [hlk, hc236]; rfl)
                | (rw [hlk] at hc230 hc236; rw [if_neg hc230, if_neg hc236])
            · exfalso; rw [hk.2] at q; (repeat' split at q) <;> cases q
            · exfalso; rw [hk.2] at q; (repeat' split at q) <;> cases q
          · rw [(lkV_c _ (lk_le hby _)).2.2.2.2.2.1] at hc230
            refine v_iload_2 dX12_next_233 ?_
            refine v_bipush (v := nI 44) dX12_next_234 (by decide) ?_
            refine v_icmp_ne (tgt := 243) dX12_next_236 (by decide) (fun hc236 => ?_) (fun hc236 => ?_)
            · rw [(lkV_c _ (lk_le hby _)).2.2.2.2.2.2.1] at hc236
              refine v_iconst (v := nI 1) dX12_next_243 (by decide) ?_
              refine u_putI dX12_next_244 gf_X12_82 (by first | assumption | rfl | exact led_1 (by assumption) | exact led_2 (by assumption) | exact bk_m (by assumption) (by first | assumption | omega) | exact bk_p (by assumption) (by first | assumption | omega) | exact bk_o (by assumption) (by first | assumption | omega) | exact bk_s (by assumption) (by first | assumption | omega) | exact bk_1 (by assumption) | exact bk_2 (by assumption) | exact bk_3 (by assumption) | exact bk_4 (by assumption) | exact bk_5 (by assumption) | exact bk_6 (by assumption) | exact bk_7 (by assumption) | exact bk_8 (by assumption) | exact sh_ring _ (by first | assumption | omega) | exact sh_imgs _ (by first | assumption | omega)) rfl rfl rfl ?_
              refine v_vret dX12_next_247 rfl rfl rfl rfl ?_
              have hA : tA tp sz e < sz := Nat.lt_of_not_le (fun w => hc44 (lk_out (by omega)))
              have hlk : lk tp sz (tA tp sz e) = tp (tA tp sz e) := lk_in hA
              rw [hlk] at hc64 hc147
              have hk := tk_sign hA (hby _ hA) hc64 hc147
              refine hQ _ ⟨?_, ?_, ?_, fun q => ?_, fun q => ?_⟩ ((fr4.up (by decide)).up (by decide))
              · rw [ui_o (by decide), ui_o (by decide), ui_o (by decide), ui_o (by decide), ui_s]
              · rw [ui_o (by decide), ui_s, hk.1]
              · rw [ui_s, hk.2]
                first
                  | (rw [hlk] at hc230; rw [hlk, hc230]; rfl)
                  | (rw [hlk] at hc230 hc236; rw [hlk, hc236]; rfl)
                  | (rw [hlk] at hc230 hc236; rw [if_neg hc230, if_neg hc236])
              · exfalso; rw [hk.2] at q; (repeat' split at q) <;> cases q
              · exfalso; rw [hk.2] at q; (repeat' split at q) <;> cases q
            · rw [(lkV_c _ (lk_le hby _)).2.2.2.2.2.2.1] at hc236
              refine v_iload_2 dX12_next_239 ?_
              refine v_goto (tgt := 244) dX12_next_240 (by decide) ?_
              refine u_putI dX12_next_244 gf_X12_82 (by first | assumption | rfl | exact led_1 (by assumption) | exact led_2 (by assumption) | exact bk_m (by assumption) (by first | assumption | omega) | exact bk_p (by assumption) (by first | assumption | omega) | exact bk_o (by assumption) (by first | assumption | omega) | exact bk_s (by assumption) (by first | assumption | omega) | exact bk_1 (by assumption) | exact bk_2 (by assumption) | exact bk_3 (by assumption) | exact bk_4 (by assumption) | exact bk_5 (by assumption) | exact bk_6 (by assumption) | exact bk_7 (by assumption) | exact bk_8 (by assumption) | exact sh_ring _ (by first | assumption | omega) | exact sh_imgs _ (by first | assumption | omega)) rfl rfl rfl ?_
              refine v_vret dX12_next_247 rfl rfl rfl rfl ?_
              have hA : tA tp sz e < sz := Nat.lt_of_not_le (fun w => hc44 (lk_out (by omega)))
              have hlk : lk tp sz (tA tp sz e) = tp (tA tp sz e) := lk_in hA
              rw [hlk] at hc64 hc147
              have hk := tk_sign hA (hby _ hA) hc64 hc147
              refine hQ _ ⟨?_, ?_, ?_, fun q => ?_, fun q => ?_⟩ ((fr4.up (by decide)).up (by decide))
              · rw [ui_o (by decide), ui_o (by decide), ui_o (by decide), ui_o (by decide), ui_s]
              · rw [ui_o (by decide), ui_s, hk.1]
              · rw [ui_s, hk.2]
                first
                  | (rw [hlk] at hc230; rw [hlk, hc230]; rfl)
                  | (rw [hlk] at hc230 hc236; rw [hlk, hc236]; rfl)
                  | (rw [hlk] at hc230 hc236; rw [if_neg hc230, if_neg hc236])
              · exfalso; rw [hk.2] at q; (repeat' split at q) <;> cases q
              · exfalso; rw [hk.2] at q; (repeat' split at q) <;> cases q
        · (first | rw [bI_0, Bool.not_eq_false] at hc147 | rw [bI_0] at hc147 | rw [show (0 : Int32) = nI 0 from rfl, nI_eq (by omega) (by omega)] at hc147 | skip)
          refine v_iconst (v := nI 0) dX12_next_150 (by decide) ?_
          refine v_istore_3 rfl dX12_next_151 ?_
          have hA : tA tp sz e < sz := Nat.lt_of_not_le (fun w => hc44 (lk_out (by omega)))
          have hlk : lk tp sz (tA tp sz e) = tp (tA tp sz e) := lk_in hA
          rw [hlk] at hc64 hc147
          have q := l_nxD (L := L) (ad := ad) (b := b) hR h he hA hc64 hc147 hQ (sz - tA tp sz e) (tA tp sz e) _ rfl (Nat.le_refl _) hab.2 rfl fr4 (by rw [ui_o (by decide), ui_o (by decide), ui_s]) (fun _ => by rw [ui_s, Nat.sub_self]; rfl)
          rw [Nat.sub_self] at q
          exact q
      · (first | rw [bI_0, Bool.not_eq_false] at hc64 | rw [bI_0] at hc64 | rw [show (0 : Int32) = nI 0 from rfl, nI_eq (by omega) (by omega)] at hc64 | skip)
        have hA : tA tp sz e < sz := Nat.lt_of_not_le (fun w => hc44 (lk_out (by omega)))
        have hlk : lk tp sz (tA tp sz e) = tp (tA tp sz e) := lk_in hA
        rw [hlk] at hc64
        exact l_nxW hR h he hA hc64 hQ (sz - tA tp sz e) (tA tp sz e) _ rfl (Nat.le_refl _) hab.2 rfl fr4 (by rw [ui_o (by decide), ui_o (by decide), ui_s]) (by rw [ui_o (by decide), ui_s, Nat.sub_self]) (fun i hi => by omega)
    · rw [(lkV_c _ (lk_le hby _)).2.2.2.2.2.2.2] at hc44
      refine v_aload_0 dX12_next_47 ?_
      refine v_iconst (v := nI 0) dX12_next_48 (by decide) ?_
      refine u_putI dX12_next_49 gf_X12_82 (by first | assumption | rfl | exact led_1 (by assumption) | exact led_2 (by assumption) | exact bk_m (by assumption) (by first | assumption | omega) | exact bk_p (by assumption) (by first | assumption | omega) | exact bk_o (by assumption) (by first | assumption | omega) | exact bk_s (by assumption) (by first | assumption | omega) | exact bk_1 (by assumption) | exact bk_2 (by assumption) | exact bk_3 (by assumption) | exact bk_4 (by assumption) | exact bk_5 (by assumption) | exact bk_6 (by assumption) | exact bk_7 (by assumption) | exact bk_8 (by assumption) | exact sh_ring _ (by first | assumption | omega) | exact sh_imgs _ (by first | assumption | omega)) rfl rfl rfl ?_
      refine v_aload_0 dX12_next_52 ?_
      refine v_iload_1 dX12_next_53 ?_
      refine u_putI dX12_next_54 gf_X12_66 (by first | assumption | rfl | exact led_1 (by assumption) | exact led_2 (by assumption) | exact bk_m (by assumption) (by first | assumption | omega) | exact bk_p (by assumption) (by first | assumption | omega) | exact bk_o (by assumption) (by first | assumption | omega) | exact bk_s (by assumption) (by first | assumption | omega) | exact bk_1 (by assumption) | exact bk_2 (by assumption) | exact bk_3 (by assumption) | exact bk_4 (by assumption) | exact bk_5 (by assumption) | exact bk_6 (by assumption) | exact bk_7 (by assumption) | exact bk_8 (by assumption) | exact sh_ring _ (by first | assumption | omega) | exact sh_imgs _ (by first | assumption | omega)) rfl rfl rfl ?_
      refine v_goto (tgt := 247) dX12_next_57 (by decide) ?_
      refine v_vret dX12_next_247 rfl rfl rfl rfl ?_
      have ke := tk_end (tp := tp) (sz := sz) (e := e) (fun w => by rw [lk_in w] at hc44; have := hby _ w; omega)
      refine hQ _ ⟨?_, ?_, ?_, fun q => ?_, fun q => ?_⟩ ((fr4.up (by decide)).up (by decide))
      · rw [ui_o (by decide), ui_o (by decide), ui_o (by decide), ui_o (by decide), ui_s]
      · rw [ui_s, ke.1]
      · rw [ui_o (by decide), ui_s, ke.2]
      · rw [ke.2] at q; cases q
      · rw [ke.2] at q; cases q
  have loop : ∀ (n k : Nat), n = sz - k → k ≤ sz → rn (spc tp sz) n k = (tA tp sz e) → VV yX12_next cX12_next 4 none 1 Q b ad 5 [some (.ref (b + 157)), some (.int (nI k)), none, none] [] I L R := by
    intro n
    induction n with
    | zero =>
      intro k hn k2 hr
      have hl : lk tp sz k = 256 := lk_out (by omega)
      refine v_aload_0 dX12_next_5 ?_
      refine v_iload_1 dX12_next_6 ?_
      refine u_callV_1 dX12_next_7 ml_X12_69 mv_X12_look (by first | assumption | rfl | exact led_1 (by assumption) | exact led_2 (by assumption) | exact bk_m (by assumption) (by first | assumption | omega) | exact bk_p (by assumption) (by first | assumption | omega) | exact bk_o (by assumption) (by first | assumption | omega) | exact bk_s (by assumption) (by first | assumption | omega) | exact bk_1 (by assumption) | exact bk_2 (by assumption) | exact bk_3 (by assumption) | exact bk_4 (by assumption) | exact bk_5 (by assumption) | exact bk_6 (by assumption) | exact bk_7 (by assumption) | exact bk_8 (by assumption) | exact sh_ring _ (by first | assumption | omega) | exact sh_imgs _ (by first | assumption | omega)) (by decide) rfl (by decide) (Nat.le_of_ble_eq_true rfl) (c_X12_look hR hB (by omega) ?_)
      refine v_bipush (v := nI 32) dX12_next_10 (by decide) ?_
      refine v_icmp_ne (tgt := 21) dX12_next_12 (by decide) (fun hc12 => ?_) (fun hc12 => ?_)
      · rw [(lkV_c _ (lk_le hby _)).2.2.2.2.1] at hc12
        rw [← hr] at tail
        exact tail
      · (rw [(lkV_c _ (lk_le hby _)).2.2.2.2.1, hl] at hc12; cases hc12)
    | succ n ih =>
      intro k hn k2 hr
      refine v_aload_0 dX12_next_5 ?_
      refine v_iload_1 dX12_next_6 ?_
      refine u_callV_1 dX12_next_7 ml_X12_69 mv_X12_look (by first | assumption | rfl | exact led_1 (by assumption) | exact led_2 (by assumption) | exact bk_m (by assumption) (by first | assumption | omega) | exact bk_p (by assumption) (by first | assumption | omega) | exact bk_o (by assumption) (by first | assumption | omega) | exact bk_s (by assumption) (by first | assumption | omega) | exact bk_1 (by assumption) | exact bk_2 (by assumption) | exact bk_3 (by assumption) | exact bk_4 (by assumption) | exact bk_5 (by assumption) | exact bk_6 (by assumption) | exact bk_7 (by assumption) | exact bk_8 (by assumption) | exact sh_ring _ (by first | assumption | omega) | exact sh_imgs _ (by first | assumption | omega)) (by decide) rfl (by decide) (Nat.le_of_ble_eq_true rfl) (c_X12_look hR hB (by omega) ?_)
      refine v_bipush (v := nI 32) dX12_next_10 (by decide) ?_
      refine v_icmp_ne (tgt := 21) dX12_next_12 (by decide) (fun hc12 => ?_) (fun hc12 => ?_)
      · rw [(lkV_c _ (lk_le hby _)).2.2.2.2.1] at hc12
        rw [← hr, rn_f (by unfold spc; exact decide_eq_false hc12)] at tail
        exact tail
      · rw [(lkV_c _ (lk_le hby _)).2.2.2.2.1] at hc12
        refine v_iinc_1 (v := 1) rfl dX12_next_15 (by decide) ?_
        rw [show nI k + 1 = nI (k + 1) from nI_1 k]
        refine v_goto (tgt := 5) dX12_next_18 (by decide) ?_
        exact ih (k + 1) (by omega) (by omega) (by rw [← hr]; exact (rn_t (by unfold spc; exact decide_eq_true hc12)).symm)
  refine K.of (M := mX12_next) (lv := [some (.ref (b + 157)), none, none, none]) (by decide) (Nat.le_of_ble_eq_true rfl) rfl ?_
  refine v_aload_0 dX12_next_0 ?_
  refine u_getI dX12_next_1 gf_X12_66 (by first | assumption | rfl | exact led_1 (by assumption) | exact led_2 (by assumption) | exact bk_m (by assumption) (by first | assumption | omega) | exact bk_p (by assumption) (by first | assumption | omega) | exact bk_o (by assumption) (by first | assumption | omega) | exact bk_s (by assumption) (by first | assumption | omega) | exact bk_1 (by assumption) | exact bk_2 (by assumption) | exact bk_3 (by assumption) | exact bk_4 (by assumption) | exact bk_5 (by assumption) | exact bk_6 (by assumption) | exact bk_7 (by assumption) | exact bk_8 (by assumption) | exact sh_ring _ (by first | assumption | omega) | exact sh_imgs _ (by first | assumption | omega)) ?_
  rw [h5]
  refine v_istore_1 rfl dX12_next_4 ?_
  exact loop (sz - e) e rfl he rfl
end
