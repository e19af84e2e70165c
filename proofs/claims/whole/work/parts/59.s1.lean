theorem dX9_lettersOf_0 : decode cX9_lettersOf 0 = .ok (.lconst 0, 1) := by decide +kernel
theorem dX9_lettersOf_1 : decode cX9_lettersOf 1 = .ok (.lstore_n 1, 1) := by decide +kernel
theorem dX9_lettersOf_2 : decode cX9_lettersOf 2 = .ok (.iconst 0, 1) := by decide +kernel
theorem dX9_lettersOf_3 : decode cX9_lettersOf 3 = .ok (.istore_n 3, 1) := by decide +kernel
theorem dX9_lettersOf_4 : decode cX9_lettersOf 4 = .ok (.iload_n 3, 1) := by decide +kernel
theorem dX9_lettersOf_5 : decode cX9_lettersOf 5 = .ok (.aload_n 0, 1) := by decide +kernel
theorem dX9_lettersOf_6 : decode cX9_lettersOf 6 = .ok (.invokevirtual 45, 3) := by decide +kernel
theorem dX9_lettersOf_9 : decode cX9_lettersOf 9 = .ok (.if_icmp .ge 25, 3) := by decide +kernel
theorem dX9_lettersOf_12 : decode cX9_lettersOf 12 = .ok (.lload_n 1, 1) := by decide +kernel
theorem dX9_lettersOf_13 : decode cX9_lettersOf 13 = .ok (.iconst 5, 1) := by decide +kernel
theorem dX9_lettersOf_14 : decode cX9_lettersOf 14 = .ok (.lshl, 1) := by decide +kernel
theorem dX9_lettersOf_15 : decode cX9_lettersOf 15 = .ok (.aload_n 0, 1) := by decide +kernel
theorem dX9_lettersOf_16 : decode cX9_lettersOf 16 = .ok (.iload_n 3, 1) := by decide +kernel
theorem dX9_lettersOf_17 : decode cX9_lettersOf 17 = .ok (.invokevirtual 50, 3) := by decide +kernel
theorem dX9_lettersOf_20 : decode cX9_lettersOf 20 = .ok (.bipush 97, 2) := by decide +kernel
theorem dX9_lettersOf_22 : decode cX9_lettersOf 22 = .ok (.isub, 1) := by decide +kernel
theorem dX9_lettersOf_23 : decode cX9_lettersOf 23 = .ok (.iconst 1, 1) := by decide +kernel
theorem dX9_lettersOf_24 : decode cX9_lettersOf 24 = .ok (.iadd, 1) := by decide +kernel
theorem dX9_lettersOf_25 : decode cX9_lettersOf 25 = .ok (.i2l, 1) := by decide +kernel
theorem dX9_lettersOf_26 : decode cX9_lettersOf 26 = .ok (.lor, 1) := by decide +kernel
theorem dX9_lettersOf_27 : decode cX9_lettersOf 27 = .ok (.lstore_n 1, 1) := by decide +kernel
theorem dX9_lettersOf_28 : decode cX9_lettersOf 28 = .ok (.iinc 3 1, 3) := by decide +kernel
theorem dX9_lettersOf_31 : decode cX9_lettersOf 31 = .ok (.goto (-27), 3) := by decide +kernel
theorem dX9_lettersOf_34 : decode cX9_lettersOf 34 = .ok (.lload_n 1, 1) := by decide +kernel
theorem dX9_lettersOf_35 : decode cX9_lettersOf 35 = .ok (.lreturn, 1) := by decide +kernel
theorem dX9_isWord_0 : decode cX9_isWord 0 = .ok (.aload_n 0, 1) := by decide +kernel
theorem dX9_isWord_1 : decode cX9_isWord 1 = .ok (.getfield 32, 3) := by decide +kernel
theorem dX9_isWord_4 : decode cX9_isWord 4 = .ok (.iconst 1, 1) := by decide +kernel
theorem dX9_isWord_5 : decode cX9_isWord 5 = .ok (.if_icmp .ne 19, 3) := by decide +kernel
theorem dX9_isWord_8 : decode cX9_isWord 8 = .ok (.aload_n 1, 1) := by decide +kernel
theorem dX9_isWord_9 : decode cX9_isWord 9 = .ok (.invokevirtual 45, 3) := by decide +kernel
theorem dX9_isWord_12 : decode cX9_isWord 12 = .ok (.aload_n 0, 1) := by decide +kernel
theorem dX9_isWord_13 : decode cX9_isWord 13 = .ok (.getfield 23, 3) := by decide +kernel
theorem dX9_isWord_16 : decode cX9_isWord 16 = .ok (.aload_n 0, 1) := by decide +kernel
theorem dX9_isWord_17 : decode cX9_isWord 17 = .ok (.getfield 26, 3) := by decide +kernel
theorem dX9_isWord_20 : decode cX9_isWord 20 = .ok (.isub, 1) := by decide +kernel
theorem dX9_isWord_21 : decode cX9_isWord 21 = .ok (.if_icmp .eq 5, 3) := by decide +kernel
theorem dX9_isWord_24 : decode cX9_isWord 24 = .ok (.iconst 0, 1) := by decide +kernel
theorem dX9_isWord_25 : decode cX9_isWord 25 = .ok (.ireturn, 1) := by decide +kernel
theorem dX9_isWord_26 : decode cX9_isWord 26 = .ok (.iconst 0, 1) := by decide +kernel
theorem dX9_isWord_27 : decode cX9_isWord 27 = .ok (.istore_n 2, 1) := by decide +kernel
theorem dX9_isWord_28 : decode cX9_isWord 28 = .ok (.iload_n 2, 1) := by decide +kernel
theorem dX9_isWord_29 : decode cX9_isWord 29 = .ok (.aload_n 1, 1) := by decide +kernel
theorem dX9_isWord_30 : decode cX9_isWord 30 = .ok (.invokevirtual 45, 3) := by decide +kernel
theorem dX9_isWord_33 : decode cX9_isWord 33 = .ok (.if_icmp .ge 30, 3) := by decide +kernel
theorem dX9_isWord_36 : decode cX9_isWord 36 = .ok (.aload_n 0, 1) := by decide +kernel
theorem dX9_isWord_37 : decode cX9_isWord 37 = .ok (.getfield 7, 3) := by decide +kernel
theorem dX9_isWord_40 : decode cX9_isWord 40 = .ok (.aload_n 0, 1) := by decide +kernel
theorem dX9_isWord_41 : decode cX9_isWord 41 = .ok (.getfield 26, 3) := by decide +kernel
theorem dX9_isWord_44 : decode cX9_isWord 44 = .ok (.iload_n 2, 1) := by decide +kernel
theorem dX9_isWord_45 : decode cX9_isWord 45 = .ok (.iadd, 1) := by decide +kernel
theorem dX9_isWord_46 : decode cX9_isWord 46 = .ok (.baload, 1) := by decide +kernel
theorem dX9_isWord_47 : decode cX9_isWord 47 = .ok (.aload_n 1, 1) := by decide +kernel
theorem dX9_isWord_48 : decode cX9_isWord 48 = .ok (.iload_n 2, 1) := by decide +kernel
theorem dX9_isWord_49 : decode cX9_isWord 49 = .ok (.invokevirtual 50, 3) := by decide +kernel
theorem dX9_isWord_52 : decode cX9_isWord 52 = .ok (.if_icmp .eq 5, 3) := by decide +kernel
theorem dX9_isWord_55 : decode cX9_isWord 55 = .ok (.iconst 0, 1) := by decide +kernel
theorem dX9_isWord_56 : decode cX9_isWord 56 = .ok (.ireturn, 1) := by decide +kernel
theorem dX9_isWord_57 : decode cX9_isWord 57 = .ok (.iinc 2 1, 3) := by decide +kernel
theorem dX9_isWord_60 : decode cX9_isWord 60 = .ok (.goto (-32), 3) := by decide +kernel
theorem dX9_isWord_63 : decode cX9_isWord 63 = .ok (.iconst 1, 1) := by decide +kernel
theorem dX9_isWord_64 : decode cX9_isWord 64 = .ok (.ireturn, 1) := by decide +kernel
theorem dJ0_length_8abf5_0 : decode cJ0_length_8abf5 0 = .ok (.aload_n 0, 1) := by decide +kernel
theorem dJ0_length_8abf5_1 : decode cJ0_length_8abf5 1 = .ok (.getfield 9, 3) := by decide +kernel
theorem dJ0_length_8abf5_4 : decode cJ0_length_8abf5 4 = .ok (.arraylength, 1) := by decide +kernel
theorem dJ0_length_8abf5_5 : decode cJ0_length_8abf5 5 = .ok (.aload_n 0, 1) := by decide +kernel
theorem dJ0_length_8abf5_6 : decode cJ0_length_8abf5 6 = .ok (.invokevirtual 335, 3) := by decide +kernel
theorem dJ0_length_8abf5_9 : decode cJ0_length_8abf5 9 = .ok (.ishr, 1) := by decide +kernel
theorem dJ0_length_8abf5_10 : decode cJ0_length_8abf5 10 = .ok (.ireturn, 1) := by decide +kernel
theorem dJ0_charAt_5068e_0 : decode cJ0_charAt_5068e 0 = .ok (.aload_n 0, 1) := by decide +kernel
theorem dJ0_charAt_5068e_1 : decode cJ0_charAt_5068e 1 = .ok (.invokevirtual 492, 3) := by decide +kernel
theorem dJ0_charAt_5068e_4 : decode cJ0_charAt_5068e 4 = .ok (.ifCond .eq 12, 3) := by decide +kernel
theorem dJ0_charAt_5068e_7 : decode cJ0_charAt_5068e 7 = .ok (.aload_n 0, 1) := by decide +kernel
theorem dJ0_charAt_5068e_8 : decode cJ0_charAt_5068e 8 = .ok (.getfield 9, 3) := by decide +kernel
theorem dJ0_charAt_5068e_11 : decode cJ0_charAt_5068e 11 = .ok (.iload_n 1, 1) := by decide +kernel
theorem dJ0_charAt_5068e_12 : decode cJ0_charAt_5068e 12 = .ok (.invokestatic 495, 3) := by decide +kernel
theorem dJ0_charAt_5068e_15 : decode cJ0_charAt_5068e 15 = .ok (.ireturn, 1) := by decide +kernel
theorem dJ0_charAt_5068e_16 : decode cJ0_charAt_5068e 16 = .ok (.aload_n 0, 1) := by decide +kernel
theorem dJ0_charAt_5068e_17 : decode cJ0_charAt_5068e 17 = .ok (.getfield 9, 3) := by decide +kernel
theorem dJ0_charAt_5068e_20 : decode cJ0_charAt_5068e 20 = .ok (.iload_n 1, 1) := by decide +kernel
theorem dJ0_charAt_5068e_21 : decode cJ0_charAt_5068e 21 = .ok (.invokestatic 498, 3) := by decide +kernel
theorem dJ0_charAt_5068e_24 : decode cJ0_charAt_5068e 24 = .ok (.ireturn, 1) := by decide +kernel
theorem dJ0_coder_7d493_0 : decode cJ0_coder_7d493 0 = .ok (.getstatic 38, 3) := by decide +kernel
theorem dJ0_coder_7d493_3 : decode cJ0_coder_7d493 3 = .ok (.ifCond .eq 10, 3) := by decide +kernel
theorem dJ0_coder_7d493_6 : decode cJ0_coder_7d493 6 = .ok (.aload_n 0, 1) := by decide +kernel
theorem dJ0_coder_7d493_7 : decode cJ0_coder_7d493 7 = .ok (.getfield 15, 3) := by decide +kernel
theorem dJ0_coder_7d493_10 : decode cJ0_coder_7d493 10 = .ok (.goto 4, 3) := by decide +kernel
theorem dJ0_coder_7d493_13 : decode cJ0_coder_7d493 13 = .ok (.iconst 1, 1) := by decide +kernel
theorem dJ0_coder_7d493_14 : decode cJ0_coder_7d493 14 = .ok (.ireturn, 1) := by decide +kernel
theorem dJ0_isLatin1_aae02_0 : decode cJ0_isLatin1_aae02 0 = .ok (.getstatic 38, 3) := by decide +kernel
theorem dJ0_isLatin1_aae02_3 : decode cJ0_isLatin1_aae02 3 = .ok (.ifCond .eq 14, 3) := by decide +kernel
theorem dJ0_isLatin1_aae02_6 : decode cJ0_isLatin1_aae02 6 = .ok (.aload_n 0, 1) := by decide +kernel
theorem dJ0_isLatin1_aae02_7 : decode cJ0_isLatin1_aae02 7 = .ok (.getfield 15, 3) := by decide +kernel
theorem dJ0_isLatin1_aae02_10 : decode cJ0_isLatin1_aae02 10 = .ok (.ifCond .ne 7, 3) := by decide +kernel
theorem dJ0_isLatin1_aae02_13 : decode cJ0_isLatin1_aae02 13 = .ok (.iconst 1, 1) := by decide +kernel
theorem dJ0_isLatin1_aae02_14 : decode cJ0_isLatin1_aae02 14 = .ok (.goto 4, 3) := by decide +kernel
theorem dJ0_isLatin1_aae02_17 : decode cJ0_isLatin1_aae02 17 = .ok (.iconst 0, 1) := by decide +kernel
theorem dJ0_isLatin1_aae02_18 : decode cJ0_isLatin1_aae02 18 = .ok (.ireturn, 1) := by decide +kernel
theorem dJ0_checkIndex_df160_0 : decode cJ0_checkIndex_df160 0 = .ok (.iload_n 0, 1) := by decide +kernel
theorem dJ0_checkIndex_df160_1 : decode cJ0_checkIndex_df160 1 = .ok (.iload_n 1, 1) := by decide +kernel
theorem dJ0_checkIndex_df160_2 : decode cJ0_checkIndex_df160 2 = .ok (.getstatic 1053, 3) := by decide +kernel
theorem dJ0_checkIndex_df160_5 : decode cJ0_checkIndex_df160 5 = .ok (.invokestatic 1059, 3) := by decide +kernel
theorem dJ0_checkIndex_df160_8 : decode cJ0_checkIndex_df160 8 = .ok (.pop, 1) := by decide +kernel
theorem dJ0_checkIndex_df160_9 : decode cJ0_checkIndex_df160 9 = .ok (.return_, 1) := by decide +kernel
theorem dJ1_charAt_3b067_0 : decode cJ1_charAt_3b067 0 = .ok (.iload_n 1, 1) := by decide +kernel
theorem dJ1_charAt_3b067_1 : decode cJ1_charAt_3b067 1 = .ok (.aload_n 0, 1) := by decide +kernel
theorem dJ1_charAt_3b067_2 : decode cJ1_charAt_3b067 2 = .ok (.arraylength, 1) := by decide +kernel
theorem dJ1_charAt_3b067_3 : decode cJ1_charAt_3b067 3 = .ok (.invokestatic 9, 3) := by decide +kernel
theorem dJ1_charAt_3b067_6 : decode cJ1_charAt_3b067 6 = .ok (.aload_n 0, 1) := by decide +kernel
theorem dJ1_charAt_3b067_7 : decode cJ1_charAt_3b067 7 = .ok (.iload_n 1, 1) := by decide +kernel
theorem dJ1_charAt_3b067_8 : decode cJ1_charAt_3b067 8 = .ok (.baload, 1) := by decide +kernel
theorem dJ1_charAt_3b067_9 : decode cJ1_charAt_3b067 9 = .ok (.sipush 255, 3) := by decide +kernel
theorem dJ1_charAt_3b067_12 : decode cJ1_charAt_3b067 12 = .ok (.iand, 1) := by decide +kernel
theorem dJ1_charAt_3b067_13 : decode cJ1_charAt_3b067 13 = .ok (.i2c, 1) := by decide +kernel
theorem dJ1_charAt_3b067_14 : decode cJ1_charAt_3b067 14 = .ok (.ireturn, 1) := by decide +kernel
theorem dJ3_checkIndex_8e157_0 : decode cJ3_checkIndex_8e157 0 = .ok (.iload_n 0, 1) := by decide +kernel
theorem dJ3_checkIndex_8e157_1 : decode cJ3_checkIndex_8e157 1 = .ok (.ifCond .lt 8, 3) := by decide +kernel
theorem dJ3_checkIndex_8e157_4 : decode cJ3_checkIndex_8e157 4 = .ok (.iload_n 0, 1) := by decide +kernel
theorem dJ3_checkIndex_8e157_5 : decode cJ3_checkIndex_8e157 5 = .ok (.iload_n 1, 1) := by decide +kernel
theorem dJ3_checkIndex_8e157_6 : decode cJ3_checkIndex_8e157 6 = .ok (.if_icmp .lt 10, 3) := by decide +kernel
theorem dJ3_checkIndex_8e157_9 : decode cJ3_checkIndex_8e157 9 = .ok (.aload_n 2, 1) := by decide +kernel
theorem dJ3_checkIndex_8e157_10 : decode cJ3_checkIndex_8e157 10 = .ok (.iload_n 0, 1) := by decide +kernel
theorem dJ3_checkIndex_8e157_11 : decode cJ3_checkIndex_8e157 11 = .ok (.iload_n 1, 1) := by decide +kernel
theorem dJ3_checkIndex_8e157_12 : decode cJ3_checkIndex_8e157 12 = .ok (.invokestatic 95, 3) := by decide +kernel
theorem dJ3_checkIndex_8e157_15 : decode cJ3_checkIndex_8e157 15 = .ok (.athrow, 1) := by decide +kernel
theorem dJ3_checkIndex_8e157_16 : decode cJ3_checkIndex_8e157 16 = .ok (.iload_n 0, 1) := by decide +kernel
theorem dJ3_checkIndex_8e157_17 : decode cJ3_checkIndex_8e157 17 = .ok (.ireturn, 1) := by decide +kernel
/-! the words of the constants -/
def wdl : List (List Nat) := [[116, 111, 119, 110], [119, 111, 114, 107], [109, 97, 115, 107], [112, 101, 114, 115, 111, 110], [112, 114, 111, 109, 105, 115, 101], [108, 101, 110, 116], [115, 101, 101, 110], [108, 101, 116, 116, 101, 114], [98, 114, 101, 97, 107], [99, 104, 105, 108, 100], [104, 97, 98, 105, 116], [100, 111, 101, 115], [115, 105, 122, 101], [100, 97, 121, 115], [112, 108, 97, 105, 110], [102, 111, 114, 101, 105, 103, 110], [100, 111, 117, 98, 108, 101], [107, 105, 110, 103], [99, 114, 101, 100, 105, 116], [104, 111, 110, 111, 117, 114], [111, 110], [119, 111, 114, 116, 104], [102, 105, 110, 101], [101, 102, 102, 111, 114, 116], [116, 111], [102, 114, 111, 109], [117, 110, 116, 105, 108], [104, 111, 117, 114], [116, 111, 119, 110], [100, 97, 121, 115], [119, 111, 114, 107], [109, 97, 115, 107], [112, 101, 114, 115, 111, 110], [112, 114, 111, 109, 105, 115, 101], [108, 101, 110, 116], [115, 101, 101, 110], [108, 101, 116, 116, 101, 114], [98, 114, 101, 97, 107], [99, 104, 105, 108, 100], [104, 97, 98, 105, 116], [100, 111, 101, 115], [115, 105, 122, 101], [112, 108, 97, 105, 110], [102, 111, 114, 101, 105, 103, 110], [100, 111, 117, 98, 108, 101], [107, 105, 110, 103], [99, 114, 101, 100, 105, 116], [104, 111, 110, 111, 117, 114], [111, 110], [119, 111, 114, 116, 104], [102, 105, 110, 101], [101, 102, 102, 111, 114, 116], [116, 111], [102, 114, 111, 109], [117, 110, 116, 105, 108], [104, 111, 117, 114]]
def wd (i : Nat) : List Nat := wdl.getD i []
theorem wd_stb : ∀ i, i < 56 → stb (strs.getD i ("", 0, "")).2.2 = (wd i).map nI := by decide +kernel
theorem wd_ok : ∀ i, i < 56 → (wd i).length ≤ 8 ∧ ∀ c ∈ wd i, 97 ≤ c ∧ c ≤ 122 := by decide +kernel
theorem wd_c {i j : Nat} (hi : i < 56) (hj : j < (wd i).length) : 97 ≤ (wd i).getD j 0 ∧ (wd i).getD j 0 ≤ 122 := by
  have := (wd_ok i hi).2 (wd i)[j] (List.getElem_mem hj)
  rw [List.getD_eq_getElem?_getD, List.getElem?_eq_getElem hj]
  exact this
theorem nI_bv {m : Nat} (h : m < 2 ^ 32) : (nI m).toBitVec.toNat = m := by
  show (BitVec.ofNat 32 m).toNat = m
  rw [BitVec.toNat_ofNat, Nat.mod_eq_of_lt h]
theorem chr_id {c : Nat} (h : c < 256) : ((nI c &&& nI 255).toUInt32 % 65536).toInt32 = nI c := by
  rw [pk_andN (by omega) 8 (by decide), pk_char, nI_bv (by omega)]
  congr 1
  omega
theorem ch_a {c : Nat} (h : 97 ≤ c) : nI c - nI 97 + nI 1 = nI (c - 96) := by
  obtain ⟨d, rfl⟩ : ∃ d, c = d + 97 := ⟨c - 97, by omega⟩
  rw [← nI_add, Int32.add_sub_cancel, nI_add]
  congr 1
/-- a letter more -/
def l5 (x : Int64) (c : Nat) : Int64 := (x <<< ((nI 5).toInt64 &&& 63)) ||| (nI (c - 96)).toInt64
def l64 (w : List Nat) (x : Int64) : Int64 := w.foldl l5 x
section
variable {y : MethodName} {cc : ByteArray} {nL : Nat} {ret : Option FieldType} {k mc ms NF : Nat} {Q : QT} {b : Nat} {ad : Nat → Nat} {x0 : Bool} {cu su pc : Nat} {lv tl : List (Option Value)} {st rest : List Value} {N : Nat} {sh : HS} {I : HI} {L : HL} {R : HR}
variable {y' : MethodName} {cc' : ByteArray} {nL' : Nat} {ret' : Option FieldType} {k' mc' ms' : Nat} {x' : Bool}
theorem v_i2c {x : Int32} (hd : decode cc pc = .ok (.i2c, 1)) (h : V y cc nL ret k mc ms NF Q b ad x0 cu su (pc + 1) lv (.int ((x.toUInt32 % 65536).toInt32) :: rest) N sh I L R) : V y cc nL ret k mc ms NF Q b ad x0 cu su pc lv (.int x :: rest) N sh I L R := fun p l e s m args below meth c H locs D dA ls hc => lv_i2c hc.1 hc.2.1 hd rfl (h p l e s m args below meth c H locs D dA ls hc)
theorem v_tret {v : Int32} {ty : FieldType} (hd : decode cc pc = .ok (.ireturn, 1)) (hv : narrow ty (.int v) = .int v) (hr : ret = some ty := by rfl) (hcu : cu = mc := by rfl) (hsu : su = ms := by rfl) (hN : N = NF := by rfl) (hq : Q (some (.int v)) sh I L R) : V y cc nL ret k mc ms NF Q b ad x0 cu su pc lv [.int v] N sh I L R := by
  intro p l e s m args below meth c0 H locs D dA ls hc
  obtain ⟨h1, h2, h3, h4, h5, h6, h7, h8, h9, h10, h11, h12, h13, h14, h15⟩ := id hc
  subst hcu hsu hN
  exact W.zret h1 h2 (h4.trans hr) hv (fun t ht hW => ⟨(some (.int v)), sh, I, L, R, rfl, hq, by rw [ht]; exact h10, h11.F ht⟩) h11.2.2 hd h5
theorem v_sval {i idx : Nat} (hd : decode cc pc = .ok (.getfield idx, 3)) (hl : Cond.fieldLink y.cls idx "java/lang/String" "value" "[B" ∈ UU) (hi : i < 56) (h : V y cc nL ret k mc ms NF Q b ad x0 cu su (pc + 3) lv (.ref (ad (56 + i)) :: rest) N sh I L R) : V y cc nL ret k mc ms NF Q b ad x0 cu su pc lv (.ref (ad i) :: rest) N sh I L R := by
  intro p l e s m args below meth c0 H locs D dA ls hc
  obtain ⟨h1, h2, h3, h4, h5, h6, h7, h8, h9, h10, h11, h12, h13, h14, h15⟩ := id hc
  exact vk_getf h1 h2 (h13.2.1 i hi).2.2.1 h11 h7 (h8 _ hl) (fun x h => h) hd (h p l e s m args below meth c0 H locs D dA ls hc)
theorem v_scod {i idx : Nat} (hd : decode cc pc = .ok (.getfield idx, 3)) (hl : Cond.fieldLink y.cls idx "java/lang/String" "coder" "B" ∈ UU) (hi : i < 56) (h : V y cc nL ret k mc ms NF Q b ad x0 cu su (pc + 3) lv (.int 0 :: rest) N sh I L R) : V y cc nL ret k mc ms NF Q b ad x0 cu su pc lv (.ref (ad i) :: rest) N sh I L R := by
  intro p l e s m args below meth c0 H locs D dA ls hc
  obtain ⟨h1, h2, h3, h4, h5, h6, h7, h8, h9, h10, h11, h12, h13, h14, h15⟩ := id hc
  exact vk_getf h1 h2 (h13.2.1 i hi).2.1 h11 h7 (h8 _ hl) (fun x h => h) hd (h p l e s m args below meth c0 H locs D dA ls hc)
theorem v_slen {i : Nat} (hd : decode cc pc = .ok (.arraylength, 1)) (hi : i < 56) (h : V y cc nL ret k mc ms NF Q b ad x0 cu su (pc + 1) lv (.int (nI (wd i).length) :: rest) N sh I L R) : V y cc nL ret k mc ms NF Q b ad x0 cu su pc lv (.ref (ad (56 + i)) :: rest) N sh I L R := by
  intro p l e s m args below meth c0 H locs D dA ls hc
  obtain ⟨h1, h2, h3, h4, h5, h6, h7, h8, h9, h10, h11, h12, h13, h14, h15⟩ := id hc
  have hT := (h13.2.1 i hi).2.2.2
  rw [wd_stb i hi, List.length_map] at hT
  exact va_tlen h1 h2 hT h11 rfl hd (h p l e s m args below meth c0 H locs D dA ls hc)
theorem v_sbal {i j : Nat} {x : Int32} (hd : decode cc pc = .ok (.baload, 1)) (hi : i < 56) (hx : x = nI j) (hj : j < (wd i).length) (h : V y cc nL ret k mc ms NF Q b ad x0 cu su (pc + 1) lv (.int (nI ((wd i).getD j 0)) :: rest) N sh I L R) : V y cc nL ret k mc ms NF Q b ad x0 cu su pc lv (.int x :: .ref (ad (56 + i)) :: rest) N sh I L R := by
  intro p l e s m args below meth c0 H locs D dA ls hc
  obtain ⟨h1, h2, h3, h4, h5, h6, h7, h8, h9, h10, h11, h12, h13, h14, h15⟩ := id hc
  have hl := (wd_ok i hi).1
  have hT := (h13.2.1 i hi).2.2.2
  rw [wd_stb i hi, List.length_map] at hT
  subst hx
  refine va_tb h1 h2 hT h11 (i := nI j) (pk_in j _ hj rfl (by omega)) (v := .int (nI ((wd i).getD j 0))) ?_ hd (h p l e s m args below meth c0 H locs D dA ls hc)
  rw [nI_clamp (by omega)]
  show Value.int (((wd i).map nI).getD j 0) = _
  rw [List.getD_eq_getElem?_getD, List.getElem?_map, List.getD_eq_getElem?_getD, List.getElem?_eq_getElem hj]
  rfl
theorem v_getsC {idx : Nat} (hd : decode cc pc = .ok (.getstatic idx, 3)) (hl : Cond.fieldLink y.cls idx "java/lang/String" "COMPACT_STRINGS" "Z" ∈ UU) (h : V y cc nL ret k mc ms NF Q b ad x0 cu su (pc + 3) lv (.int 1 :: rest) N sh I L R) : V y cc nL ret k mc ms NF Q b ad x0 cu su pc lv rest N sh I L R := by
  intro p l e s m args below meth c0 H locs D dA ls hc
  obtain ⟨h1, h2, h3, h4, h5, h6, h7, h8, h9, h10, h11, h12, h13, h14, h15⟩ := id hc
  exact va_gets h1 h2 h13.2.2.1 h11 h7 (h8 _ hl) (fun x h => h) hd (h p l e s m args below meth c0 H locs D dA ls hc)
theorem v_getsF {idx : Nat} (hd : decode cc pc = .ok (.getstatic idx, 3)) (hl : Cond.fieldLink y.cls idx "jdk/internal/util/Preconditions" "SIOOBE_FORMATTER" "Ljava/util/function/BiFunction;" ∈ UU) (h0 : V y cc nL ret k mc ms NF Q b ad x0 cu su (pc + 3) lv (.null :: rest) N sh I L R) (h : ∀ t : Nat, V y cc nL ret k mc ms NF Q b ad x0 cu su (pc + 3) lv (.ref t :: rest) N sh I L R) : V y cc nL ret k mc ms NF Q b ad x0 cu su pc lv rest N sh I L R := by
  intro p l e s m args below meth c0 H locs D dA ls hc
  obtain ⟨h1, h2, h3, h4, h5, h6, h7, h8, h9, h10, h11, h12, h13, h14, h15⟩ := id hc
  rcases h13.2.2.2.1 with hz | ⟨t, hz⟩
  · exact va_gets h1 h2 hz h11 h7 (h8 _ hl) (fun x h => h) hd (h0 p l e s m args below meth c0 H locs D dA ls hc)
  · exact va_gets h1 h2 hz h11 h7 (h8 _ hl) (fun x h => h) hd (h t p l e s m args below meth c0 H locs D dA ls hc)
theorem v_callW_0 {i idx : Nat} (hd : decode cc pc = .ok (.invokevirtual idx, 3)) (hl : Cond.methodLink y.cls idx y' ∈ UU) (hm : MV y' cc' nL' ret' 0) (hi : i < 56) (hcn : y'.cls = "java/lang/String") (hk : k' < k) (hcu : cu + mc' ≤ mc) (hsu : su + ms' ≤ ms) (hst : (rest.map fun v => v.category).sum ≤ 8) (hx : x' = true → x0 = true)
    (hC : C k' y' cc' nL' ret' mc' ms' b ad x' [.ref (ad i)] N sh I L R (fun r sh' I' L' R' => V y cc nL ret k mc ms NF Q b ad x0 (cu + mc') (su + ms') (pc + 3) lv (r.toList ++ rest) (N + mc') sh' I' L' R')) : V y cc nL ret k mc ms NF Q b ad x0 cu su pc lv (.ref (ad i) :: rest) N sh I L R := by
  intro p l e s m args below meth c0 H locs D dA ls hc
  obtain ⟨h1, h2, h3, h4, h5, h6, h7, h8, h9, h10, h11, h12, h13, h14, h15⟩ := id hc
  obtain ⟨m1, m2, m3, m4, m5, m6⟩ := hm
  intro T hT X
  have hz := v_len hc hT X
  have hrc : ∃ cell : Cell, H[ad i]? = some cell ∧ cell.vm.isStatics = false ∧ s.vm.findClass y'.cls = some cell.cls := by
    obtain ⟨cell, q1, q2, q3, -⟩ := (h13.2.1 i hi).1.kept h11.2.1
    exact ⟨cell, q1, q2, by rw [hcn]; exact q3⟩
  refine vo_call (va_runV (As := []) (b := ad i) (C := y'.cls) (rest := rest) ⟨h1, h2, h3, h7, h8⟩ (hC l D dA) (cwV 0 h8 (goodV hl m1 m2 m3 m4) rfl rfl rfl ⟨rfl, m5⟩ ⟨by show k' + 1 ≤ k; omega, by show 8 + (nL' + 11) + 100 * k' ≤ 100 * k; omega⟩) ⟨pc_blind, hrc, fun U hU hW => ⟨rfl, fun q => by rw [hU]; exact hz (hx q), by rw [hU]; exact Nat.le_trans h14 h11.1, by rw [hU]; exact h10, va_K.moved hW.alike h9, h13.go hW (fun q q1 q2 => by rw [hU]; exact h11.2.1 q q1 q2)⟩⟩ rfl rfl h15.1.1 rfl (lv_room hst) hd ⟨hcu, hsu⟩) h11 (fun r sh1 I1 L1 R1 H1 locs1 hq hP1 hS1 => hq p l e s m args below meth c0 H1 locs1 D dA ls ⟨h1, h2, h3, h4, h5, h6, h7, h8, h9, hP1, hS1, fun hx => by have := h12 hx; omega, h13, h14, h15⟩) T hT X
theorem v_callW_1 {i idx : Nat} {v1 : Value} (hd : decode cc pc = .ok (.invokevirtual idx, 3)) (hl : Cond.methodLink y.cls idx y' ∈ UU) (hm : MV y' cc' nL' ret' 1) (hi : i < 56) (hcn : y'.cls = "java/lang/String") (hk : k' < k) (hcu : cu + mc' ≤ mc) (hsu : su + ms' ≤ ms) (hst : (rest.map fun v => v.category).sum ≤ 8) (hx : x' = true → x0 = true)
    (hC : C k' y' cc' nL' ret' mc' ms' b ad x' [.ref (ad i), v1] N sh I L R (fun r sh' I' L' R' => V y cc nL ret k mc ms NF Q b ad x0 (cu + mc') (su + ms') (pc + 3) lv (r.toList ++ rest) (N + mc') sh' I' L' R')) : V y cc nL ret k mc ms NF Q b ad x0 cu su pc lv (v1 :: .ref (ad i) :: rest) N sh I L R := by
  intro p l e s m args below meth c0 H locs D dA ls hc
  obtain ⟨h1, h2, h3, h4, h5, h6, h7, h8, h9, h10, h11, h12, h13, h14, h15⟩ := id hc
  obtain ⟨m1, m2, m3, m4, m5, m6⟩ := hm
  intro T hT X
  have hz := v_len hc hT X
  have hrc : ∃ cell : Cell, H[ad i]? = some cell ∧ cell.vm.isStatics = false ∧ s.vm.findClass y'.cls = some cell.cls := by
    obtain ⟨cell, q1, q2, q3, -⟩ := (h13.2.1 i hi).1.kept h11.2.1
    exact ⟨cell, q1, q2, by rw [hcn]; exact q3⟩
  refine vo_call (va_runV (As := [v1]) (b := ad i) (C := y'.cls) (rest := rest) ⟨h1, h2, h3, h7, h8⟩ (hC l D dA) (cwV 1 h8 (goodV hl m1 m2 m3 m4) rfl rfl rfl ⟨rfl, m5⟩ ⟨by show k' + 1 ≤ k; omega, by show 8 + (nL' + 11) + 100 * k' ≤ 100 * k; omega⟩) ⟨pc_blind, hrc, fun U hU hW => ⟨rfl, fun q => by rw [hU]; exact hz (hx q), by rw [hU]; exact Nat.le_trans h14 h11.1, by rw [hU]; exact h10, va_K.moved hW.alike h9, h13.go hW (fun q q1 q2 => by rw [hU]; exact h11.2.1 q q1 q2)⟩⟩ rfl rfl h15.1.1 rfl (lv_room hst) hd ⟨hcu, hsu⟩) h11 (fun r sh1 I1 L1 R1 H1 locs1 hq hP1 hS1 => hq p l e s m args below meth c0 H1 locs1 D dA ls ⟨h1, h2, h3, h4, h5, h6, h7, h8, h9, hP1, hS1, fun hx => by have := h12 hx; omega, h13, h14, h15⟩) T hT X
end
section
variable {b : Nat} {ad : Nat → Nat} {x0 : Bool} {N : Nat} {sh : HS} {I : HI} {L : HL} {R : HR} {Q : QT} {i j : Nat}
theorem c_coder (hi : i < 56) (hQ : Q (some (.int 0)) sh I L R) : C 0 yJ0_coder_7d493 cJ0_coder_7d493 1 (some .byte) 0 0 b ad x0 [.ref (ad i)] N sh I L R Q := by
  refine C.of (by decide) (Nat.le_of_ble_eq_true rfl) ?_
  show V _ _ _ _ _ _ _ _ _ _ _ _ _ _ _ [some (.ref (ad i))] _ _ _ _ _ _
  refine v_getsC dJ0_coder_7d493_0 (uu (i := 438) (by decide +kernel) rfl) ?_
  refine v_if_eq (tgt := 13) dJ0_coder_7d493_3 (by decide) (fun h => absurd h (by decide)) (fun _ => ?_)
  refine v_aload_0 dJ0_coder_7d493_6 ?_
  refine v_scod dJ0_coder_7d493_7 (uu (i := 2033) (by decide +kernel) rfl) hi ?_
  refine v_goto (tgt := 14) dJ0_coder_7d493_10 (by decide) ?_
  refine v_tret dJ0_coder_7d493_14 (by decide) rfl rfl rfl rfl ?_
  exact hQ
theorem c_isLatin1 (hi : i < 56) (hQ : Q (some (.int 1)) sh I L R) : C 0 yJ0_isLatin1_aae02 cJ0_isLatin1_aae02 1 (some .boolean) 0 0 b ad x0 [.ref (ad i)] N sh I L R Q := by
  refine C.of (by decide) (Nat.le_of_ble_eq_true rfl) ?_
  show V _ _ _ _ _ _ _ _ _ _ _ _ _ _ _ [some (.ref (ad i))] _ _ _ _ _ _
  refine v_getsC dJ0_isLatin1_aae02_0 (uu (i := 438) (by decide +kernel) rfl) ?_
  refine v_if_eq (tgt := 17) dJ0_isLatin1_aae02_3 (by decide) (fun h => absurd h (by decide)) (fun _ => ?_)
  refine v_aload_0 dJ0_isLatin1_aae02_6 ?_
  refine v_scod dJ0_isLatin1_aae02_7 (uu (i := 2033) (by decide +kernel) rfl) hi ?_
  refine v_if_ne (tgt := 17) dJ0_isLatin1_aae02_10 (by decide) (fun h => absurd rfl h) (fun _ => ?_)
  refine v_iconst (v := 1) dJ0_isLatin1_aae02_13 (by decide) ?_
  refine v_goto (tgt := 18) dJ0_isLatin1_aae02_14 (by decide) ?_
  refine v_tret dJ0_isLatin1_aae02_18 (by decide) rfl rfl rfl rfl ?_
  exact hQ
theorem c_length (hi : i < 56) (hQ : Q (some (.int (nI (wd i).length))) sh I L R) : C 1 yJ0_length_8abf5 cJ0_length_8abf5 1 (some .int) 0 0 b ad x0 [.ref (ad i)] N sh I L R Q := by
  refine C.of (by decide) (Nat.le_of_ble_eq_true rfl) ?_
  show V _ _ _ _ _ _ _ _ _ _ _ _ _ _ _ [some (.ref (ad i))] _ _ _ _ _ _
  refine v_aload_0 dJ0_length_8abf5_0 ?_
  refine v_sval dJ0_length_8abf5_1 (uu (i := 2032) (by decide +kernel) rfl) hi ?_
  refine v_slen dJ0_length_8abf5_4 hi ?_
  refine v_aload_0 dJ0_length_8abf5_5 ?_
  refine v_callW_0 dJ0_length_8abf5_6 ml_J0_335 mv_J0_coder_7d493 hi rfl (by decide) (Nat.le_refl 0) (Nat.le_refl 0) (Nat.le_of_ble_eq_true rfl) (fun h => h) (c_coder hi ?_)
  refine v_ishr dJ0_length_8abf5_9 ?_
  rw [show nI (wd i).length >>> ((0 : Int32) &&& 31) = nI (wd i).length from by
    rw [pk_shrN (by have := (wd_ok i hi).1; omega) _ 0 (by decide)]; congr 1; omega]
  refine v_iret dJ0_length_8abf5_10 rfl rfl rfl rfl ?_
  exact hQ
theorem c_J3_n {n : Nat} (hj : j < n) (hn : n < 2 ^ 31) (hQ : Q (some (.int (nI j))) sh I L R) : C 0 yJ3_checkIndex_8e157 cJ3_checkIndex_8e157 3 (some .int) 0 0 b ad x0 [.int (nI j), .int (nI n), .null] N sh I L R Q := by
  refine C.of (by decide) (Nat.le_of_ble_eq_true rfl) ?_
  show V _ _ _ _ _ _ _ _ _ _ _ _ _ _ _ [some (.int (nI j)), some (.int (nI n)), some (.null)] _ _ _ _ _ _
  refine v_iload_0 dJ3_checkIndex_8e157_0 ?_
  refine v_if_lt (tgt := 9) dJ3_checkIndex_8e157_1 (by decide) (fun h => absurd h (nI_pos (by omega))) (fun _ => ?_)
  refine v_iload_0 dJ3_checkIndex_8e157_4 ?_
  refine v_iload_1 dJ3_checkIndex_8e157_5 ?_
  refine v_icmp_lt (tgt := 16) dJ3_checkIndex_8e157_6 (by decide) (fun _ => ?_) (fun h => absurd (nI_lt hj hn) h)
  refine v_iload_0 dJ3_checkIndex_8e157_16 ?_
  refine v_iret dJ3_checkIndex_8e157_17 rfl rfl rfl rfl ?_
  exact hQ
theorem c_J3_r {n t : Nat} (hj : j < n) (hn : n < 2 ^ 31) (hQ : Q (some (.int (nI j))) sh I L R) : C 0 yJ3_checkIndex_8e157 cJ3_checkIndex_8e157 3 (some .int) 0 0 b ad x0 [.int (nI j), .int (nI n), .ref t] N sh I L R Q := by
  refine C.of (by decide) (Nat.le_of_ble_eq_true rfl) ?_
  show V _ _ _ _ _ _ _ _ _ _ _ _ _ _ _ [some (.int (nI j)), some (.int (nI n)), some (.ref t)] _ _ _ _ _ _
  refine v_iload_0 dJ3_checkIndex_8e157_0 ?_
  refine v_if_lt (tgt := 9) dJ3_checkIndex_8e157_1 (by decide) (fun h => absurd h (nI_pos (by omega))) (fun _ => ?_)
  refine v_iload_0 dJ3_checkIndex_8e157_4 ?_
  refine v_iload_1 dJ3_checkIndex_8e157_5 ?_
  refine v_icmp_lt (tgt := 16) dJ3_checkIndex_8e157_6 (by decide) (fun _ => ?_) (fun h => absurd (nI_lt hj hn) h)
  refine v_iload_0 dJ3_checkIndex_8e157_16 ?_
  refine v_iret dJ3_checkIndex_8e157_17 rfl rfl rfl rfl ?_
  exact hQ
theorem c_J0check {n : Nat} (hj : j < n) (hn : n < 2 ^ 31) (hQ : Q none sh I L R) : C 1 yJ0_checkIndex_df160 cJ0_checkIndex_df160 2 none 0 0 b ad x0 [.int (nI j), .int (nI n)] N sh I L R Q := by
  refine C.of (by decide) (Nat.le_of_ble_eq_true rfl) ?_
  show V _ _ _ _ _ _ _ _ _ _ _ _ _ _ _ [some (.int (nI j)), some (.int (nI n))] _ _ _ _ _ _
  refine v_iload_0 dJ0_checkIndex_df160_0 ?_
  refine v_iload_1 dJ0_checkIndex_df160_1 ?_
  refine v_getsF dJ0_checkIndex_df160_2 (uu (i := 454) (by decide +kernel) rfl) ?_ (fun t => ?_)
  · refine v_callS_3 dJ0_checkIndex_df160_5 ml_J0_1059 ms_J3_checkIndex_8e157 (by decide) (Nat.le_refl 0) (Nat.le_refl 0) (Nat.le_of_ble_eq_true rfl) (fun h => h) (c_J3_n hj hn ?_)
    refine v_pop dJ0_checkIndex_df160_8 rfl ?_
    refine v_vret dJ0_checkIndex_df160_9 rfl rfl rfl rfl ?_
    exact hQ
  · refine v_callS_3 dJ0_checkIndex_df160_5 ml_J0_1059 ms_J3_checkIndex_8e157 (by decide) (Nat.le_refl 0) (Nat.le_refl 0) (Nat.le_of_ble_eq_true rfl) (fun h => h) (c_J3_r hj hn ?_)
    refine v_pop dJ0_checkIndex_df160_8 rfl ?_
    refine v_vret dJ0_checkIndex_df160_9 rfl rfl rfl rfl ?_
    exact hQ
theorem c_J1charAt (hi : i < 56) (hj : j < (wd i).length) (hQ : Q (some (.int (nI ((wd i).getD j 0)))) sh I L R) : C 2 yJ1_charAt_3b067 cJ1_charAt_3b067 2 (some .char) 0 0 b ad x0 [.ref (ad (56 + i)), .int (nI j)] N sh I L R Q := by
  have hc := wd_c hi hj
  refine C.of (by decide) (Nat.le_of_ble_eq_true rfl) ?_
  show V _ _ _ _ _ _ _ _ _ _ _ _ _ _ _ [some (.ref (ad (56 + i))), some (.int (nI j))] _ _ _ _ _ _
  refine v_iload_1 dJ1_charAt_3b067_0 ?_
  refine v_aload_0 dJ1_charAt_3b067_1 ?_
  refine v_slen dJ1_charAt_3b067_2 hi ?_
  refine v_callS_2 dJ1_charAt_3b067_3 ml_J1_9 ms_J0_checkIndex_df160 (by decide) (Nat.le_refl 0) (Nat.le_refl 0) (Nat.le_of_ble_eq_true rfl) (fun h => h) (c_J0check hj (by have := (wd_ok i hi).1; omega) ?_)
  refine v_aload_0 dJ1_charAt_3b067_6 ?_
  refine v_iload_1 dJ1_charAt_3b067_7 ?_
  refine v_sbal dJ1_charAt_3b067_8 hi rfl hj ?_
  refine v_sipush (v := nI 255) dJ1_charAt_3b067_9 (by decide) ?_
  refine v_iand dJ1_charAt_3b067_12 ?_
  refine v_i2c dJ1_charAt_3b067_13 ?_
  rw [chr_id (by omega)]
  refine v_tret dJ1_charAt_3b067_14 (pk_charN (by omega)).1 rfl rfl rfl rfl ?_
  exact hQ
theorem c_charAt (hi : i < 56) (hj : j < (wd i).length) (hQ : Q (some (.int (nI ((wd i).getD j 0)))) sh I L R) : C 3 yJ0_charAt_5068e cJ0_charAt_5068e 2 (some .char) 0 0 b ad x0 [.ref (ad i), .int (nI j)] N sh I L R Q := by
  have hc := wd_c hi hj
  refine C.of (by decide) (Nat.le_of_ble_eq_true rfl) ?_
  show V _ _ _ _ _ _ _ _ _ _ _ _ _ _ _ [some (.ref (ad i)), some (.int (nI j))] _ _ _ _ _ _
  refine v_aload_0 dJ0_charAt_5068e_0 ?_
  refine v_callW_0 dJ0_charAt_5068e_1 ml_J0_492 mv_J0_isLatin1_aae02 hi rfl (by decide) (Nat.le_refl 0) (Nat.le_refl 0) (Nat.le_of_ble_eq_true rfl) (fun h => h) (c_isLatin1 hi ?_)
  refine v_if_eq (tgt := 16) dJ0_charAt_5068e_4 (by decide) (fun h => absurd h (by decide)) (fun _ => ?_)
  refine v_aload_0 dJ0_charAt_5068e_7 ?_
  refine v_sval dJ0_charAt_5068e_8 (uu (i := 2032) (by decide +kernel) rfl) hi ?_
  refine v_iload_1 dJ0_charAt_5068e_11 ?_
  refine v_callS_2 dJ0_charAt_5068e_12 ml_J0_495 ms_J1_charAt_3b067 (by decide) (Nat.le_refl 0) (Nat.le_refl 0) (Nat.le_of_ble_eq_true rfl) (fun h => h) (c_J1charAt hi hj ?_)
  refine v_tret dJ0_charAt_5068e_15 (pk_charN (by omega)).1 rfl rfl rfl rfl ?_
  exact hQ
theorem c_X9_lettersOf (hi : i < 56) (hQ : Q (some (.long (l64 (wd i) 0))) sh I L R) : C 4 yX9_lettersOf cX9_lettersOf 4 (some .long) 0 0 b ad x0 [.ref (ad i)] N sh I L R Q := by
  have h8 := (wd_ok i hi).1
  have loop : ∀ (n j : Nat) (x : Int64), j + n = (wd i).length → l64 ((wd i).drop j) x = l64 (wd i) 0 → V yX9_lettersOf cX9_lettersOf 4 (some .long) 4 0 0 N Q b ad x0 0 0 4 [some (.ref (ad i)), some (.long x), none, some (.int (nI j))] [] N sh I L R := by
    intro n
    induction n with
    | zero =>
      intro j x hn hx
      refine v_iload_3 dX9_lettersOf_4 ?_
      refine v_aload_0 dX9_lettersOf_5 ?_
      refine v_callW_0 dX9_lettersOf_6 ml_X9_45 mv_J0_length_8abf5 hi rfl (by decide) (Nat.le_refl 0) (Nat.le_refl 0) (Nat.le_of_ble_eq_true rfl) (fun h => h) (c_length hi ?_)
      refine v_icmp_ge (tgt := 34) dX9_lettersOf_9 (by decide) (fun hc9 => ?_) (fun hc9 => ?_)
      · (try rw [nI_leI (by omega) (by omega)] at hc9)
        refine v_lload_1 dX9_lettersOf_34 ?_
        refine v_lret dX9_lettersOf_35 rfl rfl rfl rfl ?_
        rw [List.drop_eq_nil_of_le (by omega)] at hx
        rw [show x = l64 (wd i) 0 from hx]
        exact hQ
      · (try rw [nI_leI (by omega) (by omega)] at hc9)
        exact absurd (show (wd i).length ≤ j by omega) hc9
    | succ n ih =>
      intro j x hn hx
      have hj : j < (wd i).length := by omega
      have hc := wd_c hi hj
      refine v_iload_3 dX9_lettersOf_4 ?_
      refine v_aload_0 dX9_lettersOf_5 ?_
      refine v_callW_0 dX9_lettersOf_6 ml_X9_45 mv_J0_length_8abf5 hi rfl (by decide) (Nat.le_refl 0) (Nat.le_refl 0) (Nat.le_of_ble_eq_true rfl) (fun h => h) (c_length hi ?_)
      refine v_icmp_ge (tgt := 34) dX9_lettersOf_9 (by decide) (fun hc9 => ?_) (fun hc9 => ?_)
      · (try rw [nI_leI (by omega) (by omega)] at hc9)
        exact absurd hc9 (by omega)
      · (try rw [nI_leI (by omega) (by omega)] at hc9)
        refine v_lload_1 dX9_lettersOf_12 ?_
        refine v_iconst (v := nI 5) dX9_lettersOf_13 (by decide) ?_
        refine v_lshl dX9_lettersOf_14 ?_
        refine v_aload_0 dX9_lettersOf_15 ?_
        refine v_iload_3 dX9_lettersOf_16 ?_
        refine v_callW_1 dX9_lettersOf_17 ml_X9_50 mv_J0_charAt_5068e hi rfl (by decide) (Nat.le_refl 0) (Nat.le_refl 0) (Nat.le_of_ble_eq_true rfl) (fun h => h) (c_charAt hi hj ?_)
        refine v_bipush (v := nI 97) dX9_lettersOf_20 (by decide) ?_
        refine v_isub dX9_lettersOf_22 ?_
        refine v_iconst (v := nI 1) dX9_lettersOf_23 (by decide) ?_
        refine v_iadd dX9_lettersOf_24 ?_
        rw [ch_a hc.1]
        refine v_i2l dX9_lettersOf_25 ?_
        refine v_lor dX9_lettersOf_26 ?_
        refine v_lstore_1 rfl dX9_lettersOf_27 ?_
        refine v_iinc_3 (v := 1) rfl dX9_lettersOf_28 (by decide) ?_
        rw [show nI j + 1 = nI (j + 1) from nI_1 j]
        refine v_goto (tgt := 4) dX9_lettersOf_31 (by decide) ?_
        refine ih (j + 1) _ (by omega) ?_
        rw [← hx, List.drop_eq_getElem_cons hj]
        rw [show (wd i)[j] = (wd i).getD j 0 from by rw [List.getD_eq_getElem?_getD, List.getElem?_eq_getElem hj]; rfl]
        rfl
  refine C.of (by decide) (Nat.le_of_ble_eq_true rfl) ?_
  show V _ _ _ _ _ _ _ _ _ _ _ _ _ _ _ [some (.ref (ad i)), none, none, none] _ _ _ _ _ _
  refine v_lconst (v := 0) dX9_lettersOf_0 (by decide) ?_
  refine v_lstore_1 rfl dX9_lettersOf_1 ?_
  refine v_iconst (v := nI 0) dX9_lettersOf_2 (by decide) ?_
  refine v_istore_3 rfl dX9_lettersOf_3 ?_
  exact loop (wd i).length 0 0 (by omega) rfl
end
