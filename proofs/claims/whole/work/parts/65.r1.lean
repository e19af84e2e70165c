theorem dX7_needRoom_0 : decode cX7_needRoom 0 = .ok (.aload_n 0, 1) := by decide +kernel
theorem dX7_needRoom_1 : decode cX7_needRoom 1 = .ok (.getfield 73, 3) := by decide +kernel
theorem dX7_needRoom_4 : decode cX7_needRoom 4 = .ok (.getfield 106, 3) := by decide +kernel
theorem dX7_needRoom_7 : decode cX7_needRoom 7 = .ok (.ifCond .ne 10, 3) := by decide +kernel
theorem dX7_needRoom_10 : decode cX7_needRoom 10 = .ok (.aload_n 0, 1) := by decide +kernel
theorem dX7_needRoom_11 : decode cX7_needRoom 11 = .ok (.bipush 6, 2) := by decide +kernel
theorem dX7_needRoom_13 : decode cX7_needRoom 13 = .ok (.invokevirtual 146, 3) := by decide +kernel
theorem dX7_needRoom_16 : decode cX7_needRoom 16 = .ok (.ireturn, 1) := by decide +kernel
theorem dX7_needRoom_17 : decode cX7_needRoom 17 = .ok (.iload_n 1, 1) := by decide +kernel
theorem dX7_needRoom_18 : decode cX7_needRoom 18 = .ok (.iload_n 2, 1) := by decide +kernel
theorem dX7_needRoom_19 : decode cX7_needRoom 19 = .ok (.if_icmp .lt 11, 3) := by decide +kernel
theorem dX7_needRoom_22 : decode cX7_needRoom 22 = .ok (.aload_n 0, 1) := by decide +kernel
theorem dX7_needRoom_23 : decode cX7_needRoom 23 = .ok (.iconst 5, 1) := by decide +kernel
theorem dX7_needRoom_24 : decode cX7_needRoom 24 = .ok (.invokevirtual 146, 3) := by decide +kernel
theorem dX7_needRoom_27 : decode cX7_needRoom 27 = .ok (.ifCond .eq 7, 3) := by decide +kernel
theorem dX7_needRoom_30 : decode cX7_needRoom 30 = .ok (.iconst 1, 1) := by decide +kernel
theorem dX7_needRoom_31 : decode cX7_needRoom 31 = .ok (.goto 4, 3) := by decide +kernel
theorem dX7_needRoom_34 : decode cX7_needRoom 34 = .ok (.iconst 0, 1) := by decide +kernel
theorem dX7_needRoom_35 : decode cX7_needRoom 35 = .ok (.ireturn, 1) := by decide +kernel
theorem dX7_needWord_0 : decode cX7_needWord 0 = .ok (.aload_n 0, 1) := by decide +kernel
theorem dX7_needWord_1 : decode cX7_needWord 1 = .ok (.aload_n 1, 1) := by decide +kernel
theorem dX7_needWord_2 : decode cX7_needWord 2 = .ok (.invokevirtual 115, 3) := by decide +kernel
theorem dX7_needWord_5 : decode cX7_needWord 5 = .ok (.ifCond .ne 11, 3) := by decide +kernel
theorem dX7_needWord_8 : decode cX7_needWord 8 = .ok (.aload_n 0, 1) := by decide +kernel
theorem dX7_needWord_9 : decode cX7_needWord 9 = .ok (.iconst 1, 1) := by decide +kernel
theorem dX7_needWord_10 : decode cX7_needWord 10 = .ok (.invokevirtual 102, 3) := by decide +kernel
theorem dX7_needWord_13 : decode cX7_needWord 13 = .ok (.ifCond .eq 7, 3) := by decide +kernel
theorem dX7_needWord_16 : decode cX7_needWord 16 = .ok (.iconst 1, 1) := by decide +kernel
theorem dX7_needWord_17 : decode cX7_needWord 17 = .ok (.goto 4, 3) := by decide +kernel
theorem dX7_needWord_20 : decode cX7_needWord 20 = .ok (.iconst 0, 1) := by decide +kernel
theorem dX7_needWord_21 : decode cX7_needWord 21 = .ok (.ireturn, 1) := by decide +kernel
theorem dX7_needWhole_0 : decode cX7_needWhole 0 = .ok (.aload_n 0, 1) := by decide +kernel
theorem dX7_needWhole_1 : decode cX7_needWhole 1 = .ok (.aload_n 1, 1) := by decide +kernel
theorem dX7_needWhole_2 : decode cX7_needWhole 2 = .ok (.invokevirtual 115, 3) := by decide +kernel
theorem dX7_needWhole_5 : decode cX7_needWhole 5 = .ok (.ifCond .eq 14, 3) := by decide +kernel
theorem dX7_needWhole_8 : decode cX7_needWhole 8 = .ok (.aload_n 0, 1) := by decide +kernel
theorem dX7_needWhole_9 : decode cX7_needWhole 9 = .ok (.getfield 14, 3) := by decide +kernel
theorem dX7_needWhole_12 : decode cX7_needWhole 12 = .ok (.getfield 96, 3) := by decide +kernel
theorem dX7_needWhole_15 : decode cX7_needWhole 15 = .ok (.iconst 2, 1) := by decide +kernel
theorem dX7_needWhole_16 : decode cX7_needWhole 16 = .ok (.if_icmp .eq 9, 3) := by decide +kernel
theorem dX7_needWhole_19 : decode cX7_needWhole 19 = .ok (.aload_n 0, 1) := by decide +kernel
theorem dX7_needWhole_20 : decode cX7_needWhole 20 = .ok (.iconst 1, 1) := by decide +kernel
theorem dX7_needWhole_21 : decode cX7_needWhole 21 = .ok (.invokevirtual 102, 3) := by decide +kernel
theorem dX7_needWhole_24 : decode cX7_needWhole 24 = .ok (.ireturn, 1) := by decide +kernel
theorem dX7_needWhole_25 : decode cX7_needWhole 25 = .ok (.aload_n 0, 1) := by decide +kernel
theorem dX7_needWhole_26 : decode cX7_needWhole 26 = .ok (.aload_n 0, 1) := by decide +kernel
theorem dX7_needWhole_27 : decode cX7_needWhole 27 = .ok (.getfield 14, 3) := by decide +kernel
theorem dX7_needWhole_30 : decode cX7_needWhole 30 = .ok (.getfield 312, 3) := by decide +kernel
theorem dX7_needWhole_33 : decode cX7_needWhole 33 = .ok (.putfield 154, 3) := by decide +kernel
theorem dX7_needWhole_36 : decode cX7_needWhole 36 = .ok (.aload_n 0, 1) := by decide +kernel
theorem dX7_needWhole_37 : decode cX7_needWhole 37 = .ok (.getfield 14, 3) := by decide +kernel
theorem dX7_needWhole_40 : decode cX7_needWhole 40 = .ok (.invokevirtual 89, 3) := by decide +kernel
theorem dX7_needWhole_43 : decode cX7_needWhole 43 = .ok (.aload_n 0, 1) := by decide +kernel
theorem dX7_needWhole_44 : decode cX7_needWhole 44 = .ok (.getfield 154, 3) := by decide +kernel
theorem dX7_needWhole_47 : decode cX7_needWhole 47 = .ok (.iload_n 2, 1) := by decide +kernel
theorem dX7_needWhole_48 : decode cX7_needWhole 48 = .ok (.if_icmp .lt 11, 3) := by decide +kernel
theorem dX7_needWhole_51 : decode cX7_needWhole 51 = .ok (.aload_n 0, 1) := by decide +kernel
theorem dX7_needWhole_52 : decode cX7_needWhole 52 = .ok (.getfield 154, 3) := by decide +kernel
theorem dX7_needWhole_55 : decode cX7_needWhole 55 = .ok (.iload_n 3, 1) := by decide +kernel
theorem dX7_needWhole_56 : decode cX7_needWhole 56 = .ok (.if_icmp .le 11, 3) := by decide +kernel
theorem dX7_needWhole_59 : decode cX7_needWhole 59 = .ok (.aload_n 0, 1) := by decide +kernel
theorem dX7_needWhole_60 : decode cX7_needWhole 60 = .ok (.iconst 4, 1) := by decide +kernel
theorem dX7_needWhole_61 : decode cX7_needWhole 61 = .ok (.invokevirtual 146, 3) := by decide +kernel
theorem dX7_needWhole_64 : decode cX7_needWhole 64 = .ok (.ifCond .eq 7, 3) := by decide +kernel
theorem dX7_needWhole_67 : decode cX7_needWhole 67 = .ok (.iconst 1, 1) := by decide +kernel
theorem dX7_needWhole_68 : decode cX7_needWhole 68 = .ok (.goto 4, 3) := by decide +kernel
theorem dX7_needWhole_71 : decode cX7_needWhole 71 = .ok (.iconst 0, 1) := by decide +kernel
theorem dX7_needWhole_72 : decode cX7_needWhole 72 = .ok (.ireturn, 1) := by decide +kernel
theorem dX7_needKind_0 : decode cX7_needKind 0 = .ok (.aload_n 0, 1) := by decide +kernel
theorem dX7_needKind_1 : decode cX7_needKind 1 = .ok (.ldc_w 315, 3) := by decide +kernel
theorem dX7_needKind_4 : decode cX7_needKind 4 = .ok (.invokevirtual 115, 3) := by decide +kernel
theorem dX7_needKind_7 : decode cX7_needKind 7 = .ok (.ifCond .eq 11, 3) := by decide +kernel
theorem dX7_needKind_10 : decode cX7_needKind 10 = .ok (.aload_n 0, 1) := by decide +kernel
theorem dX7_needKind_11 : decode cX7_needKind 11 = .ok (.iconst 0, 1) := by decide +kernel
theorem dX7_needKind_12 : decode cX7_needKind 12 = .ok (.putfield 154, 3) := by decide +kernel
theorem dX7_needKind_15 : decode cX7_needKind 15 = .ok (.goto 80, 3) := by decide +kernel
theorem dX7_needKind_18 : decode cX7_needKind 18 = .ok (.aload_n 0, 1) := by decide +kernel
theorem dX7_needKind_19 : decode cX7_needKind 19 = .ok (.ldc 51, 2) := by decide +kernel
theorem dX7_needKind_21 : decode cX7_needKind 21 = .ok (.invokevirtual 115, 3) := by decide +kernel
theorem dX7_needKind_24 : decode cX7_needKind 24 = .ok (.ifCond .eq 11, 3) := by decide +kernel
theorem dX7_needKind_27 : decode cX7_needKind 27 = .ok (.aload_n 0, 1) := by decide +kernel
theorem dX7_needKind_28 : decode cX7_needKind 28 = .ok (.iconst 1, 1) := by decide +kernel
theorem dX7_needKind_29 : decode cX7_needKind 29 = .ok (.putfield 154, 3) := by decide +kernel
theorem dX7_needKind_32 : decode cX7_needKind 32 = .ok (.goto 63, 3) := by decide +kernel
theorem dX7_needKind_35 : decode cX7_needKind 35 = .ok (.aload_n 0, 1) := by decide +kernel
theorem dX7_needKind_36 : decode cX7_needKind 36 = .ok (.ldc_w 317, 3) := by decide +kernel
theorem dX7_needKind_39 : decode cX7_needKind 39 = .ok (.invokevirtual 115, 3) := by decide +kernel
theorem dX7_needKind_42 : decode cX7_needKind 42 = .ok (.ifCond .eq 11, 3) := by decide +kernel
theorem dX7_needKind_45 : decode cX7_needKind 45 = .ok (.aload_n 0, 1) := by decide +kernel
theorem dX7_needKind_46 : decode cX7_needKind 46 = .ok (.iconst 2, 1) := by decide +kernel
theorem dX7_needKind_47 : decode cX7_needKind 47 = .ok (.putfield 154, 3) := by decide +kernel
theorem dX7_needKind_50 : decode cX7_needKind 50 = .ok (.goto 45, 3) := by decide +kernel
theorem dX7_needKind_53 : decode cX7_needKind 53 = .ok (.aload_n 0, 1) := by decide +kernel
theorem dX7_needKind_54 : decode cX7_needKind 54 = .ok (.ldc_w 319, 3) := by decide +kernel
theorem dX7_needKind_57 : decode cX7_needKind 57 = .ok (.invokevirtual 115, 3) := by decide +kernel
theorem dX7_needKind_60 : decode cX7_needKind 60 = .ok (.ifCond .eq 11, 3) := by decide +kernel
theorem dX7_needKind_63 : decode cX7_needKind 63 = .ok (.aload_n 0, 1) := by decide +kernel
theorem dX7_needKind_64 : decode cX7_needKind 64 = .ok (.iconst 3, 1) := by decide +kernel
theorem dX7_needKind_65 : decode cX7_needKind 65 = .ok (.putfield 154, 3) := by decide +kernel
theorem dX7_needKind_68 : decode cX7_needKind 68 = .ok (.goto 27, 3) := by decide +kernel
theorem dX7_needKind_71 : decode cX7_needKind 71 = .ok (.aload_n 0, 1) := by decide +kernel
theorem dX7_needKind_72 : decode cX7_needKind 72 = .ok (.ldc_w 321, 3) := by decide +kernel
theorem dX7_needKind_75 : decode cX7_needKind 75 = .ok (.invokevirtual 115, 3) := by decide +kernel
theorem dX7_needKind_78 : decode cX7_needKind 78 = .ok (.ifCond .eq 11, 3) := by decide +kernel
theorem dX7_needKind_81 : decode cX7_needKind 81 = .ok (.aload_n 0, 1) := by decide +kernel
theorem dX7_needKind_82 : decode cX7_needKind 82 = .ok (.iconst 4, 1) := by decide +kernel
theorem dX7_needKind_83 : decode cX7_needKind 83 = .ok (.putfield 154, 3) := by decide +kernel
theorem dX7_needKind_86 : decode cX7_needKind 86 = .ok (.goto 9, 3) := by decide +kernel
theorem dX7_needKind_89 : decode cX7_needKind 89 = .ok (.aload_n 0, 1) := by decide +kernel
theorem dX7_needKind_90 : decode cX7_needKind 90 = .ok (.iconst 1, 1) := by decide +kernel
theorem dX7_needKind_91 : decode cX7_needKind 91 = .ok (.invokevirtual 102, 3) := by decide +kernel
theorem dX7_needKind_94 : decode cX7_needKind 94 = .ok (.ireturn, 1) := by decide +kernel
theorem dX7_needKind_95 : decode cX7_needKind 95 = .ok (.iconst 1, 1) := by decide +kernel
theorem dX7_needKind_96 : decode cX7_needKind 96 = .ok (.ireturn, 1) := by decide +kernel
theorem dX7_passWord_0 : decode cX7_passWord 0 = .ok (.aload_n 0, 1) := by decide +kernel
theorem dX7_passWord_1 : decode cX7_passWord 1 = .ok (.getfield 14, 3) := by decide +kernel
theorem dX7_passWord_4 : decode cX7_passWord 4 = .ok (.aload_n 1, 1) := by decide +kernel
theorem dX7_passWord_5 : decode cX7_passWord 5 = .ok (.invokevirtual 199, 3) := by decide +kernel
theorem dX7_passWord_8 : decode cX7_passWord 8 = .ok (.ifCond .ne 5, 3) := by decide +kernel
theorem dX7_passWord_11 : decode cX7_passWord 11 = .ok (.iconst 0, 1) := by decide +kernel
theorem dX7_passWord_12 : decode cX7_passWord 12 = .ok (.ireturn, 1) := by decide +kernel
theorem dX7_passWord_13 : decode cX7_passWord 13 = .ok (.aload_n 0, 1) := by decide +kernel
theorem dX7_passWord_14 : decode cX7_passWord 14 = .ok (.getfield 14, 3) := by decide +kernel
theorem dX7_passWord_17 : decode cX7_passWord 17 = .ok (.invokevirtual 89, 3) := by decide +kernel
theorem dX7_passWord_20 : decode cX7_passWord 20 = .ok (.iconst 1, 1) := by decide +kernel
theorem dX7_passWord_21 : decode cX7_passWord 21 = .ok (.ireturn, 1) := by decide +kernel
theorem dX7_passComma_0 : decode cX7_passComma 0 = .ok (.aload_n 0, 1) := by decide +kernel
theorem dX7_passComma_1 : decode cX7_passComma 1 = .ok (.getfield 14, 3) := by decide +kernel
theorem dX7_passComma_4 : decode cX7_passComma 4 = .ok (.getfield 96, 3) := by decide +kernel
theorem dX7_passComma_7 : decode cX7_passComma 7 = .ok (.iconst 4, 1) := by decide +kernel
theorem dX7_passComma_8 : decode cX7_passComma 8 = .ok (.if_icmp .eq 5, 3) := by decide +kernel
theorem dX7_passComma_11 : decode cX7_passComma 11 = .ok (.iconst 0, 1) := by decide +kernel
theorem dX7_passComma_12 : decode cX7_passComma 12 = .ok (.ireturn, 1) := by decide +kernel
theorem dX7_passComma_13 : decode cX7_passComma 13 = .ok (.aload_n 0, 1) := by decide +kernel
theorem dX7_passComma_14 : decode cX7_passComma 14 = .ok (.getfield 14, 3) := by decide +kernel
theorem dX7_passComma_17 : decode cX7_passComma 17 = .ok (.invokevirtual 89, 3) := by decide +kernel
theorem dX7_passComma_20 : decode cX7_passComma 20 = .ok (.iconst 1, 1) := by decide +kernel
theorem dX7_passComma_21 : decode cX7_passComma 21 = .ok (.ireturn, 1) := by decide +kernel
theorem dX7_failHere_0 : decode cX7_failHere 0 = .ok (.aload_n 0, 1) := by decide +kernel
theorem dX7_failHere_1 : decode cX7_failHere 1 = .ok (.iload_n 1, 1) := by decide +kernel
theorem dX7_failHere_2 : decode cX7_failHere 2 = .ok (.putfield 67, 3) := by decide +kernel
theorem dX7_failHere_5 : decode cX7_failHere 5 = .ok (.aload_n 0, 1) := by decide +kernel
theorem dX7_failHere_6 : decode cX7_failHere 6 = .ok (.aload_n 0, 1) := by decide +kernel
theorem dX7_failHere_7 : decode cX7_failHere 7 = .ok (.getfield 14, 3) := by decide +kernel
theorem dX7_failHere_10 : decode cX7_failHere 10 = .ok (.getfield 334, 3) := by decide +kernel
theorem dX7_failHere_13 : decode cX7_failHere 13 = .ok (.putfield 70, 3) := by decide +kernel
theorem dX7_failHere_16 : decode cX7_failHere 16 = .ok (.iconst 0, 1) := by decide +kernel
theorem dX7_failHere_17 : decode cX7_failHere 17 = .ok (.ireturn, 1) := by decide +kernel
theorem dX7_failBefore_0 : decode cX7_failBefore 0 = .ok (.aload_n 0, 1) := by decide +kernel
theorem dX7_failBefore_1 : decode cX7_failBefore 1 = .ok (.iload_n 1, 1) := by decide +kernel
theorem dX7_failBefore_2 : decode cX7_failBefore 2 = .ok (.putfield 67, 3) := by decide +kernel
theorem dX7_failBefore_5 : decode cX7_failBefore 5 = .ok (.aload_n 0, 1) := by decide +kernel
theorem dX7_failBefore_6 : decode cX7_failBefore 6 = .ok (.aload_n 0, 1) := by decide +kernel
theorem dX7_failBefore_7 : decode cX7_failBefore 7 = .ok (.getfield 14, 3) := by decide +kernel
theorem dX7_failBefore_10 : decode cX7_failBefore 10 = .ok (.getfield 337, 3) := by decide +kernel
theorem dX7_failBefore_13 : decode cX7_failBefore 13 = .ok (.putfield 70, 3) := by decide +kernel
theorem dX7_failBefore_16 : decode cX7_failBefore 16 = .ok (.iconst 0, 1) := by decide +kernel
theorem dX7_failBefore_17 : decode cX7_failBefore 17 = .ok (.ireturn, 1) := by decide +kernel
section
variable {y : MethodName} {cc : ByteArray} {nL : Nat} {ret : Option FieldType} {k mc ms NF : Nat} {Q : QT} {b : Nat} {ad : Nat → Nat} {x0 : Bool} {cu su pc : Nat} {lv tl : List (Option Value)} {st rest : List Value} {N : Nat} {sh : HS} {I : HI} {L : HL} {R : HR}
theorem v_ldcSw {index i : Nat} (hd : decode cc pc = .ok (.ldc_w index, 3)) (hi : i < 56) (ho : (strs.getD i ("", 0, "")).1 = y.cls) (hx : (strs.getD i ("", 0, "")).2.1 = index) (h : V y cc nL ret k mc ms NF Q b ad x0 cu su (pc + 3) lv (.ref (ad i) :: rest) N sh I L R) : V y cc nL ret k mc ms NF Q b ad x0 cu su pc lv rest N sh I L R := by
  intro p l e s m args below meth c0 H locs D dA ls hc
  obtain ⟨h1, h2, h3, h4, h5, h6, h7, h8, h9, h10, h11, h12, h13, h14, h15⟩ := id hc
  have hZ := h13.1 i hi
  rw [ho, hx] at hZ
  intro T hT X
  obtain ⟨t, a1, b1⟩ := h p l e s m args below meth c0 H locs D dA ls hc T hT X
  exact ⟨t, X.ldcStringW h1 h7 (text := (strs.getD i ("", 0, "")).2.2) (a := ad i) hZ.1 hZ.2 (g := F0 m pc ls rest) rfl (by rw [h2]; exact hd) t a1, b1⟩
end
/-- only tokens, fault, place and number have changed -/
def Fr9 (o : Bool) (I J : HI) (L M : HL) : Prop := (∀ x, x ≠ 88 → x ≠ 89 → J x = I x) ∧ (∀ j, 2 ≤ j → j ≠ 9 → J 88 j = I 88 j) ∧ (∀ x, x ≠ 89 → M x = L x) ∧ (o = true → J 88 0 = I 88 0)
theorem Fr9.refl {I : HI} {L : HL} : Fr9 true I I L L := ⟨fun _ _ _ => rfl, fun _ _ _ => rfl, fun _ _ => rfl, fun _ => rfl⟩
theorem Fr9.trans {I J K : HI} {L M N : HL} {o o' : Bool} (h : Fr9 o I J L M) (h2 : Fr9 o' J K M N) : Fr9 (o && o') I K L N := ⟨fun x a c => (h2.1 x a c).trans (h.1 x a c), fun j a c => (h2.2.1 j a c).trans (h.2.1 j a c), fun x a => (h2.2.2.1 x a).trans (h.2.2.1 x a), fun q => by rw [Bool.and_eq_true] at q; exact (h2.2.2.2 q.2).trans (h.2.2.2 q.1)⟩
theorem Fr9.up9 {I J : HI} {L M : HL} {o : Bool} (h : Fr9 o I J L M) {v : Int32} : Fr9 o I (ui J 88 9 v) L M := ⟨fun x a c => by rw [ui_ne a]; exact h.1 x a c, fun i a c => by rw [ui_o (by omega)]; exact h.2.1 i a c, h.2.2.1, fun q => by rw [ui_o (by decide)]; exact h.2.2.2 q⟩
theorem Fr9.upf {I J : HI} {L M : HL} {o : Bool} (h : Fr9 o I J L M) {j : Nat} {v : Int32} (hj : j < 2) : Fr9 false I (ui J 88 j v) L M := ⟨fun x a c => by rw [ui_ne a]; exact h.1 x a c, fun i a c => by rw [ui_o (by omega)]; exact h.2.1 i a c, h.2.2.1, fun q => by cases q⟩
section
variable {b : Nat} {ad : Nat → Nat} {I J : HI} {L M : HL} {R : HR} {Q : QT} {tp : Nat → Nat} {sz k e bf : Nat} {s : PS}
theorem Fr9.tk (hJ : ∀ x, x ≠ 89 → J x = I x) (hM : ∀ x, x ≠ 89 → M x = L x) : Fr9 true I J L M := ⟨fun x _ c => hJ x c, fun j _ _ => by rw [hJ 88 (by decide)], hM, fun _ => by rw [hJ 88 (by decide)]⟩
theorem TkI.up (h : TkI I L R tp sz e bf) {j : Nat} {v : Int32} : TkI (ui I 88 j v) L R tp sz e bf := by
  obtain ⟨⟨a1, a2, a3, a4, a5, a6⟩, h1, h2, h3, h4, h5, h6⟩ := h
  refine ⟨⟨a1, by rw [ui_ne (by decide)]; exact a2, a3, fun i hi => by rw [ui_ne (by decide)]; exact a4 i hi, by rw [ui_ne (by decide)]; exact a5, a6⟩, h1, by rw [ui_ne (by decide)]; exact h2, by rw [ui_ne (by decide)]; exact h3, by rw [ui_ne (by decide)]; exact h4, fun q => by rw [ui_ne (by decide)]; exact h5 q, h6⟩
theorem TkI.fr (h : TkI I L R tp sz e bf) (e1 : J 1 = I 1) (e2 : J 89 = I 89) (e3 : M 89 = L 89) : TkI J M R tp sz e bf := by
  obtain ⟨⟨a1, a2, a3, a4, a5, a6⟩, h1, h2, h3, h4, h5, h6⟩ := h
  exact ⟨⟨a1, by rw [e2]; exact a2, a3, fun i hi => by rw [e1]; exact a4 i hi, by rw [e2]; exact a5, a6⟩, h1, by rw [e2]; exact h2, by rw [e2]; exact h3, by rw [e2]; exact h4, fun q => by rw [e2]; exact h5 q, fun q => by rw [e3]; exact h6 q⟩
theorem TkI.by (h : TkI I L R tp sz e bf) : ∀ i, i < sz → tp i < 256 := fun i hi => (h.1.2.2.2.1 i hi).2
theorem c_X7_failHere {f : Nat} (hR : RO R) (hT : TkI I L R tp sz e bf) (hQ : ∀ J : HI, J 88 0 = nI f → J 88 1 = nI (tA tp sz e) → Fr9 false I J L L → TkI J L R tp sz e bf → Q (some (.int 0)) SH J L R) : KK 0 mX7_failHere b ad [.ref (b + 88), .int (nI f)] I L R Q := by
  refine K.of (M := mX7_failHere) (lv := [some (.ref (b + 88)), some (.int (nI f))]) (by decide) (Nat.le_of_ble_eq_true rfl) rfl ?_
  refine v_aload_0 dX7_failHere_0 ?_
  refine v_iload_1 dX7_failHere_1 ?_
  refine u_putI dX7_failHere_2 gf_X7_67 (by first | assumption | rfl | exact led_1 (by assumption) | exact led_2 (by assumption) | exact bk_m (by assumption) (by first | assumption | omega) | exact bk_p (by assumption) (by first | assumption | omega) | exact bk_o (by assumption) (by first | assumption | omega) | exact bk_s (by assumption) (by first | assumption | omega) | exact bk_1 (by assumption) | exact bk_2 (by assumption) | exact bk_3 (by assumption) | exact bk_4 (by assumption) | exact bk_5 (by assumption) | exact bk_6 (by assumption) | exact bk_7 (by assumption) | exact bk_8 (by assumption) | exact sh_ring _ (by first | assumption | omega) | exact sh_imgs _ (by first | assumption | omega)) rfl rfl rfl ?_
  refine v_aload_0 dX7_failHere_5 ?_
  refine v_aload_0 dX7_failHere_6 ?_
  refine u_getR dX7_failHere_7 gf_X7_14 (by first | assumption | rfl | exact led_1 (by assumption) | exact led_2 (by assumption) | exact bk_m (by assumption) (by first | assumption | omega) | exact bk_p (by assumption) (by first | assumption | omega) | exact bk_o (by assumption) (by first | assumption | omega) | exact bk_s (by assumption) (by first | assumption | omega) | exact bk_1 (by assumption) | exact bk_2 (by assumption) | exact bk_3 (by assumption) | exact bk_4 (by assumption) | exact bk_5 (by assumption) | exact bk_6 (by assumption) | exact bk_7 (by assumption) | exact bk_8 (by assumption) | exact sh_ring _ (by first | assumption | omega) | exact sh_imgs _ (by first | assumption | omega)) (ro_X7_3 (by assumption)) ?_
  refine u_getI dX7_failHere_10 gf_X7_334 (by first | assumption | rfl | exact led_1 (by assumption) | exact led_2 (by assumption) | exact bk_m (by assumption) (by first | assumption | omega) | exact bk_p (by assumption) (by first | assumption | omega) | exact bk_o (by assumption) (by first | assumption | omega) | exact bk_s (by assumption) (by first | assumption | omega) | exact bk_1 (by assumption) | exact bk_2 (by assumption) | exact bk_3 (by assumption) | exact bk_4 (by assumption) | exact bk_5 (by assumption) | exact bk_6 (by assumption) | exact bk_7 (by assumption) | exact bk_8 (by assumption) | exact sh_ring _ (by first | assumption | omega) | exact sh_imgs _ (by first | assumption | omega)) ?_
  rw [ui_ne (by decide), hT.2.2.2.1]
  refine u_putI dX7_failHere_13 gf_X7_70 (by first | assumption | rfl | exact led_1 (by assumption) | exact led_2 (by assumption) | exact bk_m (by assumption) (by first | assumption | omega) | exact bk_p (by assumption) (by first | assumption | omega) | exact bk_o (by assumption) (by first | assumption | omega) | exact bk_s (by assumption) (by first | assumption | omega) | exact bk_1 (by assumption) | exact bk_2 (by assumption) | exact bk_3 (by assumption) | exact bk_4 (by assumption) | exact bk_5 (by assumption) | exact bk_6 (by assumption) | exact bk_7 (by assumption) | exact bk_8 (by assumption) | exact sh_ring _ (by first | assumption | omega) | exact sh_imgs _ (by first | assumption | omega)) rfl rfl rfl ?_
  refine v_iconst (v := nI 0) dX7_failHere_16 (by decide) ?_
  refine v_zret dX7_failHere_17 (by first | rfl | exact bI_n _) rfl rfl rfl rfl ?_
  exact hQ _ (by rw [ui_o (by decide), ui_s]) (ui_s _ _ _ _) ((Fr9.refl.upf (by decide)).upf (by decide)) hT.up.up
theorem c_X7_failBefore {f : Nat} (hR : RO R) (hT : TkI I L R tp sz e bf) (hQ : ∀ J : HI, J 88 0 = nI f → J 88 1 = nI (bf) → Fr9 false I J L L → TkI J L R tp sz e bf → Q (some (.int 0)) SH J L R) : KK 0 mX7_failBefore b ad [.ref (b + 88), .int (nI f)] I L R Q := by
  refine K.of (M := mX7_failBefore) (lv := [some (.ref (b + 88)), some (.int (nI f))]) (by decide) (Nat.le_of_ble_eq_true rfl) rfl ?_
  refine v_aload_0 dX7_failBefore_0 ?_
  refine v_iload_1 dX7_failBefore_1 ?_
  refine u_putI dX7_failBefore_2 gf_X7_67 (by first | assumption | rfl | exact led_1 (by assumption) | exact led_2 (by assumption) | exact bk_m (by assumption) (by first | assumption | omega) | exact bk_p (by assumption) (by first | assumption | omega) | exact bk_o (by assumption) (by first | assumption | omega) | exact bk_s (by assumption) (by first | assumption | omega) | exact bk_1 (by assumption) | exact bk_2 (by assumption) | exact bk_3 (by assumption) | exact bk_4 (by assumption) | exact bk_5 (by assumption) | exact bk_6 (by assumption) | exact bk_7 (by assumption) | exact bk_8 (by assumption) | exact sh_ring _ (by first | assumption | omega) | exact sh_imgs _ (by first | assumption | omega)) rfl rfl rfl ?_
  refine v_aload_0 dX7_failBefore_5 ?_
  refine v_aload_0 dX7_failBefore_6 ?_
  refine u_getR dX7_failBefore_7 gf_X7_14 (by first | assumption | rfl | exact led_1 (by assumption) | exact led_2 (by assumption) | exact bk_m (by assumption) (by first | assumption | omega) | exact bk_p (by assumption) (by first | assumption | omega) | exact bk_o (by assumption) (by first | assumption | omega) | exact bk_s (by assumption) (by first | assumption | omega) | exact bk_1 (by assumption) | exact bk_2 (by assumption) | exact bk_3 (by assumption) | exact bk_4 (by assumption) | exact bk_5 (by assumption) | exact bk_6 (by assumption) | exact bk_7 (by assumption) | exact bk_8 (by assumption) | exact sh_ring _ (by first | assumption | omega) | exact sh_imgs _ (by first | assumption | omega)) (ro_X7_3 (by assumption)) ?_
  refine u_getI dX7_failBefore_10 gf_X7_337 (by first | assumption | rfl | exact led_1 (by assumption) | exact led_2 (by assumption) | exact bk_m (by assumption) (by first | assumption | omega) | exact bk_p (by assumption) (by first | assumption | omega) | exact bk_o (by assumption) (by first | assumption | omega) | exact bk_s (by assumption) (by first | assumption | omega) | exact bk_1 (by assumption) | exact bk_2 (by assumption) | exact bk_3 (by assumption) | exact bk_4 (by assumption) | exact bk_5 (by assumption) | exact bk_6 (by assumption) | exact bk_7 (by assumption) | exact bk_8 (by assumption) | exact sh_ring _ (by first | assumption | omega) | exact sh_imgs _ (by first | assumption | omega)) ?_
  rw [ui_ne (by decide), hT.2.2.2.2.1]
  refine u_putI dX7_failBefore_13 gf_X7_70 (by first | assumption | rfl | exact led_1 (by assumption) | exact led_2 (by assumption) | exact bk_m (by assumption) (by first | assumption | omega) | exact bk_p (by assumption) (by first | assumption | omega) | exact bk_o (by assumption) (by first | assumption | omega) | exact bk_s (by assumption) (by first | assumption | omega) | exact bk_1 (by assumption) | exact bk_2 (by assumption) | exact bk_3 (by assumption) | exact bk_4 (by assumption) | exact bk_5 (by assumption) | exact bk_6 (by assumption) | exact bk_7 (by assumption) | exact bk_8 (by assumption) | exact sh_ring _ (by first | assumption | omega) | exact sh_imgs _ (by first | assumption | omega)) rfl rfl rfl ?_
  refine v_iconst (v := nI 0) dX7_failBefore_16 (by decide) ?_
  refine v_zret dX7_failBefore_17 (by first | rfl | exact bI_n _) rfl rfl rfl rfl ?_
  exact hQ _ (by rw [ui_o (by decide), ui_s]) (ui_s _ _ _ _) ((Fr9.refl.upf (by decide)).upf (by decide)) hT.up.up
theorem c_X7_passWord {i : Nat} (hi : i < 56) (hR : RO R) (hT : TkI I L R tp sz e bf) (hQ0 : isW tp sz (wd i) e = false → Q (some (.int 0)) SH I L R) (hQ1 : isW tp sz (wd i) e = true → ∀ (J : HI) (M : HL), TkI J M R tp sz (tE tp sz e) (tA tp sz e) → Fr9 true I J L M → Q (some (.int 1)) SH J M R) : KK 5 mX7_passWord b ad [.ref (b + 88), .ref (ad i)] I L R Q := by
  refine K.of (M := mX7_passWord) (lv := [some (.ref (b + 88)), some (.ref (ad i))]) (by decide) (Nat.le_of_ble_eq_true rfl) rfl ?_
  refine v_aload_0 dX7_passWord_0 ?_
  refine u_getR dX7_passWord_1 gf_X7_14 (by first | assumption | rfl | exact led_1 (by assumption) | exact led_2 (by assumption) | exact bk_m (by assumption) (by first | assumption | omega) | exact bk_p (by assumption) (by first | assumption | omega) | exact bk_o (by assumption) (by first | assumption | omega) | exact bk_s (by assumption) (by first | assumption | omega) | exact bk_1 (by assumption) | exact bk_2 (by assumption) | exact bk_3 (by assumption) | exact bk_4 (by assumption) | exact bk_5 (by assumption) | exact bk_6 (by assumption) | exact bk_7 (by assumption) | exact bk_8 (by assumption) | exact sh_ring _ (by first | assumption | omega) | exact sh_imgs _ (by first | assumption | omega)) (ro_X7_3 (by assumption)) ?_
  refine v_aload_1 dX7_passWord_4 ?_
  refine u_callV_1 dX7_passWord_5 ml_X7_199 mv_X9_isWord (by first | assumption | rfl | exact led_1 (by assumption) | exact led_2 (by assumption) | exact bk_m (by assumption) (by first | assumption | omega) | exact bk_p (by assumption) (by first | assumption | omega) | exact bk_o (by assumption) (by first | assumption | omega) | exact bk_s (by assumption) (by first | assumption | omega) | exact bk_1 (by assumption) | exact bk_2 (by assumption) | exact bk_3 (by assumption) | exact bk_4 (by assumption) | exact bk_5 (by assumption) | exact bk_6 (by assumption) | exact bk_7 (by assumption) | exact bk_8 (by assumption) | exact sh_ring _ (by first | assumption | omega) | exact sh_imgs _ (by first | assumption | omega)) (by decide) rfl (by decide) (Nat.le_of_ble_eq_true rfl) (c_X9_isWord hi hR hT ?_)
  refine v_if_ne (tgt := 13) dX7_passWord_8 (by decide) (fun hc8 => ?_) (fun hc8 => ?_)
  · (first | rw [bI_0, Bool.not_eq_false] at hc8 | rw [bI_0] at hc8 | rw [show (0 : Int32) = nI 0 from rfl, nI_eq (by omega) (by omega)] at hc8 | skip)
    refine v_aload_0 dX7_passWord_13 ?_
    refine u_getR dX7_passWord_14 gf_X7_14 (by first | assumption | rfl | exact led_1 (by assumption) | exact led_2 (by assumption) | exact bk_m (by assumption) (by first | assumption | omega) | exact bk_p (by assumption) (by first | assumption | omega) | exact bk_o (by assumption) (by first | assumption | omega) | exact bk_s (by assumption) (by first | assumption | omega) | exact bk_1 (by assumption) | exact bk_2 (by assumption) | exact bk_3 (by assumption) | exact bk_4 (by assumption) | exact bk_5 (by assumption) | exact bk_6 (by assumption) | exact bk_7 (by assumption) | exact bk_8 (by assumption) | exact sh_ring _ (by first | assumption | omega) | exact sh_imgs _ (by first | assumption | omega)) (ro_X7_3 (by assumption)) ?_
    refine u_callV_0 dX7_passWord_17 ml_X7_89 mv_X9_advance (by first | assumption | rfl | exact led_1 (by assumption) | exact led_2 (by assumption) | exact bk_m (by assumption) (by first | assumption | omega) | exact bk_p (by assumption) (by first | assumption | omega) | exact bk_o (by assumption) (by first | assumption | omega) | exact bk_s (by assumption) (by first | assumption | omega) | exact bk_1 (by assumption) | exact bk_2 (by assumption) | exact bk_3 (by assumption) | exact bk_4 (by assumption) | exact bk_5 (by assumption) | exact bk_6 (by assumption) | exact bk_7 (by assumption) | exact bk_8 (by assumption) | exact sh_ring _ (by first | assumption | omega) | exact sh_imgs _ (by first | assumption | omega)) (by decide) rfl (by decide) (Nat.le_of_ble_eq_true rfl) (c_X9_advance hR hT.1 hT.2.2.2.1 (fun J M p1 p2 p3 => ?_))
    refine v_iconst (v := nI 1) dX7_passWord_20 (by decide) ?_
    refine v_zret dX7_passWord_21 (by first | rfl | exact bI_n _) rfl rfl rfl rfl ?_
    exact hQ1 hc8 _ _ p1 (Fr9.tk p2 p3)
  · (first | rw [bI_0, Bool.not_eq_false] at hc8 | rw [bI_0] at hc8 | rw [show (0 : Int32) = nI 0 from rfl, nI_eq (by omega) (by omega)] at hc8 | skip)
    refine v_iconst (v := nI 0) dX7_passWord_11 (by decide) ?_
    refine v_zret dX7_passWord_12 (by first | rfl | exact bI_n _) rfl rfl rfl rfl ?_
    exact hQ0 hc8
theorem c_X7_passComma (hR : RO R) (hT : TkI I L R tp sz e bf) (hQ0 : tK tp sz e ≠ 44 → Q (some (.int 0)) SH I L R) (hQ1 : tK tp sz e = 44 → ∀ (J : HI) (M : HL), TkI J M R tp sz (tE tp sz e) (tA tp sz e) → Fr9 true I J L M → Q (some (.int 1)) SH J M R) : KK 2 mX7_passComma b ad [.ref (b + 88)] I L R Q := by
  have hsb := srt_b (tK tp sz e)
  refine K.of (M := mX7_passComma) (lv := [some (.ref (b + 88))]) (by decide) (Nat.le_of_ble_eq_true rfl) rfl ?_
  refine v_aload_0 dX7_passComma_0 ?_
  refine u_getR dX7_passComma_1 gf_X7_14 (by first | assumption | rfl | exact led_1 (by assumption) | exact led_2 (by assumption) | exact bk_m (by assumption) (by first | assumption | omega) | exact bk_p (by assumption) (by first | assumption | omega) | exact bk_o (by assumption) (by first | assumption | omega) | exact bk_s (by assumption) (by first | assumption | omega) | exact bk_1 (by assumption) | exact bk_2 (by assumption) | exact bk_3 (by assumption) | exact bk_4 (by assumption) | exact bk_5 (by assumption) | exact bk_6 (by assumption) | exact bk_7 (by assumption) | exact bk_8 (by assumption) | exact sh_ring _ (by first | assumption | omega) | exact sh_imgs _ (by first | assumption | omega)) (ro_X7_3 (by assumption)) ?_
  refine u_getI dX7_passComma_4 gf_X7_96 (by first | assumption | rfl | exact led_1 (by assumption) | exact led_2 (by assumption) | exact bk_m (by assumption) (by first | assumption | omega) | exact bk_p (by assumption) (by first | assumption | omega) | exact bk_o (by assumption) (by first | assumption | omega) | exact bk_s (by assumption) (by first | assumption | omega) | exact bk_1 (by assumption) | exact bk_2 (by assumption) | exact bk_3 (by assumption) | exact bk_4 (by assumption) | exact bk_5 (by assumption) | exact bk_6 (by assumption) | exact bk_7 (by assumption) | exact bk_8 (by assumption) | exact sh_ring _ (by first | assumption | omega) | exact sh_imgs _ (by first | assumption | omega)) ?_
  rw [hT.2.2.1]
  refine v_iconst (v := nI 4) dX7_passComma_7 (by decide) ?_
  refine v_icmp_eq (tgt := 13) dX7_passComma_8 (by decide) (fun hc8 => ?_) (fun hc8 => ?_)
  · rw [nI_eq (by omega) (by decide), srt_4] at hc8
    refine v_aload_0 dX7_passComma_13 ?_
    refine u_getR dX7_passComma_14 gf_X7_14 (by first | assumption | rfl | exact led_1 (by assumption) | exact led_2 (by assumption) | exact bk_m (by assumption) (by first | assumption | omega) | exact bk_p (by assumption) (by first | assumption | omega) | exact bk_o (by assumption) (by first | assumption | omega) | exact bk_s (by assumption) (by first | assumption | omega) | exact bk_1 (by assumption) | exact bk_2 (by assumption) | exact bk_3 (by assumption) | exact bk_4 (by assumption) | exact bk_5 (by assumption) | exact bk_6 (by assumption) | exact bk_7 (by assumption) | exact bk_8 (by assumption) | exact sh_ring _ (by first | assumption | omega) | exact sh_imgs _ (by first | assumption | omega)) (ro_X7_3 (by assumption)) ?_
    refine u_callV_0 dX7_passComma_17 ml_X7_89 mv_X9_advance (by first | assumption | rfl | exact led_1 (by assumption) | exact led_2 (by assumption) | exact bk_m (by assumption) (by first | assumption | omega) | exact bk_p (by assumption) (by first | assumption | omega) | exact bk_o (by assumption) (by first | assumption | omega) | exact bk_s (by assumption) (by first | assumption | omega) | exact bk_1 (by assumption) | exact bk_2 (by assumption) | exact bk_3 (by assumption) | exact bk_4 (by assumption) | exact bk_5 (by assumption) | exact bk_6 (by assumption) | exact bk_7 (by assumption) | exact bk_8 (by assumption) | exact sh_ring _ (by first | assumption | omega) | exact sh_imgs _ (by first | assumption | omega)) (by decide) rfl (by decide) (Nat.le_of_ble_eq_true rfl) (c_X9_advance hR hT.1 hT.2.2.2.1 (fun J M p1 p2 p3 => ?_))
    refine v_iconst (v := nI 1) dX7_passComma_20 (by decide) ?_
    refine v_zret dX7_passComma_21 (by first | rfl | exact bI_n _) rfl rfl rfl rfl ?_
    exact hQ1 hc8 _ _ p1 (Fr9.tk p2 p3)
  · rw [nI_eq (by omega) (by decide), srt_4] at hc8
    refine v_iconst (v := nI 0) dX7_passComma_11 (by decide) ?_
    refine v_zret dX7_passComma_12 (by first | rfl | exact bI_n _) rfl rfl rfl rfl ?_
    exact hQ0 hc8
theorem c_X7_needWord {i : Nat} (hi : i < 56) (hR : RO R) (hT : TkI I L R tp sz s.1 bf) (hQ0 : ∀ f p, qWord tp sz (wd i) s = .inl (f, p) → ∀ (J : HI) (M : HL), J 88 0 = nI f → J 88 1 = nI p → Fr9 false I J L M → Q (some (.int 0)) SH J M R) (hQ1 : ∀ u, qWord tp sz (wd i) s = .inr u → u = nx tp sz s → ∀ (J : HI) (M : HL), TkI J M R tp sz u.1 (tA tp sz s.1) → Fr9 true I J L M → Q (some (.int 1)) SH J M R) : KK 6 mX7_needWord b ad [.ref (b + 88), .ref (ad i)] I L R Q := by
  refine K.of (M := mX7_needWord) (lv := [some (.ref (b + 88)), some (.ref (ad i))]) (by decide) (Nat.le_of_ble_eq_true rfl) rfl ?_
  refine v_aload_0 dX7_needWord_0 ?_
  refine v_aload_1 dX7_needWord_1 ?_
  refine u_callV_1 dX7_needWord_2 ml_X7_115 mv_X7_passWord (by first | assumption | rfl | exact led_1 (by assumption) | exact led_2 (by assumption) | exact bk_m (by assumption) (by first | assumption | omega) | exact bk_p (by assumption) (by first | assumption | omega) | exact bk_o (by assumption) (by first | assumption | omega) | exact bk_s (by assumption) (by first | assumption | omega) | exact bk_1 (by assumption) | exact bk_2 (by assumption) | exact bk_3 (by assumption) | exact bk_4 (by assumption) | exact bk_5 (by assumption) | exact bk_6 (by assumption) | exact bk_7 (by assumption) | exact bk_8 (by assumption) | exact sh_ring _ (by first | assumption | omega) | exact sh_imgs _ (by first | assumption | omega)) (by decide) rfl (by decide) (Nat.le_of_ble_eq_true rfl) (c_X7_passWord hi hR hT (fun q => ?_) (fun q J M r1 r2 => ?_))
  · refine v_if_ne (tgt := 16) dX7_needWord_5 (by decide) (fun hc5 => ?_) (fun hc5 => ?_)
    · exact absurd rfl hc5
    · (first | rw [bI_0, Bool.not_eq_false] at hc5 | rw [bI_0] at hc5 | rw [show (0 : Int32) = nI 0 from rfl, nI_eq (by omega) (by omega)] at hc5 | skip)
      refine v_aload_0 dX7_needWord_8 ?_
      refine v_iconst (v := nI 1) dX7_needWord_9 (by decide) ?_
      refine u_callV_1 dX7_needWord_10 ml_X7_102 mv_X7_failHere (by first | assumption | rfl | exact led_1 (by assumption) | exact led_2 (by assumption) | exact bk_m (by assumption) (by first | assumption | omega) | exact bk_p (by assumption) (by first | assumption | omega) | exact bk_o (by assumption) (by first | assumption | omega) | exact bk_s (by assumption) (by first | assumption | omega) | exact bk_1 (by assumption) | exact bk_2 (by assumption) | exact bk_3 (by assumption) | exact bk_4 (by assumption) | exact bk_5 (by assumption) | exact bk_6 (by assumption) | exact bk_7 (by assumption) | exact bk_8 (by assumption) | exact sh_ring _ (by first | assumption | omega) | exact sh_imgs _ (by first | assumption | omega)) (by decide) rfl (by decide) (Nat.le_of_ble_eq_true rfl) (c_X7_failHere hR hT (fun J p1 p2 p3 p4 => ?_))
      refine v_if_eq (tgt := 20) dX7_needWord_13 (by decide) (fun hc13 => ?_) (fun hc13 => ?_)
      · (first | rw [bI_0, Bool.not_eq_false] at hc13 | rw [bI_0] at hc13 | rw [show (0 : Int32) = nI 0 from rfl, nI_eq (by omega) (by omega)] at hc13 | skip)
        refine v_iconst (v := nI 0) dX7_needWord_20 (by decide) ?_
        refine v_zret dX7_needWord_21 (by first | rfl | exact bI_n _) rfl rfl rfl rfl ?_
        exact hQ0 1 _ (by unfold qWord; rw [if_neg (by rw [q]; decide)]) _ _ p1 p2 p3
      · exact absurd rfl hc13
  · refine v_if_ne (tgt := 16) dX7_needWord_5 (by decide) (fun hc5 => ?_) (fun hc5 => ?_)
    · (first | rw [bI_0, Bool.not_eq_false] at hc5 | rw [bI_0] at hc5 | rw [show (0 : Int32) = nI 0 from rfl, nI_eq (by omega) (by omega)] at hc5 | skip)
      refine v_iconst (v := nI 1) dX7_needWord_16 (by decide) ?_
      refine v_goto (tgt := 21) dX7_needWord_17 (by decide) ?_
      refine v_zret dX7_needWord_21 (by first | rfl | exact bI_n _) rfl rfl rfl rfl ?_
      exact hQ1 _ (by unfold qWord; rw [if_pos q]) rfl _ _ r1 r2
    · exact absurd hc5 (by decide)
theorem c_X7_needWhole {i lo hi' : Nat} (hi : i < 56) (hlo : lo < 2 ^ 31) (hhi : hi' < 2 ^ 31) (hR : RO R) (hT : TkI I L R tp sz s.1 bf) (hQ0 : ∀ f p, qWhole tp sz (wd i) lo hi' s = .inl (f, p) → ∀ (J : HI) (M : HL), J 88 0 = nI f → J 88 1 = nI p → Fr9 false I J L M → Q (some (.int 0)) SH J M R) (hQ1 : ∀ v u, qWhole tp sz (wd i) lo hi' s = .inr (v, u) → u = nx tp sz (nx tp sz s) → lo ≤ v → v ≤ hi' → ∀ (J : HI) (M : HL), TkI J M R tp sz u.1 (tA tp sz (nx tp sz s).1) → J 88 9 = nI v → Fr9 true I J L M → Q (some (.int 1)) SH J M R) : KK 6 mX7_needWhole b ad [.ref (b + 88), .ref (ad i), .int (nI lo), .int (nI hi')] I L R Q := by
  refine K.of (M := mX7_needWhole) (lv := [some (.ref (b + 88)), some (.ref (ad i)), some (.int (nI lo)), some (.int (nI hi'))]) (by decide) (Nat.le_of_ble_eq_true rfl) rfl ?_
  refine v_aload_0 dX7_needWhole_0 ?_
  refine v_aload_1 dX7_needWhole_1 ?_
  refine u_callV_1 dX7_needWhole_2 ml_X7_115 mv_X7_passWord (by first | assumption | rfl | exact led_1 (by assumption) | exact led_2 (by assumption) | exact bk_m (by assumption) (by first | assumption | omega) | exact bk_p (by assumption) (by first | assumption | omega) | exact bk_o (by assumption) (by first | assumption | omega) | exact bk_s (by assumption) (by first | assumption | omega) | exact bk_1 (by assumption) | exact bk_2 (by assumption) | exact bk_3 (by assumption) | exact bk_4 (by assumption) | exact bk_5 (by assumption) | exact bk_6 (by assumption) | exact bk_7 (by assumption) | exact bk_8 (by assumption) | exact sh_ring _ (by first | assumption | omega) | exact sh_imgs _ (by first | assumption | omega)) (by decide) rfl (by decide) (Nat.le_of_ble_eq_true rfl) (c_X7_passWord hi hR hT (fun q => ?_) (fun q J M r1 r2 => ?_))
  · refine v_if_eq (tgt := 19) dX7_needWhole_5 (by decide) (fun hc5 => ?_) (fun hc5 => ?_)
    · (first | rw [bI_0, Bool.not_eq_false] at hc5 | rw [bI_0] at hc5 | rw [show (0 : Int32) = nI 0 from rfl, nI_eq (by omega) (by omega)] at hc5 | skip)
      refine v_aload_0 dX7_needWhole_19 ?_
      refine v_iconst (v := nI 1) dX7_needWhole_20 (by decide) ?_
      refine u_callV_1 dX7_needWhole_21 ml_X7_102 mv_X7_failHere (by first | assumption | rfl | exact led_1 (by assumption) | exact led_2 (by assumption) | exact bk_m (by assumption) (by first | assumption | omega) | exact bk_p (by assumption) (by first | assumption | omega) | exact bk_o (by assumption) (by first | assumption | omega) | exact bk_s (by assumption) (by first | assumption | omega) | exact bk_1 (by assumption) | exact bk_2 (by assumption) | exact bk_3 (by assumption) | exact bk_4 (by assumption) | exact bk_5 (by assumption) | exact bk_6 (by assumption) | exact bk_7 (by assumption) | exact bk_8 (by assumption) | exact sh_ring _ (by first | assumption | omega) | exact sh_imgs _ (by first | assumption | omega)) (by decide) rfl (by decide) (Nat.le_of_ble_eq_true rfl) (c_X7_failHere hR hT (fun J p1 p2 p3 p4 => ?_))
      refine v_zret dX7_needWhole_24 (by first | rfl | exact bI_n _) rfl rfl rfl rfl ?_
      exact hQ0 1 _ (by unfold qWhole; exact bnd_l (by unfold qWord; rw [if_neg (by rw [q]; decide)])) _ _ p1 p2 p3
    · exact absurd rfl hc5
  · have hW : qWhole tp sz (wd i) lo hi' s = qNum tp sz lo hi' (nx tp sz s) := by unfold qWhole; exact bnd_r (by unfold qWord; rw [if_pos q])
    have hsb := srt_b (tK tp sz (nx tp sz s).1)
    have r1 : TkI J M R tp sz (nx tp sz s).1 (tA tp sz s.1) := r1
    refine v_if_eq (tgt := 19) dX7_needWhole_5 (by decide) (fun hc5 => ?_) (fun hc5 => ?_)
    · exact absurd hc5 (by decide)
    · (first | rw [bI_0, Bool.not_eq_false] at hc5 | rw [bI_0] at hc5 | rw [show (0 : Int32) = nI 0 from rfl, nI_eq (by omega) (by omega)] at hc5 | skip)
      refine v_aload_0 dX7_needWhole_8 ?_
      refine u_getR dX7_needWhole_9 gf_X7_14 (by first | assumption | rfl | exact led_1 (by assumption) | exact led_2 (by assumption) | exact bk_m (by assumption) (by first | assumption | omega) | exact bk_p (by assumption) (by first | assumption | omega) | exact bk_o (by assumption) (by first | assumption | omega) | exact bk_s (by assumption) (by first | assumption | omega) | exact bk_1 (by assumption) | exact bk_2 (by assumption) | exact bk_3 (by assumption) | exact bk_4 (by assumption) | exact bk_5 (by assumption) | exact bk_6 (by assumption) | exact bk_7 (by assumption) | exact bk_8 (by assumption) | exact sh_ring _ (by first | assumption | omega) | exact sh_imgs _ (by first | assumption | omega)) (ro_X7_3 (by assumption)) ?_
      refine u_getI dX7_needWhole_12 gf_X7_96 (by first | assumption | rfl | exact led_1 (by assumption) | exact led_2 (by assumption) | exact bk_m (by assumption) (by first | assumption | omega) | exact bk_p (by assumption) (by first | assumption | omega) | exact bk_o (by assumption) (by first | assumption | omega) | exact bk_s (by assumption) (by first | assumption | omega) | exact bk_1 (by assumption) | exact bk_2 (by assumption) | exact bk_3 (by assumption) | exact bk_4 (by assumption) | exact bk_5 (by assumption) | exact bk_6 (by assumption) | exact bk_7 (by assumption) | exact bk_8 (by assumption) | exact sh_ring _ (by first | assumption | omega) | exact sh_imgs _ (by first | assumption | omega)) ?_
      rw [r1.2.2.1]
      refine v_iconst (v := nI 2) dX7_needWhole_15 (by decide) ?_
      refine v_icmp_eq (tgt := 25) dX7_needWhole_16 (by decide) (fun hc16 => ?_) (fun hc16 => ?_)
      · rw [nI_eq (by omega) (by decide), srt_2] at hc16
        have hw := tW_lt r1.by r1.2.1 hc16
        refine v_aload_0 dX7_needWhole_25 ?_
        refine v_aload_0 dX7_needWhole_26 ?_
        refine u_getR dX7_needWhole_27 gf_X7_14 (by first | assumption | rfl | exact led_1 (by assumption) | exact led_2 (by assumption) | exact bk_m (by assumption) (by first | assumption | omega) | exact bk_p (by assumption) (by first | assumption | omega) | exact bk_o (by assumption) (by first | assumption | omega) | exact bk_s (by assumption) (by first | assumption | omega) | exact bk_1 (by assumption) | exact bk_2 (by assumption) | exact bk_3 (by assumption) | exact bk_4 (by assumption) | exact bk_5 (by assumption) | exact bk_6 (by assumption) | exact bk_7 (by assumption) | exact bk_8 (by assumption) | exact sh_ring _ (by first | assumption | omega) | exact sh_imgs _ (by first | assumption | omega)) (ro_X7_3 (by assumption)) ?_
        refine u_getI dX7_needWhole_30 gf_X7_312 (by first | assumption | rfl | exact led_1 (by assumption) | exact led_2 (by assumption) | exact bk_m (by assumption) (by first | assumption | omega) | exact bk_p (by assumption) (by first | assumption | omega) | exact bk_o (by assumption) (by first | assumption | omega) | exact bk_s (by assumption) (by first | assumption | omega) | exact bk_1 (by assumption) | exact bk_2 (by assumption) | exact bk_3 (by assumption) | exact bk_4 (by assumption) | exact bk_5 (by assumption) | exact bk_6 (by assumption) | exact bk_7 (by assumption) | exact bk_8 (by assumption) | exact sh_ring _ (by first | assumption | omega) | exact sh_imgs _ (by first | assumption | omega)) ?_
        rw [r1.2.2.2.2.2.1 hc16]
        refine u_putI dX7_needWhole_33 gf_X7_154 (by first | assumption | rfl | exact led_1 (by assumption) | exact led_2 (by assumption) | exact bk_m (by assumption) (by first | assumption | omega) | exact bk_p (by assumption) (by first | assumption | omega) | exact bk_o (by assumption) (by first | assumption | omega) | exact bk_s (by assumption) (by first | assumption | omega) | exact bk_1 (by assumption) | exact bk_2 (by assumption) | exact bk_3 (by assumption) | exact bk_4 (by assumption) | exact bk_5 (by assumption) | exact bk_6 (by assumption) | exact bk_7 (by assumption) | exact bk_8 (by assumption) | exact sh_ring _ (by first | assumption | omega) | exact sh_imgs _ (by first | assumption | omega)) rfl rfl rfl ?_
        refine v_aload_0 dX7_needWhole_36 ?_
        refine u_getR dX7_needWhole_37 gf_X7_14 (by first | assumption | rfl | exact led_1 (by assumption) | exact led_2 (by assumption) | exact bk_m (by assumption) (by first | assumption | omega) | exact bk_p (by assumption) (by first | assumption | omega) | exact bk_o (by assumption) (by first | assumption | omega) | exact bk_s (by assumption) (by first | assumption | omega) | exact bk_1 (by assumption) | exact bk_2 (by assumption) | exact bk_3 (by assumption) | exact bk_4 (by assumption) | exact bk_5 (by assumption) | exact bk_6 (by assumption) | exact bk_7 (by assumption) | exact bk_8 (by assumption) | exact sh_ring _ (by first | assumption | omega) | exact sh_imgs _ (by first | assumption | omega)) (ro_X7_3 (by assumption)) ?_
        refine u_callV_0 dX7_needWhole_40 ml_X7_89 mv_X9_advance (by first | assumption | rfl | exact led_1 (by assumption) | exact led_2 (by assumption) | exact bk_m (by assumption) (by first | assumption | omega) | exact bk_p (by assumption) (by first | assumption | omega) | exact bk_o (by assumption) (by first | assumption | omega) | exact bk_s (by assumption) (by first | assumption | omega) | exact bk_1 (by assumption) | exact bk_2 (by assumption) | exact bk_3 (by assumption) | exact bk_4 (by assumption) | exact bk_5 (by assumption) | exact bk_6 (by assumption) | exact bk_7 (by assumption) | exact bk_8 (by assumption) | exact sh_ring _ (by first | assumption | omega) | exact sh_imgs _ (by first | assumption | omega)) (by decide) rfl (by decide) (Nat.le_of_ble_eq_true rfl) (c_X9_advance hR r1.up.1 r1.up.2.2.2.1 (fun K N z1 z2 z3 => ?_))
        have n9 : K 88 9 = nI (tW tp sz (nx tp sz s).1) := by rw [z2 88 (by decide), ui_s]
        refine v_aload_0 dX7_needWhole_43 ?_
        refine u_getI dX7_needWhole_44 gf_X7_154 (by first | assumption | rfl | exact led_1 (by assumption) | exact led_2 (by assumption) | exact bk_m (by assumption) (by first | assumption | omega) | exact bk_p (by assumption) (by first | assumption | omega) | exact bk_o (by assumption) (by first | assumption | omega) | exact bk_s (by assumption) (by first | assumption | omega) | exact bk_1 (by assumption) | exact bk_2 (by assumption) | exact bk_3 (by assumption) | exact bk_4 (by assumption) | exact bk_5 (by assumption) | exact bk_6 (by assumption) | exact bk_7 (by assumption) | exact bk_8 (by assumption) | exact sh_ring _ (by first | assumption | omega) | exact sh_imgs _ (by first | assumption | omega)) ?_
        rw [n9]
        refine v_iload_2 dX7_needWhole_47 ?_
        refine v_icmp_lt (tgt := 59) dX7_needWhole_48 (by decide) (fun hc48 => ?_) (fun hc48 => ?_)
        · (try rw [nI_ltI (by omega) (by omega)] at hc48)
          refine v_aload_0 dX7_needWhole_59 ?_
          refine v_iconst (v := nI 4) dX7_needWhole_60 (by decide) ?_
          refine u_callV_1 dX7_needWhole_61 ml_X7_146 mv_X7_failBefore (by first | assumption | rfl | exact led_1 (by assumption) | exact led_2 (by assumption) | exact bk_m (by assumption) (by first | assumption | omega) | exact bk_p (by assumption) (by first | assumption | omega) | exact bk_o (by assumption) (by first | assumption | omega) | exact bk_s (by assumption) (by first | assumption | omega) | exact bk_1 (by assumption) | exact bk_2 (by assumption) | exact bk_3 (by assumption) | exact bk_4 (by assumption) | exact bk_5 (by assumption) | exact bk_6 (by assumption) | exact bk_7 (by assumption) | exact bk_8 (by assumption) | exact sh_ring _ (by first | assumption | omega) | exact sh_imgs _ (by first | assumption | omega)) (by decide) rfl (by decide) (Nat.le_of_ble_eq_true rfl) (c_X7_failBefore hR z1 (fun K2 p1 p2 p3 p4 => ?_))
          refine v_if_eq (tgt := 71) dX7_needWhole_64 (by decide) (fun hc64 => ?_) (fun hc64 => ?_)
          · (first | rw [bI_0, Bool.not_eq_false] at hc64 | rw [bI_0] at hc64 | rw [show (0 : Int32) = nI 0 from rfl, nI_eq (by omega) (by omega)] at hc64 | skip)
            refine v_iconst (v := nI 0) dX7_needWhole_71 (by decide) ?_
            refine v_zret dX7_needWhole_72 (by first | rfl | exact bI_n _) rfl rfl rfl rfl ?_
            exact hQ0 4 _ (by rw [hW]; unfold qNum; rw [if_pos hc16, if_neg (fun q => by omega)]) _ _ p1 p2 (((r2.up9).trans (Fr9.tk z2 z3)).trans p3)
          · exact absurd rfl hc64
        · (try rw [nI_ltI (by omega) (by omega)] at hc48)
          refine v_aload_0 dX7_needWhole_51 ?_
          refine u_getI dX7_needWhole_52 gf_X7_154 (by first | assumption | rfl | exact led_1 (by assumption) | exact led_2 (by assumption) | exact bk_m (by assumption) (by first | assumption | omega) | exact bk_p (by assumption) (by first | assumption | omega) | exact bk_o (by assumption) (by first | assumption | omega) | exact bk_s (by assumption) (by first | assumption | omega) | exact bk_1 (by assumption) | exact bk_2 (by assumption) | exact bk_3 (by assumption) | exact bk_4 (by assumption) | exact bk_5 (by assumption) | exact bk_6 (by assumption) | exact bk_7 (by assumption) | exact bk_8 (by assumption) | exact sh_ring _ (by first | assumption | omega) | exact sh_imgs _ (by first | assumption | omega)) ?_
          rw [n9]
          refine v_iload_3 dX7_needWhole_55 ?_
          refine v_icmp_le (tgt := 67) dX7_needWhole_56 (by decide) (fun hc56 => ?_) (fun hc56 => ?_)
          · (try rw [nI_leI (by omega) (by omega)] at hc56)
            refine v_iconst (v := nI 1) dX7_needWhole_67 (by decide) ?_
            refine v_goto (tgt := 72) dX7_needWhole_68 (by decide) ?_
            refine v_zret dX7_needWhole_72 (by first | rfl | exact bI_n _) rfl rfl rfl rfl ?_
            exact hQ1 _ _ (by rw [hW]; unfold qNum; rw [if_pos hc16, if_pos ⟨by omega, by omega⟩]) rfl (by omega) (by omega) _ _ z1 n9 ((r2.up9).trans (Fr9.tk z2 z3))
          · (try rw [nI_leI (by omega) (by omega)] at hc56)
            refine v_aload_0 dX7_needWhole_59 ?_
            refine v_iconst (v := nI 4) dX7_needWhole_60 (by decide) ?_
            refine u_callV_1 dX7_needWhole_61 ml_X7_146 mv_X7_failBefore (by first | assumption | rfl | exact led_1 (by assumption) | exact led_2 (by assumption) | exact bk_m (by assumption) (by first | assumption | omega) | exact bk_p (by assumption) (by first | assumption | omega) | exact bk_o (by assumption) (by first | assumption | omega) | exact bk_s (by assumption) (by first | assumption | omega) | exact bk_1 (by assumption) | exact bk_2 (by assumption) | exact bk_3 (by assumption) | exact bk_4 (by assumption) | exact bk_5 (by assumption) | exact bk_6 (by assumption) | exact bk_7 (by assumption) | exact bk_8 (by assumption) | exact sh_ring _ (by first | assumption | omega) | exact sh_imgs _ (by first | assumption | omega)) (by decide) rfl (by decide) (Nat.le_of_ble_eq_true rfl) (c_X7_failBefore hR z1 (fun K2 p1 p2 p3 p4 => ?_))
            refine v_if_eq (tgt := 71) dX7_needWhole_64 (by decide) (fun hc64 => ?_) (fun hc64 => ?_)
            · (first | rw [bI_0, Bool.not_eq_false] at hc64 | rw [bI_0] at hc64 | rw [show (0 : Int32) = nI 0 from rfl, nI_eq (by omega) (by omega)] at hc64 | skip)
              refine v_iconst (v := nI 0) dX7_needWhole_71 (by decide) ?_
              refine v_zret dX7_needWhole_72 (by first | rfl | exact bI_n _) rfl rfl rfl rfl ?_
              exact hQ0 4 _ (by rw [hW]; unfold qNum; rw [if_pos hc16, if_neg (fun q => by omega)]) _ _ p1 p2 (((r2.up9).trans (Fr9.tk z2 z3)).trans p3)
            · exact absurd rfl hc64
      · rw [nI_eq (by omega) (by decide), srt_2] at hc16
        refine v_aload_0 dX7_needWhole_19 ?_
        refine v_iconst (v := nI 1) dX7_needWhole_20 (by decide) ?_
        refine u_callV_1 dX7_needWhole_21 ml_X7_102 mv_X7_failHere (by first | assumption | rfl | exact led_1 (by assumption) | exact led_2 (by assumption) | exact bk_m (by assumption) (by first | assumption | omega) | exact bk_p (by assumption) (by first | assumption | omega) | exact bk_o (by assumption) (by first | assumption | omega) | exact bk_s (by assumption) (by first | assumption | omega) | exact bk_1 (by assumption) | exact bk_2 (by assumption) | exact bk_3 (by assumption) | exact bk_4 (by assumption) | exact bk_5 (by assumption) | exact bk_6 (by assumption) | exact bk_7 (by assumption) | exact bk_8 (by assumption) | exact sh_ring _ (by first | assumption | omega) | exact sh_imgs _ (by first | assumption | omega)) (by decide) rfl (by decide) (Nat.le_of_ble_eq_true rfl) (c_X7_failHere hR r1 (fun K p1 p2 p3 p4 => ?_))
        refine v_zret dX7_needWhole_24 (by first | rfl | exact bI_n _) rfl rfl rfl rfl ?_
        exact hQ0 1 _ (by rw [hW]; unfold qNum; rw [if_neg hc16]) _ _ p1 p2 (r2.trans p3)
theorem c_X7_needRoom {B n most d : Nat} (hR : RO R) (hB : R 88 2 = some B) (hS : SH B = .inl 0) (hd : I B 0 = nI d) (hd9 : d < 2 ^ 31) (hn : n < 2 ^ 31) (hm : most < 2 ^ 31) (hT : TkI I L R tp sz e bf) (hQ0 : d = 0 → ∀ (J : HI), J 88 0 = nI 6 → J 88 1 = nI bf → Fr9 false I J L L → Q (some (.int 0)) SH J L R) (hQ2 : d ≠ 0 → ¬ n < most → ∀ (J : HI), J 88 0 = nI 5 → J 88 1 = nI bf → Fr9 false I J L L → Q (some (.int 0)) SH J L R) (hQ1 : d ≠ 0 → n < most → Q (some (.int 1)) SH I L R) : KK 1 mX7_needRoom b ad [.ref (b + 88), .int (nI n), .int (nI most)] I L R Q := by
  refine K.of (M := mX7_needRoom) (lv := [some (.ref (b + 88)), some (.int (nI n)), some (.int (nI most))]) (by decide) (Nat.le_of_ble_eq_true rfl) rfl ?_
  refine v_aload_0 dX7_needRoom_0 ?_
  refine u_getR dX7_needRoom_1 gf_X7_73 (by first | assumption | rfl | exact led_1 (by assumption) | exact led_2 (by assumption) | exact bk_m (by assumption) (by first | assumption | omega) | exact bk_p (by assumption) (by first | assumption | omega) | exact bk_o (by assumption) (by first | assumption | omega) | exact bk_s (by assumption) (by first | assumption | omega) | exact bk_1 (by assumption) | exact bk_2 (by assumption) | exact bk_3 (by assumption) | exact bk_4 (by assumption) | exact bk_5 (by assumption) | exact bk_6 (by assumption) | exact bk_7 (by assumption) | exact bk_8 (by assumption) | exact sh_ring _ (by first | assumption | omega) | exact sh_imgs _ (by first | assumption | omega)) (by assumption) ?_
  refine u_getI dX7_needRoom_4 gf_X7_106 (by first | assumption | rfl | exact led_1 (by assumption) | exact led_2 (by assumption) | exact bk_m (by assumption) (by first | assumption | omega) | exact bk_p (by assumption) (by first | assumption | omega) | exact bk_o (by assumption) (by first | assumption | omega) | exact bk_s (by assumption) (by first | assumption | omega) | exact bk_1 (by assumption) | exact bk_2 (by assumption) | exact bk_3 (by assumption) | exact bk_4 (by assumption) | exact bk_5 (by assumption) | exact bk_6 (by assumption) | exact bk_7 (by assumption) | exact bk_8 (by assumption) | exact sh_ring _ (by first | assumption | omega) | exact sh_imgs _ (by first | assumption | omega)) ?_
  (try rw [bx0 hF])
  rw [hd]
  refine v_if_ne (tgt := 17) dX7_needRoom_7 (by decide) (fun hc7 => ?_) (fun hc7 => ?_)
  · rw [show (0 : Int32) = nI 0 from rfl, nI_eq (by omega) (by omega)] at hc7
    refine v_iload_1 dX7_needRoom_17 ?_
    refine v_iload_2 dX7_needRoom_18 ?_
    refine v_icmp_lt (tgt := 30) dX7_needRoom_19 (by decide) (fun hc19 => ?_) (fun hc19 => ?_)
    · (try rw [nI_ltI (by omega) (by omega)] at hc19)
      refine v_iconst (v := nI 1) dX7_needRoom_30 (by decide) ?_
      refine v_goto (tgt := 35) dX7_needRoom_31 (by decide) ?_
      refine v_zret dX7_needRoom_35 (by first | rfl | exact bI_n _) rfl rfl rfl rfl ?_
      exact hQ1 hc7 hc19
    · (try rw [nI_ltI (by omega) (by omega)] at hc19)
      refine v_aload_0 dX7_needRoom_22 ?_
      refine v_iconst (v := nI 5) dX7_needRoom_23 (by decide) ?_
      refine u_callV_1 dX7_needRoom_24 ml_X7_146 mv_X7_failBefore (by first | assumption | rfl | exact led_1 (by assumption) | exact led_2 (by assumption) | exact bk_m (by assumption) (by first | assumption | omega) | exact bk_p (by assumption) (by first | assumption | omega) | exact bk_o (by assumption) (by first | assumption | omega) | exact bk_s (by assumption) (by first | assumption | omega) | exact bk_1 (by assumption) | exact bk_2 (by assumption) | exact bk_3 (by assumption) | exact bk_4 (by assumption) | exact bk_5 (by assumption) | exact bk_6 (by assumption) | exact bk_7 (by assumption) | exact bk_8 (by assumption) | exact sh_ring _ (by first | assumption | omega) | exact sh_imgs _ (by first | assumption | omega)) (by decide) rfl (by decide) (Nat.le_of_ble_eq_true rfl) (c_X7_failBefore hR hT (fun J p1 p2 p3 p4 => ?_))
      refine v_if_eq (tgt := 34) dX7_needRoom_27 (by decide) (fun hc27 => ?_) (fun hc27 => ?_)
      · (first | rw [bI_0, Bool.not_eq_false] at hc27 | rw [bI_0] at hc27 | rw [show (0 : Int32) = nI 0 from rfl, nI_eq (by omega) (by omega)] at hc27 | skip)
        refine v_iconst (v := nI 0) dX7_needRoom_34 (by decide) ?_
        refine v_zret dX7_needRoom_35 (by first | rfl | exact bI_n _) rfl rfl rfl rfl ?_
        exact hQ2 hc7 hc19 _ p1 p2 p3
      · exact absurd rfl hc27
  · rw [show (0 : Int32) = nI 0 from rfl, nI_eq (by omega) (by omega)] at hc7
    refine v_aload_0 dX7_needRoom_10 ?_
    refine v_bipush (v := nI 6) dX7_needRoom_11 (by decide) ?_
    refine u_callV_1 dX7_needRoom_13 ml_X7_146 mv_X7_failBefore (by first | assumption | rfl | exact led_1 (by assumption) | exact led_2 (by assumption) | exact bk_m (by assumption) (by first | assumption | omega) | exact bk_p (by assumption) (by first | assumption | omega) | exact bk_o (by assumption) (by first | assumption | omega) | exact bk_s (by assumption) (by first | assumption | omega) | exact bk_1 (by assumption) | exact bk_2 (by assumption) | exact bk_3 (by assumption) | exact bk_4 (by assumption) | exact bk_5 (by assumption) | exact bk_6 (by assumption) | exact bk_7 (by assumption) | exact bk_8 (by assumption) | exact sh_ring _ (by first | assumption | omega) | exact sh_imgs _ (by first | assumption | omega)) (by decide) rfl (by decide) (Nat.le_of_ble_eq_true rfl) (c_X7_failBefore hR hT (fun J p1 p2 p3 p4 => ?_))
    refine v_zret dX7_needRoom_16 (by first | rfl | exact bI_n _) rfl rfl rfl rfl ?_
    exact hQ0 hc7 _ p1 p2 p3
theorem c_X7_needKind (hR : RO R) (hT : TkI I L R tp sz s.1 bf) (hQ0 : ∀ f p, qKind tp sz s = .inl (f, p) → ∀ (J : HI) (M : HL), J 88 0 = nI f → J 88 1 = nI p → Fr9 false I J L M → Q (some (.int 0)) SH J M R) (hQ1 : ∀ v u, qKind tp sz s = .inr (v, u) → u = nx tp sz s → v < 5 → ∀ (J : HI) (M : HL), TkI J M R tp sz u.1 (tA tp sz s.1) → J 88 9 = nI v → Fr9 true I J L M → Q (some (.int 1)) SH J M R) : KK 6 mX7_needKind b ad [.ref (b + 88)] I L R Q := by
  refine K.of (M := mX7_needKind) (lv := [some (.ref (b + 88))]) (by decide) (Nat.le_of_ble_eq_true rfl) rfl ?_
  refine v_aload_0 dX7_needKind_0 ?_
  refine v_ldcSw (i := 14) dX7_needKind_1 (by decide) rfl rfl ?_
  refine u_callV_1 dX7_needKind_4 ml_X7_115 mv_X7_passWord (by first | assumption | rfl | exact led_1 (by assumption) | exact led_2 (by assumption) | exact bk_m (by assumption) (by first | assumption | omega) | exact bk_p (by assumption) (by first | assumption | omega) | exact bk_o (by assumption) (by first | assumption | omega) | exact bk_s (by assumption) (by first | assumption | omega) | exact bk_1 (by assumption) | exact bk_2 (by assumption) | exact bk_3 (by assumption) | exact bk_4 (by assumption) | exact bk_5 (by assumption) | exact bk_6 (by assumption) | exact bk_7 (by assumption) | exact bk_8 (by assumption) | exact sh_ring _ (by first | assumption | omega) | exact sh_imgs _ (by first | assumption | omega)) (by decide) rfl (by decide) (Nat.le_of_ble_eq_true rfl) (c_X7_passWord (i := 14) (by decide) hR hT (fun w0 => ?_) (fun w0 J M r1 r2 => ?_))
  · refine v_if_eq (tgt := 18) dX7_needKind_7 (by decide) (fun _ => ?_) (fun h => absurd rfl h)
    refine v_aload_0 dX7_needKind_18 ?_
    refine v_ldcS (i := 9) dX7_needKind_19 (by decide) rfl rfl ?_
    refine u_callV_1 dX7_needKind_21 ml_X7_115 mv_X7_passWord (by first | assumption | rfl | exact led_1 (by assumption) | exact led_2 (by assumption) | exact bk_m (by assumption) (by first | assumption | omega) | exact bk_p (by assumption) (by first | assumption | omega) | exact bk_o (by assumption) (by first | assumption | omega) | exact bk_s (by assumption) (by first | assumption | omega) | exact bk_1 (by assumption) | exact bk_2 (by assumption) | exact bk_3 (by assumption) | exact bk_4 (by assumption) | exact bk_5 (by assumption) | exact bk_6 (by assumption) | exact bk_7 (by assumption) | exact bk_8 (by assumption) | exact sh_ring _ (by first | assumption | omega) | exact sh_imgs _ (by first | assumption | omega)) (by decide) rfl (by decide) (Nat.le_of_ble_eq_true rfl) (c_X7_passWord (i := 9) (by decide) hR hT (fun w1 => ?_) (fun w1 J M r1 r2 => ?_))
    · refine v_if_eq (tgt := 35) dX7_needKind_24 (by decide) (fun _ => ?_) (fun h => absurd rfl h)
      refine v_aload_0 dX7_needKind_35 ?_
      refine v_ldcSw (i := 15) dX7_needKind_36 (by decide) rfl rfl ?_
      refine u_callV_1 dX7_needKind_39 ml_X7_115 mv_X7_passWord (by first | assumption | rfl | exact led_1 (by assumption) | exact led_2 (by assumption) | exact bk_m (by assumption) (by first | assumption | omega) | exact bk_p (by assumption) (by first | assumption | omega) | exact bk_o (by assumption) (by first | assumption | omega) | exact bk_s (by assumption) (by first | assumption | omega) | exact bk_1 (by assumption) | exact bk_2 (by assumption) | exact bk_3 (by assumption) | exact bk_4 (by assumption) | exact bk_5 (by assumption) | exact bk_6 (by assumption) | exact bk_7 (by assumption) | exact bk_8 (by assumption) | exact sh_ring _ (by first | assumption | omega) | exact sh_imgs _ (by first | assumption | omega)) (by decide) rfl (by decide) (Nat.le_of_ble_eq_true rfl) (c_X7_passWord (i := 15) (by decide) hR hT (fun w2 => ?_) (fun w2 J M r1 r2 => ?_))
      · refine v_if_eq (tgt := 53) dX7_needKind_42 (by decide) (fun _ => ?_) (fun h => absurd rfl h)
        refine v_aload_0 dX7_needKind_53 ?_
        refine v_ldcSw (i := 16) dX7_needKind_54 (by decide) rfl rfl ?_
        refine u_callV_1 dX7_needKind_57 ml_X7_115 mv_X7_passWord (by first | assumption | rfl | exact led_1 (by assumption) | exact led_2 (by assumption) | exact bk_m (by assumption) (by first | assumption | omega) | exact bk_p (by assumption) (by first | assumption | omega) | exact bk_o (by assumption) (by first | assumption | omega) | exact bk_s (by assumption) (by first | assumption | omega) | exact bk_1 (by assumption) | exact bk_2 (by assumption) | exact bk_3 (by assumption) | exact bk_4 (by assumption) | exact bk_5 (by assumption) | exact bk_6 (by assumption) | exact bk_7 (by assumption) | exact bk_8 (by assumption) | exact sh_ring _ (by first | assumption | omega) | exact sh_imgs _ (by first | assumption | omega)) (by decide) rfl (by decide) (Nat.le_of_ble_eq_true rfl) (c_X7_passWord (i := 16) (by decide) hR hT (fun w3 => ?_) (fun w3 J M r1 r2 => ?_))
        · refine v_if_eq (tgt := 71) dX7_needKind_60 (by decide) (fun _ => ?_) (fun h => absurd rfl h)
          refine v_aload_0 dX7_needKind_71 ?_
          refine v_ldcSw (i := 17) dX7_needKind_72 (by decide) rfl rfl ?_
          refine u_callV_1 dX7_needKind_75 ml_X7_115 mv_X7_passWord (by first | assumption | rfl | exact led_1 (by assumption) | exact led_2 (by assumption) | exact bk_m (by assumption) (by first | assumption | omega) | exact bk_p (by assumption) (by first | assumption | omega) | exact bk_o (by assumption) (by first | assumption | omega) | exact bk_s (by assumption) (by first | assumption | omega) | exact bk_1 (by assumption) | exact bk_2 (by assumption) | exact bk_3 (by assumption) | exact bk_4 (by assumption) | exact bk_5 (by assumption) | exact bk_6 (by assumption) | exact bk_7 (by assumption) | exact bk_8 (by assumption) | exact sh_ring _ (by first | assumption | omega) | exact sh_imgs _ (by first | assumption | omega)) (by decide) rfl (by decide) (Nat.le_of_ble_eq_true rfl) (c_X7_passWord (i := 17) (by decide) hR hT (fun w4 => ?_) (fun w4 J M r1 r2 => ?_))
          · refine v_if_eq (tgt := 89) dX7_needKind_78 (by decide) (fun _ => ?_) (fun h => absurd rfl h)
            refine v_aload_0 dX7_needKind_89 ?_
            refine v_iconst (v := nI 1) dX7_needKind_90 (by decide) ?_
            refine u_callV_1 dX7_needKind_91 ml_X7_102 mv_X7_failHere (by first | assumption | rfl | exact led_1 (by assumption) | exact led_2 (by assumption) | exact bk_m (by assumption) (by first | assumption | omega) | exact bk_p (by assumption) (by first | assumption | omega) | exact bk_o (by assumption) (by first | assumption | omega) | exact bk_s (by assumption) (by first | assumption | omega) | exact bk_1 (by assumption) | exact bk_2 (by assumption) | exact bk_3 (by assumption) | exact bk_4 (by assumption) | exact bk_5 (by assumption) | exact bk_6 (by assumption) | exact bk_7 (by assumption) | exact bk_8 (by assumption) | exact sh_ring _ (by first | assumption | omega) | exact sh_imgs _ (by first | assumption | omega)) (by decide) rfl (by decide) (Nat.le_of_ble_eq_true rfl) (c_X7_failHere hR hT (fun J p1 p2 p3 p4 => ?_))
            refine v_zret dX7_needKind_94 (by first | rfl | exact bI_n _) rfl rfl rfl rfl ?_
            exact hQ0 1 _ (by unfold qKind; rw [if_neg (by rw [w0]; decide), if_neg (by rw [w1]; decide), if_neg (by rw [w2]; decide), if_neg (by rw [w3]; decide), if_neg (by rw [w4]; decide)]) _ _ p1 p2 p3
          · refine v_if_eq (tgt := 89) dX7_needKind_78 (by decide) (fun hc78 => ?_) (fun hc78 => ?_)
            · exact absurd hc78 (by decide)
            · (first | rw [bI_0, Bool.not_eq_false] at hc78 | rw [bI_0] at hc78 | rw [show (0 : Int32) = nI 0 from rfl, nI_eq (by omega) (by omega)] at hc78 | skip)
              refine v_aload_0 dX7_needKind_81 ?_
              refine v_iconst (v := nI 4) dX7_needKind_82 (by decide) ?_
              refine u_putI dX7_needKind_83 gf_X7_154 (by first | assumption | rfl | exact led_1 (by assumption) | exact led_2 (by assumption) | exact bk_m (by assumption) (by first | assumption | omega) | exact bk_p (by assumption) (by first | assumption | omega) | exact bk_o (by assumption) (by first | assumption | omega) | exact bk_s (by assumption) (by first | assumption | omega) | exact bk_1 (by assumption) | exact bk_2 (by assumption) | exact bk_3 (by assumption) | exact bk_4 (by assumption) | exact bk_5 (by assumption) | exact bk_6 (by assumption) | exact bk_7 (by assumption) | exact bk_8 (by assumption) | exact sh_ring _ (by first | assumption | omega) | exact sh_imgs _ (by first | assumption | omega)) rfl rfl rfl ?_
              refine v_goto (tgt := 95) dX7_needKind_86 (by decide) ?_
              refine v_iconst (v := nI 1) dX7_needKind_95 (by decide) ?_
              refine v_zret dX7_needKind_96 (by first | rfl | exact bI_n _) rfl rfl rfl rfl ?_
              exact hQ1 _ _ (by unfold qKind; rw [if_neg (by rw [w0]; decide), if_neg (by rw [w1]; decide), if_neg (by rw [w2]; decide), if_neg (by rw [w3]; decide), if_pos w4]) rfl (by decide) _ _ r1.up (ui_s _ _ _ _) (r2.up9)
        · refine v_if_eq (tgt := 71) dX7_needKind_60 (by decide) (fun hc60 => ?_) (fun hc60 => ?_)
          · exact absurd hc60 (by decide)
          · (first | rw [bI_0, Bool.not_eq_false] at hc60 | rw [bI_0] at hc60 | rw [show (0 : Int32) = nI 0 from rfl, nI_eq (by omega) (by omega)] at hc60 | skip)
            refine v_aload_0 dX7_needKind_63 ?_
            refine v_iconst (v := nI 3) dX7_needKind_64 (by decide) ?_
            refine u_putI dX7_needKind_65 gf_X7_154 (by first | assumption | rfl | exact led_1 (by assumption) | exact led_2 (by assumption) | exact bk_m (by assumption) (by first | assumption | omega) | exact bk_p (by assumption) (by first | assumption | omega) | exact bk_o (by assumption) (by first | assumption | omega) | exact bk_s (by assumption) (by first | assumption | omega) | exact bk_1 (by assumption) | exact bk_2 (by assumption) | exact bk_3 (by assumption) | exact bk_4 (by assumption) | exact bk_5 (by assumption) | exact bk_6 (by assumption) | exact bk_7 (by assumption) | exact bk_8 (by assumption) | exact sh_ring _ (by first | assumption | omega) | exact sh_imgs _ (by first | assumption | omega)) rfl rfl rfl ?_
            refine v_goto (tgt := 95) dX7_needKind_68 (by decide) ?_
            refine v_iconst (v := nI 1) dX7_needKind_95 (by decide) ?_
            refine v_zret dX7_needKind_96 (by first | rfl | exact bI_n _) rfl rfl rfl rfl ?_
            exact hQ1 _ _ (by unfold qKind; rw [if_neg (by rw [w0]; decide), if_neg (by rw [w1]; decide), if_neg (by rw [w2]; decide), if_pos w3]) rfl (by decide) _ _ r1.up (ui_s _ _ _ _) (r2.up9)
      · refine v_if_eq (tgt := 53) dX7_needKind_42 (by decide) (fun hc42 => ?_) (fun hc42 => ?_)
        · exact absurd hc42 (by decide)
        · (first | rw [bI_0, Bool.not_eq_false] at hc42 | rw [bI_0] at hc42 | rw [show (0 : Int32) = nI 0 from rfl, nI_eq (by omega) (by omega)] at hc42 | skip)
          refine v_aload_0 dX7_needKind_45 ?_
          refine v_iconst (v := nI 2) dX7_needKind_46 (by decide) ?_
          refine u_putI dX7_needKind_47 gf_X7_154 (by first | assumption | rfl | exact led_1 (by assumption) | exact led_2 (by assumption) | exact bk_m (by assumption) (by first | assumption | omega) | exact bk_p (by assumption) (by first | assumption | omega) | exact bk_o (by assumption) (by first | assumption | omega) | exact bk_s (by assumption) (by first | assumption | omega) | exact bk_1 (by assumption) | exact bk_2 (by assumption) | exact bk_3 (by assumption) | exact bk_4 (by assumption) | exact bk_5 (by assumption) | exact bk_6 (by assumption) | exact bk_7 (by assumption) | exact bk_8 (by assumption) | exact sh_ring _ (by first | assumption | omega) | exact sh_imgs _ (by first | assumption | omega)) rfl rfl rfl ?_
          refine v_goto (tgt := 95) dX7_needKind_50 (by decide) ?_
          refine v_iconst (v := nI 1) dX7_needKind_95 (by decide) ?_
          refine v_zret dX7_needKind_96 (by first | rfl | exact bI_n _) rfl rfl rfl rfl ?_
          exact hQ1 _ _ (by unfold qKind; rw [if_neg (by rw [w0]; decide), if_neg (by rw [w1]; decide), if_pos w2]) rfl (by decide) _ _ r1.up (ui_s _ _ _ _) (r2.up9)
    · refine v_if_eq (tgt := 35) dX7_needKind_24 (by decide) (fun hc24 => ?_) (fun hc24 => ?_)
      · exact absurd hc24 (by decide)
      · (first | rw [bI_0, Bool.not_eq_false] at hc24 | rw [bI_0] at hc24 | rw [show (0 : Int32) = nI 0 from rfl, nI_eq (by omega) (by omega)] at hc24 | skip)
        refine v_aload_0 dX7_needKind_27 ?_
        refine v_iconst (v := nI 1) dX7_needKind_28 (by decide) ?_
        refine u_putI dX7_needKind_29 gf_X7_154 (by first | assumption | rfl | exact led_1 (by assumption) | exact led_2 (by assumption) | exact bk_m (by assumption) (by first | assumption | omega) | exact bk_p (by assumption) (by first | assumption | omega) | exact bk_o (by assumption) (by first | assumption | omega) | exact bk_s (by assumption) (by first | assumption | omega) | exact bk_1 (by assumption) | exact bk_2 (by assumption) | exact bk_3 (by assumption) | exact bk_4 (by assumption) | exact bk_5 (by assumption) | exact bk_6 (by assumption) | exact bk_7 (by assumption) | exact bk_8 (by assumption) | exact sh_ring _ (by first | assumption | omega) | exact sh_imgs _ (by first | assumption | omega)) rfl rfl rfl ?_
        refine v_goto (tgt := 95) dX7_needKind_32 (by decide) ?_
        refine v_iconst (v := nI 1) dX7_needKind_95 (by decide) ?_
        refine v_zret dX7_needKind_96 (by first | rfl | exact bI_n _) rfl rfl rfl rfl ?_
        exact hQ1 _ _ (by unfold qKind; rw [if_neg (by rw [w0]; decide), if_pos w1]) rfl (by decide) _ _ r1.up (ui_s _ _ _ _) (r2.up9)
  · refine v_if_eq (tgt := 18) dX7_needKind_7 (by decide) (fun hc7 => ?_) (fun hc7 => ?_)
    · exact absurd hc7 (by decide)
    · (first | rw [bI_0, Bool.not_eq_false] at hc7 | rw [bI_0] at hc7 | rw [show (0 : Int32) = nI 0 from rfl, nI_eq (by omega) (by omega)] at hc7 | skip)
      refine v_aload_0 dX7_needKind_10 ?_
      refine v_iconst (v := nI 0) dX7_needKind_11 (by decide) ?_
      refine u_putI dX7_needKind_12 gf_X7_154 (by first | assumption | rfl | exact led_1 (by assumption) | exact led_2 (by assumption) | exact bk_m (by assumption) (by first | assumption | omega) | exact bk_p (by assumption) (by first | assumption | omega) | exact bk_o (by assumption) (by first | assumption | omega) | exact bk_s (by assumption) (by first | assumption | omega) | exact bk_1 (by assumption) | exact bk_2 (by assumption) | exact bk_3 (by assumption) | exact bk_4 (by assumption) | exact bk_5 (by assumption) | exact bk_6 (by assumption) | exact bk_7 (by assumption) | exact bk_8 (by assumption) | exact sh_ring _ (by first | assumption | omega) | exact sh_imgs _ (by first | assumption | omega)) rfl rfl rfl ?_
      refine v_goto (tgt := 95) dX7_needKind_15 (by decide) ?_
      refine v_iconst (v := nI 1) dX7_needKind_95 (by decide) ?_
      refine v_zret dX7_needKind_96 (by first | rfl | exact bI_n _) rfl rfl rfl rfl ?_
      exact hQ1 _ _ (by unfold qKind; rw [if_pos w0]) rfl (by decide) _ _ r1.up (ui_s _ _ _ _) (r2.up9)
end
