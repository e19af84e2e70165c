/-! the law's start: strings, statics, classes -/
def flatF : List Cond := flatC (Jvm.Cond.and given_1 narrow_1)
def stm (i : Nat) : Term := .string (strs.getD i ("", 0, "")).1 (strs.getD i ("", 0, "")).2.1
def swd (i : Nat) : List Cond := [.exactly (stm i) "java/lang/String", .eq (.field (stm i) "java/lang/String" "coder" "B") (.int 0), .arrayOf (.field (stm i) "java/lang/String" "value" "[B") .byte, .eq (.length (.field (stm i) "java/lang/String" "value" "[B")) (.int (Int32.ofNat (stb (strs.getD i ("", 0, "")).2.2).length))] ++ (List.range (stb (strs.getD i ("", 0, "")).2.2).length).map (fun j => .eq (.elem (.field (stm i) "java/lang/String" "value" "[B") (.int (Int32.ofNat j))) (.int ((stb (strs.getD i ("", 0, "")).2.2).getD j 0)))
def sbase : List Nat := [99, 107, 115, 123, 133, 144, 152, 160, 170, 179, 188, 197, 205, 213, 221, 230, 241, 251, 259, 269, 279, 285, 294, 302, 312, 318, 326, 335, 343, 352, 361, 370, 379, 390, 402, 411, 420, 431, 441, 451, 461, 470, 479, 489, 501, 512, 521, 532, 543, 550, 560, 569, 580, 587, 596, 606]
theorem sw_ok : ∀ i, i < 56 → (flatF.drop (sbase.getD i 0)).take (swd i).length = swd i := by decide +kernel
def sri : List Nat := [422, 478, 479, 480, 481, 482, 483, 484, 485, 486, 487, 488, 489, 718, 755, 756, 757, 758, 759, 764, 785, 786, 787, 788, 793, 798, 799, 855, 1560, 1579, 1596, 1609, 1610, 1611, 1612, 1613, 1614, 1615, 1616, 1617, 1618, 1619, 1636, 1637, 1638, 1639, 1640, 1645, 1665, 1670, 1671, 1672, 1677, 1678, 1679, 1702]
theorem sr_ok : ∀ i, i < 56 → lw_tbl[sri.getD i 0]? = some (.stringRef (strs.getD i ("", 0, "")).1 (strs.getD i ("", 0, "")).2.1 (strs.getD i ("", 0, "")).2.2) := by decide +kernel
section
variable {s : State} {args : Array Value}
theorem st_str (hts : ∀ w ∈ lw_tbl, w.before args s = true) (hgv : (Jvm.Cond.and given_1 narrow_1).before args s = true) : ∃ ad : Nat → Nat, (∀ i, i < 56 → vk_R (strs.getD i ("", 0, "")).1 (strs.getD i ("", 0, "")).2.1 (strs.getD i ("", 0, "")).2.2 (ad i) s) ∧
  (∀ i, i < 56 → va_O "java/lang/String" (ad i) (fun q => s.heap.size ≤ q) s s.heap ∧ va_OF "java/lang/String" "coder" "B" (.int 0) (ad i) (fun q => s.heap.size ≤ q) s s.heap ∧ va_OF "java/lang/String" "value" "[B" (.ref (ad (56 + i))) (ad i) (fun q => s.heap.size ≤ q) s s.heap ∧ va_T .byte (ad (56 + i)) (stb (strs.getD i ("", 0, "")).2.2).length (fun j => .int ((stb (strs.getD i ("", 0, "")).2.2).getD j 0)) (fun q => s.heap.size ≤ q) s s.heap) := by
  have hA : ∀ a : Nat, a < s.heap.size → ¬ s.heap.size ≤ a := fun a ha => by omega
  have hfl := flat_of_before _ hgv
  have hw : ∀ i, i < 56 → ∀ w ∈ swd i, w.before args s = true := fun i hi w hm => hfl w (by
    rw [← sw_ok i hi] at hm
    exact List.mem_of_mem_drop (List.mem_of_mem_take hm))
  have h0 : ∀ i : Nat, ∃ q : Nat × Nat, i < 56 → (stm i).eval args s none [] s = some (.ref q.1) ∧ va_O "java/lang/String" q.1 (fun q => s.heap.size ≤ q) s s.heap ∧ va_OF "java/lang/String" "coder" "B" (.int 0) q.1 (fun q => s.heap.size ≤ q) s s.heap ∧ va_OF "java/lang/String" "value" "[B" (.ref q.2) q.1 (fun q => s.heap.size ≤ q) s s.heap ∧ va_T .byte q.2 (stb (strs.getD i ("", 0, "")).2.2).length (fun j => .int ((stb (strs.getD i ("", 0, "")).2.2).getD j 0)) (fun q => s.heap.size ≤ q) s s.heap := by
    intro i
    by_cases hi : i < 56
    · have hl9 : ∀ i, i < 56 → (stb (strs.getD i ("", 0, "")).2.2).length < 2 ^ 31 := by decide +kernel
      obtain ⟨a, c, cA, kA, q1, q2, q3, q4, q5, q6, -⟩ := Cond.exactly_spec (args := args) (first := s) (o := none) (s := s) (idx := []) (t := stm i) (cls := "java/lang/String") (hw i hi _ (by simp [swd]))
      obtain ⟨t, ht, hT⟩ := va_Tof (f := fun j => .int ((stb (strs.getD i ("", 0, "")).2.2).getD j 0)) (A := fun q => s.heap.size ≤ q) (hl9 i hi) (hw i hi (.arrayOf (.field (stm i) "java/lang/String" "value" "[B") .byte) (by simp [swd])) (va_eqt (hw i hi (.eq (.length (.field (stm i) "java/lang/String" "value" "[B")) (.int (Int32.ofNat (stb (strs.getD i ("", 0, "")).2.2).length))) (by simp [swd]))) (fun j hj => va_eqt (hw i hi (.eq (.elem (.field (stm i) "java/lang/String" "value" "[B") (.int (Int32.ofNat j))) (.int ((stb (strs.getD i ("", 0, "")).2.2).getD j 0))) (List.mem_append_right _ (List.mem_map.mpr ⟨j, List.mem_range.mpr hj, rfl⟩)))) hA
      exact ⟨(a, t), fun _ => ⟨q1, ⟨cA, q3, q5, by rw [q6]; exact q2, hA a (Array.getElem?_eq_some_iff.mp q3).1⟩, vk_OFof q1 (va_eqt (hw i hi (.eq (.field (stm i) "java/lang/String" "coder" "B") (.int 0)) (by simp [swd]))) hA, vk_OFof q1 ht hA, hT⟩⟩
    · exact ⟨(0, 0), fun h => absurd h hi⟩
  obtain ⟨ad, had⟩ := Classical.axiomOfChoice h0
  refine ⟨fun i => if i < 56 then (ad i).1 else (ad (i - 56)).2, fun i hi => ?_, fun i hi => ?_⟩
  · simp only [hi, if_true]
    exact vk_R.of (hts _ (List.mem_of_getElem? (sr_ok i hi))) (had i hi).1
  · simp only [hi, if_true, show ¬ 56 + i < 56 by omega, if_false, show 56 + i - 56 = i by omega]
    exact (had i hi).2
theorem st_X (hts : ∀ w ∈ lw_tbl, w.before args s = true) (hgv : (Jvm.Cond.and given_1 narrow_1).before args s = true) : ∃ ad : Nat → Nat, SX s.heap.size ad s s.heap := by
  obtain ⟨ad, h1, h2⟩ := st_str hts hgv
  have hA : ∀ a : Nat, a < s.heap.size → ¬ s.heap.size ≤ a := fun a ha => by omega
  have hfl := flat_of_before _ hgv
  refine ⟨ad, h1, h2, va_Zof (hts _ (List.mem_of_getElem? (i := 439) (by decide +kernel))) (hts _ (List.mem_of_getElem? (i := 120) (by decide +kernel))) (va_eqt (hfl (.eq (.static "java/lang/String" "COMPACT_STRINGS" "Z") (.int 1)) (List.mem_of_getElem? (i := 4) (by decide +kernel)))) hA, va_Zqof (hts _ (List.mem_of_getElem? (i := 455) (by decide +kernel))) (hts _ (List.mem_of_getElem? (i := 122) (by decide +kernel))) (hfl _ (List.mem_of_getElem? (i := 5) (by decide +kernel))) hA, vx_Zqof (hts _ (List.mem_of_getElem? (i := 1379) (by decide +kernel))) (hts _ (List.mem_of_getElem? (i := 132) (by decide +kernel))) (hfl _ (List.mem_of_getElem? (i := 9) (by decide +kernel))) hA, vx_Zqof (hts _ (List.mem_of_getElem? (i := 1381) (by decide +kernel))) (hts _ (List.mem_of_getElem? (i := 132) (by decide +kernel))) (hfl _ (List.mem_of_getElem? (i := 10) (by decide +kernel))) hA, fun q hq => ?_⟩
  have hn : ∀ q ∈ nests, Cond.methodLinkNest q.1 q.2.1 q.2.2 "LentMasks" ∈ lw_tbl := by decide +kernel
  exact va_Nw.of rfl (hts _ (hn q hq))
theorem st_arr (hts : ∀ w ∈ lw_tbl, w.before args s = true) : ∀ t, t < 9 → ∃ cA : ClassId, ArrOfT s cA (atys.getD t .int) ∧ va_RA s cA (atys.getD t .int) := by
  have pr : ∀ ty, (Cond.arrayClass ty).before args s = true → (∀ cA, s.vm.findClass ("[" ++ ty.toString) = some cA → va_RA s cA ty) → ∃ cA : ClassId, ArrOfT s cA ty ∧ va_RA s cA ty := fun ty h g => by
    obtain ⟨c, k, comp, h1, h2, h3⟩ := Cond.arrayClass_spec h
    exact ⟨c, fun n z => ⟨fun k h => (by cases h), k, h2, comp, h3⟩, g c h1⟩
  have ob : ∀ C : String, (Cond.arrayOver (.object C)).before args s = true → ∃ cA : ClassId, ArrOfT s cA (.object C) ∧ va_RA s cA (.object C) := fun C h => by
    obtain ⟨comp, c, k, h1, h2, h3, h4, h5⟩ := Cond.arrayOver_spec h
    exact ⟨c, fun n z => ⟨fun k h => (by cases h), k, h3, comp, h4⟩, k, comp, h3, h4, h1, h5⟩
  intro t ht
  have : t = 0 ∨ t = 1 ∨ t = 2 ∨ t = 3 ∨ t = 4 ∨ t = 5 ∨ t = 6 ∨ t = 7 ∨ t = 8 := by omega
  rcases this with rfl | rfl | rfl | rfl | rfl | rfl | rfl | rfl | rfl
  · exact pr .int (hts _ (List.mem_of_getElem? (i := 177) (by decide +kernel))) (fun _ h => h)
  · exact pr .long (hts _ (List.mem_of_getElem? (i := 523) (by decide +kernel))) (fun _ h => h)
  · exact pr .byte (hts _ (List.mem_of_getElem? (i := 176) (by decide +kernel))) (fun _ h => h)
  · exact pr .boolean (hts _ (List.mem_of_getElem? (i := 613) (by decide +kernel))) (fun _ h => h)
  · exact ob RX3 (hts _ (List.mem_of_getElem? (i := 151) (by decide +kernel)))
  · exact ob RX4 (hts _ (List.mem_of_getElem? (i := 153) (by decide +kernel)))
  · exact ob RX6 (hts _ (List.mem_of_getElem? (i := 155) (by decide +kernel)))
  · exact ob RX8 (hts _ (List.mem_of_getElem? (i := 157) (by decide +kernel)))
  · exact ob RX2 (hts _ (List.mem_of_getElem? (i := 531) (by decide +kernel)))
def insI : List Nat := [145, 525, 159, 178, 199, 557, 232, 381, 266, 387, 579, 137, 1414]
theorem ins_ok : ∀ c, c < 13 → lw_tbl[insI.getD c 0]? = some (.instantiable (xq c).1 (nfl c)) := by decide +kernel
theorem st_K (hts : ∀ w ∈ lw_tbl, w.before args s = true) : ∃ (D : va_G) (dA : Nat → ClassId), va_K D xcl (tysl dA) s := by
  have hU : ∀ w ∈ UU, w.before args s = true := fun w hw => hts w (List.mem_filter.mp hw).1
  have h0 : ∀ c : Nat, ∃ q : ClassId × (Nat → Nat), c < 13 → u_Kn s (xq c).1 (xq c).2.1 (xq c).2.2 q.1 q.2 := fun c => by
    by_cases hc : c < 13
    · obtain ⟨g1, g2, g3, -, -⟩ := clf c hc
      obtain ⟨cC, iS, h⟩ := u_known hU g3 (hts _ (List.mem_of_getElem? (ins_ok c hc)))
      exact ⟨(cC, iS), fun _ => h⟩
    · exact ⟨((0 : Nat), fun _ => 0), fun h => absurd h hc⟩
  obtain ⟨d, hd⟩ := Classical.axiomOfChoice h0
  have h1 : ∀ t : Nat, ∃ cA : ClassId, t < 9 → ArrOfT s cA (atys.getD t .int) ∧ va_RA s cA (atys.getD t .int) := fun t => by
    by_cases ht : t < 9
    · obtain ⟨cA, h⟩ := st_arr hts t ht
      exact ⟨cA, fun _ => h⟩
    · exact ⟨(0 : Nat), fun h => absurd h ht⟩
  obtain ⟨dA, hA⟩ := Classical.axiomOfChoice h1
  refine ⟨(fun c => (d c).1, fun c => (d c).2), dA, fun c q hq => ?_, fun k q hq => ?_⟩
  · have hc : c < 13 := (List.getElem?_eq_some_iff.mp hq).1
    obtain ⟨g1, -, -, -, -⟩ := clf c hc
    rw [g1] at hq; cases hq
    exact hd c hc
  · have hk : k < 9 := by have := (List.getElem?_eq_some_iff.mp hq).1; simpa [tysl] using this
    rw [tysl_at hk rfl] at hq; cases hq
    exact hA k hk
theorem st_N (hts : ∀ w ∈ lw_tbl, w.before args s = true) : NX s ∧ NA s := by
  refine ⟨fun w hw => ?_, fun c hc => ?_⟩
  · have : ∀ w ∈ nxw, w ∈ lw_tbl := by
      intro w hw
      simp only [nxw, List.mem_cons, List.not_mem_nil, or_false] at hw
      rcases hw with rfl | rfl | rfl | rfl
      · exact List.mem_of_getElem? (i := 1354) (by decide +kernel)
      · exact List.mem_of_getElem? (i := 1355) (by decide +kernel)
      · exact List.mem_of_getElem? (i := 1357) (by decide +kernel)
      · exact List.mem_of_getElem? (i := 1359) (by decide +kernel)
    exact va_Nw.of (nxw_on w hw) (hts w (this w hw))
  · rcases hc with rfl | rfl | rfl | rfl | rfl
    · exact va_AO.of (hts _ (List.mem_of_getElem? (i := 531) (by decide +kernel)))
    · exact va_AO.of (hts _ (List.mem_of_getElem? (i := 151) (by decide +kernel)))
    · exact va_AO.of (hts _ (List.mem_of_getElem? (i := 153) (by decide +kernel)))
    · exact va_AO.of (hts _ (List.mem_of_getElem? (i := 155) (by decide +kernel)))
    · exact va_AO.of (hts _ (List.mem_of_getElem? (i := 157) (by decide +kernel)))
end
