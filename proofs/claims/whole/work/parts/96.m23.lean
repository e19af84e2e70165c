theorem wys_two {F : bkF} {s : LSt} {d m o p q : Nat} (hm : m < F 2) (ho : o < F 2) (hmo : m ≠ o) (hp : p < F 3) (hq : q < F 3) : posL F s m o p q d = if pgT F s d m = true then 0 else if (cdT F s d m).testBit p = true then alw F (pgT F s d) (upc (cdT F s d) m (2 ^ p)) o q else 0 := by
  unfold posL
  have eG : ∀ x, Gt F s d (tru F s d) (some (m, some p)) (some (o, some q)) x = (pgT F s d x && (!decide (x = m) && !decide (x = o))) := fun x => by
    show (pgT F s d x && ((!decide (x = m) || decide (none = some p)) && (!decide (x = o) || decide (none = some q)))) = _
    rw [show decide ((none : Option Nat) = some p) = false from rfl, show decide ((none : Option Nat) = some q) = false from rfl, Bool.or_false, Bool.or_false]
  have eC : ∀ x r, r < F 3 → (Ct F s d (tru F s d) (some (m, some p)) (some (o, some q)) x).testBit r = (!pgT F s d x && (cdT F s d x).testBit r && ((!decide (x = m) || decide (r = p)) && (!decide (x = o) || decide (r = q)))) := fun x r hr => by
    unfold Ct
    rw [bup_bit]
    show (Nat.testBit 0 r || (decide (0 ≤ r) && decide (r < 0 + F 3) && ((!pgT F s d x && (cdT F s d x).testBit r) && ((!decide (x = m) || decide (some r = some p)) && (!decide (x = o) || decide (some r = some q)))))) = _
    rw [show decide (some r = some p) = decide (r = p) from decide_eq_decide.mpr (by simp), show decide (some r = some q) = decide (r = q) from decide_eq_decide.mpr (by simp)]
    simp [hr]
  by_cases h1 : pgT F s d m = true
  · rw [if_pos h1]
    exact wys_0 (m := m) (by rw [eG]; simp) (fun r hr => by rw [eC m r hr, h1]; rfl) _ _ _ (Nat.zero_le _) (by omega)
  · rw [if_neg h1]
    have h1 : pgT F s d m = false := by cases h : pgT F s d m <;> simp_all
    by_cases h2 : (cdT F s d m).testBit p = true
    · rw [if_pos h2]
      unfold alw
      have eo : upc (cdT F s d) m (2 ^ p) o = cdT F s d o := by unfold upc; rw [if_neg (fun z => hmo z.symm)]
      by_cases h3 : pgT F s d o = true
      · rw [if_pos h3]
        exact wys_0 (m := o) (by rw [eG]; simp) (fun r hr => by rw [eC o r hr, h3]; rfl) _ _ _ (Nat.zero_le _) (by omega)
      · rw [if_neg h3, eo]
        have h3 : pgT F s d o = false := by cases h : pgT F s d o <;> simp_all
        by_cases h4 : (cdT F s d o).testBit q = true
        · rw [if_pos h4]
          refine wys_cg (fun x => ?_) (fun x hx r hr => ?_) _ _ _
          · rw [eG]
            by_cases e : x = m
            · rw [e, h1]; rfl
            · by_cases e2 : x = o
              · rw [e2, h3]; rfl
              · simp [e, e2]
          · rw [eC x r hr]
            unfold upc
            by_cases e2 : x = o
            · have e : ¬ x = m := fun z => hmo (z.symm.trans e2)
              rw [if_pos e2, e2, h3, Nat.testBit_two_pow, decide_eq_false (show ¬ o = m from fun z => hmo z.symm), decide_eq_true (rfl : o = o)]
              by_cases eq : r = q
              · rw [eq, h4]; simp
              · rw [decide_eq_false eq, decide_eq_false (show ¬ q = r from fun w => eq w.symm)]; simp
            · rw [if_neg e2]
              by_cases e : x = m
              · rw [if_pos e, e, h1, Nat.testBit_two_pow, decide_eq_false hmo, decide_eq_true (rfl : m = m)]
                by_cases eq : r = p
                · rw [eq, h2]; simp
                · rw [decide_eq_false eq, decide_eq_false (show ¬ p = r from fun w => eq w.symm)]; simp
              · rw [if_neg e]
                rw [eG, decide_eq_false e, decide_eq_false e2] at hx
                simp only [Bool.not_false, Bool.and_true] at hx
                rw [hx, decide_eq_false e, decide_eq_false e2]; simp
        · rw [if_neg h4]
          have h4 : (cdT F s d o).testBit q = false := by cases h : (cdT F s d o).testBit q <;> simp_all
          refine wys_0 (m := o) (by rw [eG]; simp) (fun r hr => ?_) _ _ _ (Nat.zero_le _) (by omega)
          rw [eC o r hr]
          by_cases eq : r = q
          · rw [eq, h4]; simp
          · simp [eq]
    · rw [if_neg h2]
      have h2 : (cdT F s d m).testBit p = false := by cases h : (cdT F s d m).testBit p <;> simp_all
      refine wys_0 (m := m) (by rw [eG]; simp) (fun r hr => ?_) _ _ _ (Nat.zero_le _) (by omega)
      rw [eC m r hr]
      by_cases eq : r = p
      · rw [eq, h2]; simp
      · simp [eq]
theorem kpp_pos {F : bkF} {s : LSt} {d m o p q : Nat} {pt : Nat → Nat} (hm : m < F 2) (ho : o < F 2) (hmo : m ≠ o) (hp : p < F 3) (hq : q < F 3) : (kpp F (pgT F s d) (cdT F s d) m o pt p).testBit q = ((pt p).testBit q && decide (0 < posL F s m o p q d)) := by
  rw [wys_two hm ho hmo hp hq]
  unfold kpp
  by_cases h1 : pgT F s d m = true
  · rw [if_pos h1, if_pos h1]; simp
  · rw [if_neg h1, if_neg h1]
    by_cases h2 : (cdT F s d m).testBit p = true
    · rw [if_pos h2, if_pos h2, Nat.testBit_and]
      unfold pin
      rw [bup_bit]; simp [hq]
    · rw [if_neg h2, if_neg h2]; simp
theorem stpd_pos {F : bkF} {s : LSt} {d m o p q : Nat} {pt : Nat → Nat} (hO : FOK F) (hK : LOK F s) (hm : m < F 2) (ho : o < F 2) (hmo : m ≠ o) (hp : p < F 3) (hq : q < F 3) : (stpd F s.1 s.2.1 m o d pt p).testBit q = ((pt p).testBit q && decide (0 < posL F s m o p q d)) := by
  obtain ⟨z, hz, -, -⟩ := fls_some hO hK d
  have e : tru F s d = andn (ofd F d) z := by unfold tru; rw [hz]; rfl
  unfold stpd
  rw [hz]
  rw [← kpp_pos hm ho hmo hp hq]
  unfold pgT cdT
  rw [e]
