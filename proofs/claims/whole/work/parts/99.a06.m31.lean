def oq (q : Nat) : Option Nat := if q = 0 then none else some (q - 1)
/-- the worths laid down ahead of the k-th of mask m -/
def PwP (J : HI) (F : bkF) (d m k : Nat) : Prop := ∀ m', m' < F 2 → ∀ q, q ≤ F 3 → (m' < m ∨ m' = m ∧ q < k) → J 169 (7 * m' + q) = zI (balz F m' (oq q) d)
/-- the best laid down from (m, s) on: masks behind m, and of m those ahead of s -/
def PbR (J : HI) (F : bkF) (d : Nat) (x : Option Nat) (m s : Nat) : Prop := ∀ m', m' ≤ F 2 → ∀ q, q < 64 → (m < m' ∨ m' = m ∧ q < s) → J 168 (64 * m' + q) = zI (bzr F d x (F 2 - m') q)
theorem PwP.step {J : HI} {F : bkF} {d m k : Nat} (h : PwP J F d m k) (h3 : F 3 ≤ 6) (hk : k ≤ F 3) : PwP (ui J 169 (7 * m + k) (zI (balz F m (oq k) d))) F d m (k + 1) := fun m' hm q hq hh => by
  by_cases e : 7 * m' + q = 7 * m + k
  · have e1 : m' = m := by omega
    have e2 : q = k := by omega
    subst e1 e2
    exact ui_s _ _ _ _
  · rw [ui_o e]
    exact h m' hm q hq (by omega)
theorem PwP.next {J : HI} {F : bkF} {d m : Nat} (h : PwP J F d m (F 3 + 1)) : PwP J F d (m + 1) 0 := fun m' hm q hq hh => h m' hm q hq (by omega)
theorem PwP.fr {I J : HI} {F : bkF} {d m k : Nat} (h : PwP I F d m k) (e : J 169 = I 169) : PwP J F d m k := fun m' hm q hq hh => by rw [e]; exact h m' hm q hq hh
theorem PbR.step {J : HI} {F : bkF} {d m s : Nat} {x : Option Nat} (h : PbR J F d x m s) (hs : s < 64) : PbR (ui J 168 (64 * m + s) (zI (bzr F d x (F 2 - m) s))) F d x m (s + 1) := fun m' hm q hq hh => by
  by_cases e : 64 * m' + q = 64 * m + s
  · have e1 : m' = m := by omega
    have e2 : q = s := by omega
    subst e1 e2
    exact ui_s _ _ _ _
  · rw [ui_o e]
    exact h m' hm q hq (by omega)
theorem PbR.next {J : HI} {F : bkF} {d m : Nat} {x : Option Nat} (h : PbR J F d x (m + 1) 64) : PbR J F d x m 0 := fun m' hm q hq hh => h m' hm q hq (by omega)
theorem nI_nlem1 {n : Nat} (h : n < 2 ^ 30) : ¬ nI n ≤ (-1 : Int32) := fun q => by
  rw [Int32.le_iff_toInt_le, show (nI n).toInt = (n : Int) from Int32.toInt_ofNat_of_lt (by omega)] at q
  have e : (-1 : Int32).toInt = -1 := by decide
  omega
theorem eO_i {p : Nat} {x : Option Nat} (hp : p < 2 ^ 30) (hx : ∀ y, x = some y → y < 2 ^ 30) : nI p = eO x ↔ some p = x := by
  cases x with
  | none => exact ⟨fun q => absurd q (nIm1 hp), fun q => by cases q⟩
  | some y =>
    have := hx y rfl
    show nI p = nI y ↔ _
    rw [nI_eq (by omega) (by omega)]
    exact ⟨fun e => by rw [e], fun e => by cases e; rfl⟩
theorem zI_m1 (k : Nat) : zI (((k + 1 : Nat) : Int) - 1) = nI k := by rw [zI_nat]; congr 1; omega
theorem nI_dn (k : Nat) : nI k + -1 = zI ((k : Int) - 1) := by rw [zI_nat, show (-1 : Int32) = zI (-1) from rfl, zI_add]; rfl
theorem nI_dn2 (k : Nat) : nI k - nI 1 = zI ((k : Int) - 1) := by rw [zI_nat, zI_nat, zI_sub]; rfl
section
variable {b : Nat} {ad : Nat → Nat} {I J : HI} {L M : HL} {R : HR} {Q : QT} {F : bkF} {s : LSt} {a o : Nat}
theorem l_lpA {d : Nat} {x : Option Nat} (hR : RO R) (hr : RfI I F s) (hd : d < 2 ^ 30) (hx : ∀ y, x = some y → y < 2 ^ 30) (next : ∀ (J : HI) (x5 : Option Value), (∀ c, c ≠ 168 → c ≠ 169 → J c = I c) → PwP J F d (F 2) 0 → VV yX12_layPlan cX12_layPlan 9 (some .int) 3 Q b ad 76 [some (.ref (b + 157)), some (.int (nI d)), some (.int (eO x)), some (.int (nI (F 2))), some (.int (nI (F 2))), x5, none, none, none] [] J L R) : ∀ (j m : Nat) (J : HI) (x5 : Option Value), m + j = F 2 → (∀ c, c ≠ 168 → c ≠ 169 → J c = I c) → PwP J F d m 0 → VV yX12_layPlan cX12_layPlan 9 (some .int) 3 Q b ad 10 [some (.ref (b + 157)), some (.int (nI d)), some (.int (eO x)), some (.int (nI (F 2))), some (.int (nI m)), x5, none, none, none] [] J L R := by
  have hO := hr.1.2.2.1
  have o2 := hO.2.2.1
  have o3 := hO.2.2.2.1
  have o5 := hO.2.2.2.2.2.1
  have o0 := hO.1
  have hF := hr.1.1.2
  have hS := hr.2.1
  have hK := hr.2.2
  intro j
  induction j with
  | zero =>
    intro m J x5 hm jx hw
    have e : m = F 2 := by omega
    subst e
    refine v_iload_4 dX12_layPlan_10 ?_
    refine v_iload_3 dX12_layPlan_12 ?_
    refine v_icmp_ge (tgt := 76) dX12_layPlan_13 (by decide) (fun hc13 => ?_) (fun hc13 => ?_)
    · (try rw [nI_leI (by omega) (by omega)] at hc13)
      exact next J x5 jx hw
    · exact absurd (nI_le (by omega) (by omega)) hc13
  | succ j ih =>
    intro m J x5 hmj jx hw
    have hm : m < F 2 := by omega
    have inner : ∀ (i p : Nat) (J : HI), p + i = F 3 → (∀ c, c ≠ 168 → c ≠ 169 → J c = I c) → PwP J F d m (p + 1) → VV yX12_layPlan cX12_layPlan 9 (some .int) 3 Q b ad 19 [some (.ref (b + 157)), some (.int (nI d)), some (.int (eO x)), some (.int (nI (F 2))), some (.int (nI m)), some (.int (nI p)), none, none, none] [] J L R := by
      intro i
      induction i with
      | zero =>
        intro p J hp jx hw
        have hrj : RfI J F s := hr.fr (jx 160 (by decide) (by decide)) (by rw [jx 157 (by decide) (by decide)]) (jx 162 (by decide) (by decide))
        have hF := hrj.1.1.2
        have e : p = F 3 := by omega
        subst e
        refine v_iload_5 dX12_layPlan_19 ?_
        refine v_aload_0 dX12_layPlan_21 ?_
        refine u_getR dX12_layPlan_22 gf_X12_20 (by first | assumption | rfl | exact led_1 (by assumption) | exact led_2 (by assumption) | exact bk_m (by assumption) (by first | assumption | omega) | exact bk_p (by assumption) (by first | assumption | omega) | exact bk_o (by assumption) (by first | assumption | omega) | exact bk_s (by assumption) (by first | assumption | omega) | exact bk_1 (by assumption) | exact bk_2 (by assumption) | exact bk_3 (by assumption) | exact bk_4 (by assumption) | exact bk_5 (by assumption) | exact bk_6 (by assumption) | exact bk_7 (by assumption) | exact bk_8 (by assumption) | exact sh_ring _ (by first | assumption | omega) | exact sh_imgs _ (by first | assumption | omega)) (ro_X12_15 (by assumption)) ?_
        refine v_iconst (v := nI 3) dX12_layPlan_25 (by decide) ?_
        refine u_iald dX12_layPlan_26 (by first | assumption | rfl | exact led_1 (by assumption) | exact led_2 (by assumption) | exact bk_m (by assumption) (by first | assumption | omega) | exact bk_p (by assumption) (by first | assumption | omega) | exact bk_o (by assumption) (by first | assumption | omega) | exact bk_s (by assumption) (by first | assumption | omega) | exact bk_1 (by assumption) | exact bk_2 (by assumption) | exact bk_3 (by assumption) | exact bk_4 (by assumption) | exact bk_5 (by assumption) | exact bk_6 (by assumption) | exact bk_7 (by assumption) | exact bk_8 (by assumption) | exact sh_ring _ (by first | assumption | omega) | exact sh_imgs _ (by first | assumption | omega)) (by first | with_reducible rfl | (simp only [nlit, nI_add, pk_mul]; with_reducible rfl) | rfl) (by first | assumption | omega) (by first | assumption | decide) ?_
        rw [hF 3 (by decide)]
        refine v_icmp_ge (tgt := 70) dX12_layPlan_27 (by decide) (fun hc27 => ?_) (fun hc27 => ?_)
        · (try rw [nI_leI (by omega) (by omega)] at hc27)
          refine v_iinc_4 (v := 1) rfl dX12_layPlan_70 (by decide) ?_
          rw [show nI m + 1 = nI (m + 1) from nI_1 m]
          refine v_goto (tgt := 10) dX12_layPlan_73 (by decide) ?_
          exact ih (m + 1) J _ (by omega) jx hw.next
        · exact absurd (nI_le (by omega) (by omega)) hc27
      | succ i ih2 =>
        intro p J hp jx hw
        have hrj : RfI J F s := hr.fr (jx 160 (by decide) (by decide)) (by rw [jx 157 (by decide) (by decide)]) (jx 162 (by decide) (by decide))
        have hF := hrj.1.1.2
        refine v_iload_5 dX12_layPlan_19 ?_
        refine v_aload_0 dX12_layPlan_21 ?_
        refine u_getR dX12_layPlan_22 gf_X12_20 (by first | assumption | rfl | exact led_1 (by assumption) | exact led_2 (by assumption) | exact bk_m (by assumption) (by first | assumption | omega) | exact bk_p (by assumption) (by first | assumption | omega) | exact bk_o (by assumption) (by first | assumption | omega) | exact bk_s (by assumption) (by first | assumption | omega) | exact bk_1 (by assumption) | exact bk_2 (by assumption) | exact bk_3 (by assumption) | exact bk_4 (by assumption) | exact bk_5 (by assumption) | exact bk_6 (by assumption) | exact bk_7 (by assumption) | exact bk_8 (by assumption) | exact sh_ring _ (by first | assumption | omega) | exact sh_imgs _ (by first | assumption | omega)) (ro_X12_15 (by assumption)) ?_
        refine v_iconst (v := nI 3) dX12_layPlan_25 (by decide) ?_
        refine u_iald dX12_layPlan_26 (by first | assumption | rfl | exact led_1 (by assumption) | exact led_2 (by assumption) | exact bk_m (by assumption) (by first | assumption | omega) | exact bk_p (by assumption) (by first | assumption | omega) | exact bk_o (by assumption) (by first | assumption | omega) | exact bk_s (by assumption) (by first | assumption | omega) | exact bk_1 (by assumption) | exact bk_2 (by assumption) | exact bk_3 (by assumption) | exact bk_4 (by assumption) | exact bk_5 (by assumption) | exact bk_6 (by assumption) | exact bk_7 (by assumption) | exact bk_8 (by assumption) | exact sh_ring _ (by first | assumption | omega) | exact sh_imgs _ (by first | assumption | omega)) (by first | with_reducible rfl | (simp only [nlit, nI_add, pk_mul]; with_reducible rfl) | rfl) (by first | assumption | omega) (by first | assumption | decide) ?_
        rw [hF 3 (by decide)]
        refine v_icmp_ge (tgt := 70) dX12_layPlan_27 (by decide) (fun hc27 => ?_) (fun hc27 => ?_)
        · exact absurd hc27 (nI_ge (by omega) (by omega))
        · (try rw [nI_leI (by omega) (by omega)] at hc27)
          refine v_aload_0 dX12_layPlan_30 ?_
          refine u_getR dX12_layPlan_31 gf_X12_47 (by first | assumption | rfl | exact led_1 (by assumption) | exact led_2 (by assumption) | exact bk_m (by assumption) (by first | assumption | omega) | exact bk_p (by assumption) (by first | assumption | omega) | exact bk_o (by assumption) (by first | assumption | omega) | exact bk_s (by assumption) (by first | assumption | omega) | exact bk_1 (by assumption) | exact bk_2 (by assumption) | exact bk_3 (by assumption) | exact bk_4 (by assumption) | exact bk_5 (by assumption) | exact bk_6 (by assumption) | exact bk_7 (by assumption) | exact bk_8 (by assumption) | exact sh_ring _ (by first | assumption | omega) | exact sh_imgs _ (by first | assumption | omega)) (ro_X12_27 (by assumption)) ?_
          refine v_bipush (v := nI 7) dX12_layPlan_34 (by decide) ?_
          refine v_iload_4 dX12_layPlan_36 ?_
          refine v_imul dX12_layPlan_38 ?_
          refine v_iload_5 dX12_layPlan_39 ?_
          refine v_iadd dX12_layPlan_41 ?_
          refine v_iconst (v := nI 1) dX12_layPlan_42 (by decide) ?_
          refine v_iadd dX12_layPlan_43 ?_
          rw [show nI 7 * nI m + nI p + nI 1 = nI (7 * m + (p + 1)) by simp only [nI_add, pk_mul, Nat.add_assoc]]
          refine v_aload_0 dX12_layPlan_44 ?_
          refine v_iload_4 dX12_layPlan_45 ?_
          refine v_iload_1 dX12_layPlan_47 ?_
          refine v_iload_5 dX12_layPlan_48 ?_
          refine v_if_ge (tgt := 58) dX12_layPlan_50 (by decide) (fun hc50 => ?_) (fun hc50 => ?_)
          · (first | rw [show (0 : Int32) = nI 0 from rfl, nI_ltI (by omega) (by omega)] at hc50 | rw [show (0 : Int32) = nI 0 from rfl, nI_leI (by omega) (by omega)] at hc50 | skip)
            refine v_iload_5 dX12_layPlan_58 ?_
            refine u_callV_3 dX12_layPlan_60 ml_X12_346 mv_X12_worthBy (by first | assumption | rfl | exact led_1 (by assumption) | exact led_2 (by assumption) | exact bk_m (by assumption) (by first | assumption | omega) | exact bk_p (by assumption) (by first | assumption | omega) | exact bk_o (by assumption) (by first | assumption | omega) | exact bk_s (by assumption) (by first | assumption | omega) | exact bk_1 (by assumption) | exact bk_2 (by assumption) | exact bk_3 (by assumption) | exact bk_4 (by assumption) | exact bk_5 (by assumption) | exact bk_6 (by assumption) | exact bk_7 (by assumption) | exact bk_8 (by assumption) | exact sh_ring _ (by first | assumption | omega) | exact sh_imgs _ (by first | assumption | omega)) (by decide) rfl (by decide) (Nat.le_of_ble_eq_true rfl) (c_X12_worthBy (op := some p) (m := m) (d := d) hR hrj (fun z e => by cases e; omega) (by omega) hd ?_)
            refine u_iast dX12_layPlan_63 (by first | assumption | rfl | exact led_1 (by assumption) | exact led_2 (by assumption) | exact bk_m (by assumption) (by first | assumption | omega) | exact bk_p (by assumption) (by first | assumption | omega) | exact bk_o (by assumption) (by first | assumption | omega) | exact bk_s (by assumption) (by first | assumption | omega) | exact bk_1 (by assumption) | exact bk_2 (by assumption) | exact bk_3 (by assumption) | exact bk_4 (by assumption) | exact bk_5 (by assumption) | exact bk_6 (by assumption) | exact bk_7 (by assumption) | exact bk_8 (by assumption) | exact sh_ring _ (by first | assumption | omega) | exact sh_imgs _ (by first | assumption | omega)) (by first | with_reducible rfl | (simp only [nlit, nI_add, pk_mul]; with_reducible rfl) | rfl) (by first | assumption | omega) (by first | assumption | decide) ?_
            refine v_iinc_5 (v := 1) rfl dX12_layPlan_64 (by decide) ?_
            rw [show nI p + 1 = nI (p + 1) from nI_1 p]
            refine v_goto (tgt := 19) dX12_layPlan_67 (by decide) ?_
            refine ih2 (p + 1) _ (by omega) (fun c h1 h2 => by rw [ui_ne (by assumption)]; exact jx c h1 h2) ?_
            have q := hw.step o3 (by omega)
            exact q
          · exact absurd (nI_pos2 (by omega)) hc50
    have hrj : RfI J F s := hr.fr (jx 160 (by decide) (by decide)) (by rw [jx 157 (by decide) (by decide)]) (jx 162 (by decide) (by decide))
    have hF := hrj.1.1.2
    refine v_iload_4 dX12_layPlan_10 ?_
    refine v_iload_3 dX12_layPlan_12 ?_
    refine v_icmp_ge (tgt := 76) dX12_layPlan_13 (by decide) (fun hc13 => ?_) (fun hc13 => ?_)
    · exact absurd hc13 (nI_ge (by omega) (by omega))
    · (try rw [nI_leI (by omega) (by omega)] at hc13)
      refine v_iconst (v := -1) dX12_layPlan_16 (by decide) ?_
      refine v_istore_5 rfl dX12_layPlan_17 ?_
      refine v_iload_5 dX12_layPlan_19 ?_
      refine v_aload_0 dX12_layPlan_21 ?_
      refine u_getR dX12_layPlan_22 gf_X12_20 (by first | assumption | rfl | exact led_1 (by assumption) | exact led_2 (by assumption) | exact bk_m (by assumption) (by first | assumption | omega) | exact bk_p (by assumption) (by first | assumption | omega) | exact bk_o (by assumption) (by first | assumption | omega) | exact bk_s (by assumption) (by first | assumption | omega) | exact bk_1 (by assumption) | exact bk_2 (by assumption) | exact bk_3 (by assumption) | exact bk_4 (by assumption) | exact bk_5 (by assumption) | exact bk_6 (by assumption) | exact bk_7 (by assumption) | exact bk_8 (by assumption) | exact sh_ring _ (by first | assumption | omega) | exact sh_imgs _ (by first | assumption | omega)) (ro_X12_15 (by assumption)) ?_
      refine v_iconst (v := nI 3) dX12_layPlan_25 (by decide) ?_
      refine u_iald dX12_layPlan_26 (by first | assumption | rfl | exact led_1 (by assumption) | exact led_2 (by assumption) | exact bk_m (by assumption) (by first | assumption | omega) | exact bk_p (by assumption) (by first | assumption | omega) | exact bk_o (by assumption) (by first | assumption | omega) | exact bk_s (by assumption) (by first | assumption | omega) | exact bk_1 (by assumption) | exact bk_2 (by assumption) | exact bk_3 (by assumption) | exact bk_4 (by assumption) | exact bk_5 (by assumption) | exact bk_6 (by assumption) | exact bk_7 (by assumption) | exact bk_8 (by assumption) | exact sh_ring _ (by first | assumption | omega) | exact sh_imgs _ (by first | assumption | omega)) (by first | with_reducible rfl | (simp only [nlit, nI_add, pk_mul]; with_reducible rfl) | rfl) (by first | assumption | omega) (by first | assumption | decide) ?_
      rw [hF 3 (by decide)]
      refine v_icmp_ge (tgt := 70) dX12_layPlan_27 (by decide) (fun hc27 => ?_) (fun hc27 => ?_)
      · exact absurd hc27 (nI_nlem1 (by omega))
      · (try rw [nI_leI (by omega) (by omega)] at hc27)
        refine v_aload_0 dX12_layPlan_30 ?_
        refine u_getR dX12_layPlan_31 gf_X12_47 (by first | assumption | rfl | exact led_1 (by assumption) | exact led_2 (by assumption) | exact bk_m (by assumption) (by first | assumption | omega) | exact bk_p (by assumption) (by first | assumption | omega) | exact bk_o (by assumption) (by first | assumption | omega) | exact bk_s (by assumption) (by first | assumption | omega) | exact bk_1 (by assumption) | exact bk_2 (by assumption) | exact bk_3 (by assumption) | exact bk_4 (by assumption) | exact bk_5 (by assumption) | exact bk_6 (by assumption) | exact bk_7 (by assumption) | exact bk_8 (by assumption) | exact sh_ring _ (by first | assumption | omega) | exact sh_imgs _ (by first | assumption | omega)) (ro_X12_27 (by assumption)) ?_
        refine v_bipush (v := nI 7) dX12_layPlan_34 (by decide) ?_
        refine v_iload_4 dX12_layPlan_36 ?_
        refine v_imul dX12_layPlan_38 ?_
        refine v_iload_5 dX12_layPlan_39 ?_
        refine v_iadd dX12_layPlan_41 ?_
        refine v_iconst (v := nI 1) dX12_layPlan_42 (by decide) ?_
        refine v_iadd dX12_layPlan_43 ?_
        rw [show nI 7 * nI m + (-1) + nI 1 = nI (7 * m + 0) by rw [Int32.add_assoc, show (-1 : Int32) + nI 1 = nI 0 from rfl]; simp only [nI_add, pk_mul]]
        refine v_aload_0 dX12_layPlan_44 ?_
        refine v_iload_4 dX12_layPlan_45 ?_
        refine v_iload_1 dX12_layPlan_47 ?_
        refine v_iload_5 dX12_layPlan_48 ?_
        refine v_if_ge (tgt := 58) dX12_layPlan_50 (by decide) (fun hc50 => ?_) (fun hc50 => ?_)
        · exact absurd hc50 (by decide)
        · (first | rw [show (0 : Int32) = nI 0 from rfl, nI_ltI (by omega) (by omega)] at hc50 | rw [show (0 : Int32) = nI 0 from rfl, nI_leI (by omega) (by omega)] at hc50 | skip)
          refine v_bipush (v := -2) dX12_layPlan_53 (by decide) ?_
          refine v_goto (tgt := 60) dX12_layPlan_55 (by decide) ?_
          refine u_callV_3 dX12_layPlan_60 ml_X12_346 mv_X12_worthBy (by first | assumption | rfl | exact led_1 (by assumption) | exact led_2 (by assumption) | exact bk_m (by assumption) (by first | assumption | omega) | exact bk_p (by assumption) (by first | assumption | omega) | exact bk_o (by assumption) (by first | assumption | omega) | exact bk_s (by assumption) (by first | assumption | omega) | exact bk_1 (by assumption) | exact bk_2 (by assumption) | exact bk_3 (by assumption) | exact bk_4 (by assumption) | exact bk_5 (by assumption) | exact bk_6 (by assumption) | exact bk_7 (by assumption) | exact bk_8 (by assumption) | exact sh_ring _ (by first | assumption | omega) | exact sh_imgs _ (by first | assumption | omega)) (by decide) rfl (by decide) (Nat.le_of_ble_eq_true rfl) (c_X12_worthBy (op := none) (m := m) (d := d) hR hrj (fun z e => by cases e) (by omega) hd ?_)
          refine u_iast dX12_layPlan_63 (by first | assumption | rfl | exact led_1 (by assumption) | exact led_2 (by assumption) | exact bk_m (by assumption) (by first | assumption | omega) | exact bk_p (by assumption) (by first | assumption | omega) | exact bk_o (by assumption) (by first | assumption | omega) | exact bk_s (by assumption) (by first | assumption | omega) | exact bk_1 (by assumption) | exact bk_2 (by assumption) | exact bk_3 (by assumption) | exact bk_4 (by assumption) | exact bk_5 (by assumption) | exact bk_6 (by assumption) | exact bk_7 (by assumption) | exact bk_8 (by assumption) | exact sh_ring _ (by first | assumption | omega) | exact sh_imgs _ (by first | assumption | omega)) (by first | with_reducible rfl | (simp only [nlit, nI_add, pk_mul]; with_reducible rfl) | rfl) (by first | assumption | omega) (by first | assumption | decide) ?_
          refine v_iinc_5 (v := 1) rfl dX12_layPlan_64 (by decide) ?_
          rw [show (-1 : Int32) + 1 = nI 0 from rfl]
          refine v_goto (tgt := 19) dX12_layPlan_67 (by decide) ?_
          refine inner (F 3) 0 _ (by omega) (fun c h1 h2 => by rw [ui_ne (by assumption)]; exact jx c h1 h2) ?_
          have q := hw.step (k := 0) o3 (by omega)
          exact q
theorem l_lpB {d : Nat} {x : Option Nat} (hR : RO R) (hr : RfI I F s) (hd : d < 2 ^ 30) (hx : ∀ y, x = some y → y < 2 ^ 30) (next : ∀ (J : HI) (x4 x5 : Option Value), (∀ c, c ≠ 168 → c ≠ 169 → J c = I c) → PwP J F d (F 2) 0 → PbR J F d x (F 2) 64 → VV yX12_layPlan cX12_layPlan 9 (some .int) 3 Q b ad 105 [some (.ref (b + 157)), some (.int (nI d)), some (.int (eO x)), some (.int (nI (F 2))), x4, x5, none, none, none] [] J L R) : ∀ (j q : Nat) (J : HI) (x5 : Option Value), q + j = 64 → (∀ c, c ≠ 168 → c ≠ 169 → J c = I c) → PwP J F d (F 2) 0 → PbR J F d x (F 2) q → VV yX12_layPlan cX12_layPlan 9 (some .int) 3 Q b ad 79 [some (.ref (b + 157)), some (.int (nI d)), some (.int (eO x)), some (.int (nI (F 2))), some (.int (nI q)), x5, none, none, none] [] J L R := by
  have hO := hr.1.2.2.1
  have o2 := hO.2.2.1
  have o3 := hO.2.2.2.1
  have o5 := hO.2.2.2.2.2.1
  have o0 := hO.1
  have hF := hr.1.1.2
  have hS := hr.2.1
  have hK := hr.2.2
  intro j
  induction j with
  | zero =>
    intro q J x5 hq jx hw hb
    have e : q = 64 := by omega
    subst e
    refine v_iload_4 dX12_layPlan_79 ?_
    refine v_bipush (v := nI 64) dX12_layPlan_81 (by decide) ?_
    refine v_icmp_ge (tgt := 105) dX12_layPlan_83 (by decide) (fun hc83 => ?_) (fun hc83 => ?_)
    · (try rw [nI_leI (by omega) (by omega)] at hc83)
      exact next J _ x5 jx hw hb
    · exact absurd (nI_le (by omega) (by omega)) hc83
  | succ j ih =>
    intro q J x5 hq jx hw hb
    refine v_iload_4 dX12_layPlan_79 ?_
    refine v_bipush (v := nI 64) dX12_layPlan_81 (by decide) ?_
    refine v_icmp_ge (tgt := 105) dX12_layPlan_83 (by decide) (fun hc83 => ?_) (fun hc83 => ?_)
    · exact absurd hc83 (nI_ge (by omega) (by omega))
    · (try rw [nI_leI (by omega) (by omega)] at hc83)
      refine v_aload_0 dX12_layPlan_86 ?_
      refine u_getR dX12_layPlan_87 gf_X12_44 (by first | assumption | rfl | exact led_1 (by assumption) | exact led_2 (by assumption) | exact bk_m (by assumption) (by first | assumption | omega) | exact bk_p (by assumption) (by first | assumption | omega) | exact bk_o (by assumption) (by first | assumption | omega) | exact bk_s (by assumption) (by first | assumption | omega) | exact bk_1 (by assumption) | exact bk_2 (by assumption) | exact bk_3 (by assumption) | exact bk_4 (by assumption) | exact bk_5 (by assumption) | exact bk_6 (by assumption) | exact bk_7 (by assumption) | exact bk_8 (by assumption) | exact sh_ring _ (by first | assumption | omega) | exact sh_imgs _ (by first | assumption | omega)) (ro_X12_26 (by assumption)) ?_
      refine v_bipush (v := nI 64) dX12_layPlan_90 (by decide) ?_
      refine v_iload_3 dX12_layPlan_92 ?_
      refine v_imul dX12_layPlan_93 ?_
      refine v_iload_4 dX12_layPlan_94 ?_
      refine v_iadd dX12_layPlan_96 ?_
      refine v_iconst (v := nI 0) dX12_layPlan_97 (by decide) ?_
      refine u_iast dX12_layPlan_98 (by first | assumption | rfl | exact led_1 (by assumption) | exact led_2 (by assumption) | exact bk_m (by assumption) (by first | assumption | omega) | exact bk_p (by assumption) (by first | assumption | omega) | exact bk_o (by assumption) (by first | assumption | omega) | exact bk_s (by assumption) (by first | assumption | omega) | exact bk_1 (by assumption) | exact bk_2 (by assumption) | exact bk_3 (by assumption) | exact bk_4 (by assumption) | exact bk_5 (by assumption) | exact bk_6 (by assumption) | exact bk_7 (by assumption) | exact bk_8 (by assumption) | exact sh_ring _ (by first | assumption | omega) | exact sh_imgs _ (by first | assumption | omega)) (by first | with_reducible rfl | (simp only [nlit, nI_add, pk_mul]; with_reducible rfl) | rfl) (by first | assumption | omega) (by first | assumption | decide) ?_
      refine v_iinc_4 (v := 1) rfl dX12_layPlan_99 (by decide) ?_
      rw [show nI q + 1 = nI (q + 1) from nI_1 q]
      refine v_goto (tgt := 79) dX12_layPlan_102 (by decide) ?_
      refine ih (q + 1) _ x5 (by omega) (fun c h1 h2 => by rw [ui_ne (by assumption)]; exact jx c h1 h2) (hw.fr (ui_ne (by decide))) ?_
      have z := hb.step (s := q) (by omega)
      rw [Nat.sub_self] at z
      exact z
theorem l_lpC {d : Nat} {x : Option Nat} {m z : Nat} {J : HI} (hR : RO R) (hr : RfI I F s) (hd : d < 2 ^ 30) (hx : ∀ y, x = some y → y < 2 ^ 30) (jx : (∀ c, c ≠ 168 → c ≠ 169 → J c = I c)) (hw : PwP J F d (F 2) 0) (hm : m < F 2) (hz : z < 64) (hb : PbR J F d x m z) (next : ∀ (x7 x8 : Option Value), VV yX12_layPlan cX12_layPlan 9 (some .int) 3 Q b ad 260 [some (.ref (b + 157)), some (.int (nI d)), some (.int (eO x)), some (.int (nI (F 2))), some (.int (nI m)), some (.int (nI z)), some (.int (zI (bzr F d x (F 2 - m) z))), x7, x8] [] J L R) : ∀ (j p : Nat) (a : Int) (x8 : Option Value), p + j = F 3 → -20000 < a → a < 20000 → mxz (fun p => !z.testBit p && (decide (some p ≠ x) && fitF F m p)) (fun p => balz F m (some p) d + bzr F d x (F 2 - (m + 1)) (z ||| 2 ^ p)) p j a = bzr F d x (F 2 - m) z → VV yX12_layPlan cX12_layPlan 9 (some .int) 3 Q b ad 156 [some (.ref (b + 157)), some (.int (nI d)), some (.int (eO x)), some (.int (nI (F 2))), some (.int (nI m)), some (.int (nI z)), some (.int (zI a)), some (.int (nI p)), x8] [] J L R := by
  have hO := hr.1.2.2.1
  have o2 := hO.2.2.1
  have o3 := hO.2.2.2.1
  have o5 := hO.2.2.2.2.2.1
  have o0 := hO.1
  have hF := hr.1.1.2
  have hS := hr.2.1
  have hK := hr.2.2
  have hrj : RfI J F s := hr.fr (jx 160 (by decide) (by decide)) (by rw [jx 157 (by decide) (by decide)]) (jx 162 (by decide) (by decide))
  have hF := hrj.1.1.2
  intro j
  induction j with
  | zero =>
    intro p a x8 hp a1 a2 he
    have he : a = _ := he
    subst he
    refine v_iload_7 dX12_layPlan_156 ?_
    refine v_aload_0 dX12_layPlan_158 ?_
    refine u_getR dX12_layPlan_159 gf_X12_20 (by first | assumption | rfl | exact led_1 (by assumption) | exact led_2 (by assumption) | exact bk_m (by assumption) (by first | assumption | omega) | exact bk_p (by assumption) (by first | assumption | omega) | exact bk_o (by assumption) (by first | assumption | omega) | exact bk_s (by assumption) (by first | assumption | omega) | exact bk_1 (by assumption) | exact bk_2 (by assumption) | exact bk_3 (by assumption) | exact bk_4 (by assumption) | exact bk_5 (by assumption) | exact bk_6 (by assumption) | exact bk_7 (by assumption) | exact bk_8 (by assumption) | exact sh_ring _ (by first | assumption | omega) | exact sh_imgs _ (by first | assumption | omega)) (ro_X12_15 (by assumption)) ?_
    refine v_iconst (v := nI 3) dX12_layPlan_162 (by decide) ?_
    refine u_iald dX12_layPlan_163 (by first | assumption | rfl | exact led_1 (by assumption) | exact led_2 (by assumption) | exact bk_m (by assumption) (by first | assumption | omega) | exact bk_p (by assumption) (by first | assumption | omega) | exact bk_o (by assumption) (by first | assumption | omega) | exact bk_s (by assumption) (by first | assumption | omega) | exact bk_1 (by assumption) | exact bk_2 (by assumption) | exact bk_3 (by assumption) | exact bk_4 (by assumption) | exact bk_5 (by assumption) | exact bk_6 (by assumption) | exact bk_7 (by assumption) | exact bk_8 (by assumption) | exact sh_ring _ (by first | assumption | omega) | exact sh_imgs _ (by first | assumption | omega)) (by first | with_reducible rfl | (simp only [nlit, nI_add, pk_mul]; with_reducible rfl) | rfl) (by first | assumption | omega) (by first | assumption | decide) ?_
    rw [hF 3 (by decide)]
    refine v_icmp_ge (tgt := 260) dX12_layPlan_164 (by decide) (fun hc164 => ?_) (fun hc164 => ?_)
    · (try rw [nI_leI (by omega) (by omega)] at hc164)
      exact next _ x8
    · exact absurd (nI_le (by omega) (by omega)) hc164
  | succ j ih =>
    intro p a x8 hpj a1 a2 he
    have hp : p < F 3 := by omega
    have h2p : 2 ^ p < 2 ^ 6 := Nat.pow_lt_pow_right (by decide) (by omega)
    have hzp : z ||| 2 ^ p < 2 ^ 6 := Nat.or_lt_two_pow (by omega) h2p
    have b1 := bzr_b hO d x (F 2 - (m + 1)) (z ||| 2 ^ p)
    have b2 := balz_b hO m (some p) d
    have b3 : ((F 2 - (m + 1) : Nat) : Int) ≤ 6 := by omega
    have w1 : -20000 < balz F m (some p) d + bzr F d x (F 2 - (m + 1)) (z ||| 2 ^ p) := by omega
    have w2 : balz F m (some p) d + bzr F d x (F 2 - (m + 1)) (z ||| 2 ^ p) < 20000 := by omega
    simp only [mxz] at he
    refine v_iload_7 dX12_layPlan_156 ?_
    refine v_aload_0 dX12_layPlan_158 ?_
    refine u_getR dX12_layPlan_159 gf_X12_20 (by first | assumption | rfl | exact led_1 (by assumption) | exact led_2 (by assumption) | exact bk_m (by assumption) (by first | assumption | omega) | exact bk_p (by assumption) (by first | assumption | omega) | exact bk_o (by assumption) (by first | assumption | omega) | exact bk_s (by assumption) (by first | assumption | omega) | exact bk_1 (by assumption) | exact bk_2 (by assumption) | exact bk_3 (by assumption) | exact bk_4 (by assumption) | exact bk_5 (by assumption) | exact bk_6 (by assumption) | exact bk_7 (by assumption) | exact bk_8 (by assumption) | exact sh_ring _ (by first | assumption | omega) | exact sh_imgs _ (by first | assumption | omega)) (ro_X12_15 (by assumption)) ?_
    refine v_iconst (v := nI 3) dX12_layPlan_162 (by decide) ?_
    refine u_iald dX12_layPlan_163 (by first | assumption | rfl | exact led_1 (by assumption) | exact led_2 (by assumption) | exact bk_m (by assumption) (by first | assumption | omega) | exact bk_p (by assumption) (by first | assumption | omega) | exact bk_o (by assumption) (by first | assumption | omega) | exact bk_s (by assumption) (by first | assumption | omega) | exact bk_1 (by assumption) | exact bk_2 (by assumption) | exact bk_3 (by assumption) | exact bk_4 (by assumption) | exact bk_5 (by assumption) | exact bk_6 (by assumption) | exact bk_7 (by assumption) | exact bk_8 (by assumption) | exact sh_ring _ (by first | assumption | omega) | exact sh_imgs _ (by first | assumption | omega)) (by first | with_reducible rfl | (simp only [nlit, nI_add, pk_mul]; with_reducible rfl) | rfl) (by first | assumption | omega) (by first | assumption | decide) ?_
    rw [hF 3 (by decide)]
    refine v_icmp_ge (tgt := 260) dX12_layPlan_164 (by decide) (fun hc164 => ?_) (fun hc164 => ?_)
    · exact absurd hc164 (nI_ge (by omega) (by omega))
    · (try rw [nI_leI (by omega) (by omega)] at hc164)
      refine v_iload_5 dX12_layPlan_167 ?_
      refine v_iload_7 dX12_layPlan_169 ?_
      refine u_callS_2 dX12_layPlan_171 ml_X12_158 ms_X12_has (by decide) (Nat.le_of_ble_eq_true rfl) (c_X12_has (by omega) (by omega) ?_)
      refine v_if_ne (tgt := 254) dX12_layPlan_174 (by decide) (fun hc174 => ?_) (fun hc174 => ?_)
      · (first | rw [bI_0, Bool.not_eq_false] at hc174 | rw [bI_0] at hc174 | rw [show (0 : Int32) = nI 0 from rfl, nI_eq (by omega) (by omega)] at hc174 | skip)
        refine v_iinc_7 (v := 1) rfl dX12_layPlan_254 (by decide) ?_
        rw [show nI p + 1 = nI (p + 1) from nI_1 p]
        refine v_goto (tgt := 156) dX12_layPlan_257 (by decide) ?_
        first
          | (rw [hc174, Bool.not_true, Bool.false_and, if_neg (by decide)] at he; exact ih (p + 1) a _ (by omega) a1 a2 he)
          | (rw [hc174, decide_eq_false (not_not_intro hc180), Bool.false_and, Bool.and_false, if_neg (by decide)] at he; exact ih (p + 1) a _ (by omega) a1 a2 he)
          | (rw [hc174, hc194, Bool.and_false, Bool.and_false, if_neg (by decide)] at he; exact ih (p + 1) a _ (by omega) a1 a2 he)
          | (rw [hc174, decide_eq_true hc180, hc194, if_pos (by decide), if_neg (by omega)] at he; exact ih (p + 1) a _ (by omega) a1 a2 he)
          | (rw [hc174, decide_eq_true hc180, hc194, if_pos (by decide), if_pos (by omega)] at he; exact ih (p + 1) _ _ (by omega) w1 w2 he)
      · (first | rw [bI_0, Bool.not_eq_false] at hc174 | rw [bI_0] at hc174 | rw [show (0 : Int32) = nI 0 from rfl, nI_eq (by omega) (by omega)] at hc174 | skip)
        refine v_iload_7 dX12_layPlan_177 ?_
        refine v_iload_2 dX12_layPlan_179 ?_
        refine v_icmp_eq (tgt := 254) dX12_layPlan_180 (by decide) (fun hc180 => ?_) (fun hc180 => ?_)
        · rw [eO_i (by omega) hx] at hc180
          refine v_iinc_7 (v := 1) rfl dX12_layPlan_254 (by decide) ?_
          rw [show nI p + 1 = nI (p + 1) from nI_1 p]
          refine v_goto (tgt := 156) dX12_layPlan_257 (by decide) ?_
          first
            | (rw [hc174, Bool.not_true, Bool.false_and, if_neg (by decide)] at he; exact ih (p + 1) a _ (by omega) a1 a2 he)
            | (rw [hc174, decide_eq_false (not_not_intro hc180), Bool.false_and, Bool.and_false, if_neg (by decide)] at he; exact ih (p + 1) a _ (by omega) a1 a2 he)
            | (rw [hc174, hc194, Bool.and_false, Bool.and_false, if_neg (by decide)] at he; exact ih (p + 1) a _ (by omega) a1 a2 he)
            | (rw [hc174, decide_eq_true hc180, hc194, if_pos (by decide), if_neg (by omega)] at he; exact ih (p + 1) a _ (by omega) a1 a2 he)
            | (rw [hc174, decide_eq_true hc180, hc194, if_pos (by decide), if_pos (by omega)] at he; exact ih (p + 1) _ _ (by omega) w1 w2 he)
        · rw [eO_i (by omega) hx] at hc180
          refine v_aload_0 dX12_layPlan_183 ?_
          refine u_getR dX12_layPlan_184 gf_X12_20 (by first | assumption | rfl | exact led_1 (by assumption) | exact led_2 (by assumption) | exact bk_m (by assumption) (by first | assumption | omega) | exact bk_p (by assumption) (by first | assumption | omega) | exact bk_o (by assumption) (by first | assumption | omega) | exact bk_s (by assumption) (by first | assumption | omega) | exact bk_1 (by assumption) | exact bk_2 (by assumption) | exact bk_3 (by assumption) | exact bk_4 (by assumption) | exact bk_5 (by assumption) | exact bk_6 (by assumption) | exact bk_7 (by assumption) | exact bk_8 (by assumption) | exact sh_ring _ (by first | assumption | omega) | exact sh_imgs _ (by first | assumption | omega)) (ro_X12_15 (by assumption)) ?_
          refine v_iload_4 dX12_layPlan_187 ?_
          refine v_iload_7 dX12_layPlan_189 ?_
          refine u_callS_3 dX12_layPlan_191 ml_X12_296 ms_X12_doesFit (by decide) (Nat.le_of_ble_eq_true rfl) (c_X12_doesFit hrj.1.1 hO hm hp ?_)
          refine v_if_ne (tgt := 200) dX12_layPlan_194 (by decide) (fun hc194 => ?_) (fun hc194 => ?_)
          · (first | rw [bI_0, Bool.not_eq_false] at hc194 | rw [bI_0] at hc194 | rw [show (0 : Int32) = nI 0 from rfl, nI_eq (by omega) (by omega)] at hc194 | skip)
            refine v_aload_0 dX12_layPlan_200 ?_
            refine u_getR dX12_layPlan_201 gf_X12_47 (by first | assumption | rfl | exact led_1 (by assumption) | exact led_2 (by assumption) | exact bk_m (by assumption) (by first | assumption | omega) | exact bk_p (by assumption) (by first | assumption | omega) | exact bk_o (by assumption) (by first | assumption | omega) | exact bk_s (by assumption) (by first | assumption | omega) | exact bk_1 (by assumption) | exact bk_2 (by assumption) | exact bk_3 (by assumption) | exact bk_4 (by assumption) | exact bk_5 (by assumption) | exact bk_6 (by assumption) | exact bk_7 (by assumption) | exact bk_8 (by assumption) | exact sh_ring _ (by first | assumption | omega) | exact sh_imgs _ (by first | assumption | omega)) (ro_X12_27 (by assumption)) ?_
            refine v_bipush (v := nI 7) dX12_layPlan_204 (by decide) ?_
            refine v_iload_4 dX12_layPlan_206 ?_
            refine v_imul dX12_layPlan_208 ?_
            refine v_iload_7 dX12_layPlan_209 ?_
            refine v_iadd dX12_layPlan_211 ?_
            refine v_iconst (v := nI 1) dX12_layPlan_212 (by decide) ?_
            refine v_iadd dX12_layPlan_213 ?_
            refine u_iald dX12_layPlan_214 (by first | assumption | rfl | exact led_1 (by assumption) | exact led_2 (by assumption) | exact bk_m (by assumption) (by first | assumption | omega) | exact bk_p (by assumption) (by first | assumption | omega) | exact bk_o (by assumption) (by first | assumption | omega) | exact bk_s (by assumption) (by first | assumption | omega) | exact bk_1 (by assumption) | exact bk_2 (by assumption) | exact bk_3 (by assumption) | exact bk_4 (by assumption) | exact bk_5 (by assumption) | exact bk_6 (by assumption) | exact bk_7 (by assumption) | exact bk_8 (by assumption) | exact sh_ring _ (by first | assumption | omega) | exact sh_imgs _ (by first | assumption | omega)) (by first | with_reducible rfl | (simp only [nlit, nI_add, pk_mul]; with_reducible rfl) | rfl) (by first | assumption | omega) (by first | assumption | decide) ?_
            rw [show J 169 (7 * m + p + 1) = zI (balz F m (some p) d) from hw m hm (p + 1) (by omega) (Or.inl hm)]
            refine v_aload_0 dX12_layPlan_215 ?_
            refine u_getR dX12_layPlan_216 gf_X12_44 (by first | assumption | rfl | exact led_1 (by assumption) | exact led_2 (by assumption) | exact bk_m (by assumption) (by first | assumption | omega) | exact bk_p (by assumption) (by first | assumption | omega) | exact bk_o (by assumption) (by first | assumption | omega) | exact bk_s (by assumption) (by first | assumption | omega) | exact bk_1 (by assumption) | exact bk_2 (by assumption) | exact bk_3 (by assumption) | exact bk_4 (by assumption) | exact bk_5 (by assumption) | exact bk_6 (by assumption) | exact bk_7 (by assumption) | exact bk_8 (by assumption) | exact sh_ring _ (by first | assumption | omega) | exact sh_imgs _ (by first | assumption | omega)) (ro_X12_26 (by assumption)) ?_
            refine v_bipush (v := nI 64) dX12_layPlan_219 (by decide) ?_
            refine v_iload_4 dX12_layPlan_221 ?_
            refine v_iconst (v := nI 1) dX12_layPlan_223 (by decide) ?_
            refine v_iadd dX12_layPlan_224 ?_
            refine v_imul dX12_layPlan_225 ?_
            refine v_iload_5 dX12_layPlan_226 ?_
            refine v_iconst (v := nI 1) dX12_layPlan_228 (by decide) ?_
            refine v_iload_7 dX12_layPlan_229 ?_
            refine v_ishl dX12_layPlan_231 ?_
            rw [one_shl (by omega)]
            refine v_ior dX12_layPlan_232 ?_
            rw [nx_or]
            refine v_iadd dX12_layPlan_233 ?_
            refine u_iald dX12_layPlan_234 (by first | assumption | rfl | exact led_1 (by assumption) | exact led_2 (by assumption) | exact bk_m (by assumption) (by first | assumption | omega) | exact bk_p (by assumption) (by first | assumption | omega) | exact bk_o (by assumption) (by first | assumption | omega) | exact bk_s (by assumption) (by first | assumption | omega) | exact bk_1 (by assumption) | exact bk_2 (by assumption) | exact bk_3 (by assumption) | exact bk_4 (by assumption) | exact bk_5 (by assumption) | exact bk_6 (by assumption) | exact bk_7 (by assumption) | exact bk_8 (by assumption) | exact sh_ring _ (by first | assumption | omega) | exact sh_imgs _ (by first | assumption | omega)) (by first | with_reducible rfl | (simp only [nlit, nI_add, pk_mul]; with_reducible rfl) | rfl) (by first | assumption | omega) (by first | assumption | decide) ?_
            rw [hb (m + 1) (by omega) (z ||| 2 ^ p) (by omega) (Or.inl (by omega))]
            refine v_iadd dX12_layPlan_235 ?_
            rw [zI_add]
            refine v_istore_8 rfl dX12_layPlan_236 ?_
            refine v_iload_8 dX12_layPlan_238 ?_
            refine v_iload_6 dX12_layPlan_240 ?_
            refine v_icmp_le (tgt := 250) dX12_layPlan_242 (by decide) (fun hc242 => ?_) (fun hc242 => ?_)
            · rw [zI_le (by omega) (by omega) (by omega) (by omega)] at hc242
              refine v_iload_6 dX12_layPlan_250 ?_
              refine v_istore_6 rfl dX12_layPlan_252 ?_
              refine v_iinc_7 (v := 1) rfl dX12_layPlan_254 (by decide) ?_
              rw [show nI p + 1 = nI (p + 1) from nI_1 p]
              refine v_goto (tgt := 156) dX12_layPlan_257 (by decide) ?_
              first
                | (rw [hc174, Bool.not_true, Bool.false_and, if_neg (by decide)] at he; exact ih (p + 1) a _ (by omega) a1 a2 he)
                | (rw [hc174, decide_eq_false (not_not_intro hc180), Bool.false_and, Bool.and_false, if_neg (by decide)] at he; exact ih (p + 1) a _ (by omega) a1 a2 he)
                | (rw [hc174, hc194, Bool.and_false, Bool.and_false, if_neg (by decide)] at he; exact ih (p + 1) a _ (by omega) a1 a2 he)
                | (rw [hc174, decide_eq_true hc180, hc194, if_pos (by decide), if_neg (by omega)] at he; exact ih (p + 1) a _ (by omega) a1 a2 he)
                | (rw [hc174, decide_eq_true hc180, hc194, if_pos (by decide), if_pos (by omega)] at he; exact ih (p + 1) _ _ (by omega) w1 w2 he)
            · rw [zI_le (by omega) (by omega) (by omega) (by omega)] at hc242
              refine v_iload_8 dX12_layPlan_245 ?_
              refine v_goto (tgt := 252) dX12_layPlan_247 (by decide) ?_
              refine v_istore_6 rfl dX12_layPlan_252 ?_
              refine v_iinc_7 (v := 1) rfl dX12_layPlan_254 (by decide) ?_
              rw [show nI p + 1 = nI (p + 1) from nI_1 p]
              refine v_goto (tgt := 156) dX12_layPlan_257 (by decide) ?_
              first
                | (rw [hc174, Bool.not_true, Bool.false_and, if_neg (by decide)] at he; exact ih (p + 1) a _ (by omega) a1 a2 he)
                | (rw [hc174, decide_eq_false (not_not_intro hc180), Bool.false_and, Bool.and_false, if_neg (by decide)] at he; exact ih (p + 1) a _ (by omega) a1 a2 he)
                | (rw [hc174, hc194, Bool.and_false, Bool.and_false, if_neg (by decide)] at he; exact ih (p + 1) a _ (by omega) a1 a2 he)
                | (rw [hc174, decide_eq_true hc180, hc194, if_pos (by decide), if_neg (by omega)] at he; exact ih (p + 1) a _ (by omega) a1 a2 he)
                | (rw [hc174, decide_eq_true hc180, hc194, if_pos (by decide), if_pos (by omega)] at he; exact ih (p + 1) _ _ (by omega) w1 w2 he)
          · (first | rw [bI_0, Bool.not_eq_false] at hc194 | rw [bI_0] at hc194 | rw [show (0 : Int32) = nI 0 from rfl, nI_eq (by omega) (by omega)] at hc194 | skip)
            refine v_goto (tgt := 254) dX12_layPlan_197 (by decide) ?_
            refine v_iinc_7 (v := 1) rfl dX12_layPlan_254 (by decide) ?_
            rw [show nI p + 1 = nI (p + 1) from nI_1 p]
            refine v_goto (tgt := 156) dX12_layPlan_257 (by decide) ?_
            first
              | (rw [hc174, Bool.not_true, Bool.false_and, if_neg (by decide)] at he; exact ih (p + 1) a _ (by omega) a1 a2 he)
              | (rw [hc174, decide_eq_false (not_not_intro hc180), Bool.false_and, Bool.and_false, if_neg (by decide)] at he; exact ih (p + 1) a _ (by omega) a1 a2 he)
              | (rw [hc174, hc194, Bool.and_false, Bool.and_false, if_neg (by decide)] at he; exact ih (p + 1) a _ (by omega) a1 a2 he)
              | (rw [hc174, decide_eq_true hc180, hc194, if_pos (by decide), if_neg (by omega)] at he; exact ih (p + 1) a _ (by omega) a1 a2 he)
              | (rw [hc174, decide_eq_true hc180, hc194, if_pos (by decide), if_pos (by omega)] at he; exact ih (p + 1) _ _ (by omega) w1 w2 he)
theorem l_lpD {d : Nat} {x : Option Nat} (hR : RO R) (hr : RfI I F s) (hd : d < 2 ^ 30) (hx : ∀ y, x = some y → y < 2 ^ 30) (next : ∀ (J : HI) (x4 x5 x6 x7 x8 : Option Value), (∀ c, c ≠ 168 → c ≠ 169 → J c = I c) → PwP J F d (F 2) 0 → (∀ m', m' ≤ F 2 → ∀ q, q < 64 → J 168 (64 * m' + q) = zI (bzr F d x (F 2 - m') q)) → VV yX12_layPlan cX12_layPlan 9 (some .int) 3 Q b ad 287 [some (.ref (b + 157)), some (.int (nI d)), some (.int (eO x)), some (.int (nI (F 2))), x4, x5, x6, x7, x8] [] J L R) : ∀ (k : Nat) (J : HI) (x5 x6 x7 x8 : Option Value), k ≤ F 2 → (∀ c, c ≠ 168 → c ≠ 169 → J c = I c) → PwP J F d (F 2) 0 → PbR J F d x k 64 → VV yX12_layPlan cX12_layPlan 9 (some .int) 3 Q b ad 110 [some (.ref (b + 157)), some (.int (nI d)), some (.int (eO x)), some (.int (nI (F 2))), some (.int (zI ((k : Int) - 1))), x5, x6, x7, x8] [] J L R := by
  have hO := hr.1.2.2.1
  have o2 := hO.2.2.1
  have o3 := hO.2.2.2.1
  have o5 := hO.2.2.2.2.2.1
  have o0 := hO.1
  have hF := hr.1.1.2
  have hS := hr.2.1
  have hK := hr.2.2
  intro k
  induction k with
  | zero =>
    intro J x5 x6 x7 x8 hk jx hw hb
    refine v_iload_4 dX12_layPlan_110 ?_
    refine v_if_lt (tgt := 287) dX12_layPlan_112 (by decide) (fun hc112 => ?_) (fun hc112 => ?_)
    · skip
      exact next J _ x5 x6 x7 x8 jx hw (fun m hm q hq => hb m hm q hq (by omega))
    · exact absurd (show zI (((0 : Nat) : Int) - 1) < 0 by decide) hc112
  | succ m ih =>
    intro J x5 x6 x7 x8 hk jx hw hb
    rw [zI_m1]
    have hm : m < F 2 := by omega
    have inner : ∀ (j z : Nat) (J : HI) (x6 x7 x8 : Option Value), z + j = 64 → (∀ c, c ≠ 168 → c ≠ 169 → J c = I c) → PwP J F d (F 2) 0 → PbR J F d x m z → VV yX12_layPlan cX12_layPlan 9 (some .int) 3 Q b ad 118 [some (.ref (b + 157)), some (.int (nI d)), some (.int (eO x)), some (.int (nI (F 2))), some (.int (nI m)), some (.int (nI z)), x6, x7, x8] [] J L R := by
      intro j
      induction j with
      | zero =>
        intro z J x6 x7 x8 hz jx hw hb
        have e : z = 64 := by omega
        subst e
        refine v_iload_5 dX12_layPlan_118 ?_
        refine v_bipush (v := nI 64) dX12_layPlan_120 (by decide) ?_
        refine v_icmp_ge (tgt := 281) dX12_layPlan_122 (by decide) (fun hc122 => ?_) (fun hc122 => ?_)
        · (try rw [nI_leI (by omega) (by omega)] at hc122)
          refine v_iinc_4 (v := -1) rfl dX12_layPlan_281 (by decide) ?_
          rw [nI_dn]
          refine v_goto (tgt := 110) dX12_layPlan_284 (by decide) ?_
          exact ih J _ x6 x7 x8 (by omega) jx hw hb
        · exact absurd (nI_le (by omega) (by omega)) hc122
      | succ j ih2 =>
        intro z J x6 x7 x8 hzj jx hw hb
        have hz : z < 64 := by omega
        have b1 := bzr_b hO d x (F 2 - (m + 1)) z
        have b2 := balz_b hO m none d
        have b3 : ((F 2 - (m + 1) : Nat) : Int) ≤ 6 := by omega
        have eb : mxz (fun p => !z.testBit p && (decide (some p ≠ x) && fitF F m p)) (fun p => balz F m (some p) d + bzr F d x (F 2 - (m + 1)) (z ||| 2 ^ p)) 0 (F 3) (balz F m none d + bzr F d x (F 2 - (m + 1)) z) = bzr F d x (F 2 - m) z := by
          rw [show F 2 - m = (F 2 - (m + 1)) + 1 by omega]
          simp only [bzr]
          rw [show F 2 - (F 2 - (m + 1) + 1) = m by omega]
        refine v_iload_5 dX12_layPlan_118 ?_
        refine v_bipush (v := nI 64) dX12_layPlan_120 (by decide) ?_
        refine v_icmp_ge (tgt := 281) dX12_layPlan_122 (by decide) (fun hc122 => ?_) (fun hc122 => ?_)
        · exact absurd hc122 (nI_ge (by omega) (by omega))
        · (try rw [nI_leI (by omega) (by omega)] at hc122)
          refine v_aload_0 dX12_layPlan_125 ?_
          refine u_getR dX12_layPlan_126 gf_X12_47 (by first | assumption | rfl | exact led_1 (by assumption) | exact led_2 (by assumption) | exact bk_m (by assumption) (by first | assumption | omega) | exact bk_p (by assumption) (by first | assumption | omega) | exact bk_o (by assumption) (by first | assumption | omega) | exact bk_s (by assumption) (by first | assumption | omega) | exact bk_1 (by assumption) | exact bk_2 (by assumption) | exact bk_3 (by assumption) | exact bk_4 (by assumption) | exact bk_5 (by assumption) | exact bk_6 (by assumption) | exact bk_7 (by assumption) | exact bk_8 (by assumption) | exact sh_ring _ (by first | assumption | omega) | exact sh_imgs _ (by first | assumption | omega)) (ro_X12_27 (by assumption)) ?_
          refine v_bipush (v := nI 7) dX12_layPlan_129 (by decide) ?_
          refine v_iload_4 dX12_layPlan_131 ?_
          refine v_imul dX12_layPlan_133 ?_
          refine u_iald dX12_layPlan_134 (by first | assumption | rfl | exact led_1 (by assumption) | exact led_2 (by assumption) | exact bk_m (by assumption) (by first | assumption | omega) | exact bk_p (by assumption) (by first | assumption | omega) | exact bk_o (by assumption) (by first | assumption | omega) | exact bk_s (by assumption) (by first | assumption | omega) | exact bk_1 (by assumption) | exact bk_2 (by assumption) | exact bk_3 (by assumption) | exact bk_4 (by assumption) | exact bk_5 (by assumption) | exact bk_6 (by assumption) | exact bk_7 (by assumption) | exact bk_8 (by assumption) | exact sh_ring _ (by first | assumption | omega) | exact sh_imgs _ (by first | assumption | omega)) (by first | with_reducible rfl | (simp only [nlit, nI_add, pk_mul]; with_reducible rfl) | rfl) (by first | assumption | omega) (by first | assumption | decide) ?_
          rw [show J 169 (7 * m) = zI (balz F m none d) from hw m hm 0 (by omega) (Or.inl hm)]
          refine v_aload_0 dX12_layPlan_135 ?_
          refine u_getR dX12_layPlan_136 gf_X12_44 (by first | assumption | rfl | exact led_1 (by assumption) | exact led_2 (by assumption) | exact bk_m (by assumption) (by first | assumption | omega) | exact bk_p (by assumption) (by first | assumption | omega) | exact bk_o (by assumption) (by first | assumption | omega) | exact bk_s (by assumption) (by first | assumption | omega) | exact bk_1 (by assumption) | exact bk_2 (by assumption) | exact bk_3 (by assumption) | exact bk_4 (by assumption) | exact bk_5 (by assumption) | exact bk_6 (by assumption) | exact bk_7 (by assumption) | exact bk_8 (by assumption) | exact sh_ring _ (by first | assumption | omega) | exact sh_imgs _ (by first | assumption | omega)) (ro_X12_26 (by assumption)) ?_
          refine v_bipush (v := nI 64) dX12_layPlan_139 (by decide) ?_
          refine v_iload_4 dX12_layPlan_141 ?_
          refine v_iconst (v := nI 1) dX12_layPlan_143 (by decide) ?_
          refine v_iadd dX12_layPlan_144 ?_
          refine v_imul dX12_layPlan_145 ?_
          refine v_iload_5 dX12_layPlan_146 ?_
          refine v_iadd dX12_layPlan_148 ?_
          refine u_iald dX12_layPlan_149 (by first | assumption | rfl | exact led_1 (by assumption) | exact led_2 (by assumption) | exact bk_m (by assumption) (by first | assumption | omega) | exact bk_p (by assumption) (by first | assumption | omega) | exact bk_o (by assumption) (by first | assumption | omega) | exact bk_s (by assumption) (by first | assumption | omega) | exact bk_1 (by assumption) | exact bk_2 (by assumption) | exact bk_3 (by assumption) | exact bk_4 (by assumption) | exact bk_5 (by assumption) | exact bk_6 (by assumption) | exact bk_7 (by assumption) | exact bk_8 (by assumption) | exact sh_ring _ (by first | assumption | omega) | exact sh_imgs _ (by first | assumption | omega)) (by first | with_reducible rfl | (simp only [nlit, nI_add, pk_mul]; with_reducible rfl) | rfl) (by first | assumption | omega) (by first | assumption | decide) ?_
          rw [hb (m + 1) (by omega) z (by omega) (Or.inl (by omega))]
          refine v_iadd dX12_layPlan_150 ?_
          rw [zI_add]
          refine v_istore_6 rfl dX12_layPlan_151 ?_
          refine v_iconst (v := nI 0) dX12_layPlan_153 (by decide) ?_
          refine v_istore_7 rfl dX12_layPlan_154 ?_
          refine l_lpC hR hr hd hx jx hw hm hz hb (fun x7 x8 => ?_) (F 3) 0 _ _ (by omega) (by omega) (by omega) eb
          refine v_aload_0 dX12_layPlan_260 ?_
          refine u_getR dX12_layPlan_261 gf_X12_44 (by first | assumption | rfl | exact led_1 (by assumption) | exact led_2 (by assumption) | exact bk_m (by assumption) (by first | assumption | omega) | exact bk_p (by assumption) (by first | assumption | omega) | exact bk_o (by assumption) (by first | assumption | omega) | exact bk_s (by assumption) (by first | assumption | omega) | exact bk_1 (by assumption) | exact bk_2 (by assumption) | exact bk_3 (by assumption) | exact bk_4 (by assumption) | exact bk_5 (by assumption) | exact bk_6 (by assumption) | exact bk_7 (by assumption) | exact bk_8 (by assumption) | exact sh_ring _ (by first | assumption | omega) | exact sh_imgs _ (by first | assumption | omega)) (ro_X12_26 (by assumption)) ?_
          refine v_bipush (v := nI 64) dX12_layPlan_264 (by decide) ?_
          refine v_iload_4 dX12_layPlan_266 ?_
          refine v_imul dX12_layPlan_268 ?_
          refine v_iload_5 dX12_layPlan_269 ?_
          refine v_iadd dX12_layPlan_271 ?_
          refine v_iload_6 dX12_layPlan_272 ?_
          refine u_iast dX12_layPlan_274 (by first | assumption | rfl | exact led_1 (by assumption) | exact led_2 (by assumption) | exact bk_m (by assumption) (by first | assumption | omega) | exact bk_p (by assumption) (by first | assumption | omega) | exact bk_o (by assumption) (by first | assumption | omega) | exact bk_s (by assumption) (by first | assumption | omega) | exact bk_1 (by assumption) | exact bk_2 (by assumption) | exact bk_3 (by assumption) | exact bk_4 (by assumption) | exact bk_5 (by assumption) | exact bk_6 (by assumption) | exact bk_7 (by assumption) | exact bk_8 (by assumption) | exact sh_ring _ (by first | assumption | omega) | exact sh_imgs _ (by first | assumption | omega)) (by first | with_reducible rfl | (simp only [nlit, nI_add, pk_mul]; with_reducible rfl) | rfl) (by first | assumption | omega) (by first | assumption | decide) ?_
          refine v_iinc_5 (v := 1) rfl dX12_layPlan_275 (by decide) ?_
          rw [show nI z + 1 = nI (z + 1) from nI_1 z]
          refine v_goto (tgt := 118) dX12_layPlan_278 (by decide) ?_
          exact ih2 (z + 1) _ _ _ _ (by omega) (fun c h1 h2 => by rw [ui_ne (by assumption)]; exact jx c h1 h2) (hw.fr (ui_ne (by decide))) (hb.step hz)
    refine v_iload_4 dX12_layPlan_110 ?_
    refine v_if_lt (tgt := 287) dX12_layPlan_112 (by decide) (fun hc112 => ?_) (fun hc112 => ?_)
    · first | omega | exact absurd hc112 (by have q := nI_pos2 (i := m) (by omega); intro w; exact Int32.lt_irrefl (Int32.lt_of_lt_of_le w q))
    · skip
      refine v_iconst (v := nI 0) dX12_layPlan_115 (by decide) ?_
      refine v_istore_5 rfl dX12_layPlan_116 ?_
      exact inner 64 0 J x6 x7 x8 (by omega) jx hw hb.next
theorem c_X12_layPlan {d : Nat} {x : Option Nat} (hR : RO R) (hr : RfI I F s) (hd : d < 2 ^ 30) (hx : ∀ y, x = some y → y < 2 ^ 30) (hQ : ∀ J : HI, (∀ c, c ≠ 168 → c ≠ 169 → J c = I c) → PwP J F d (F 2) 0 → (∀ m', m' ≤ F 2 → ∀ q, q < 64 → J 168 (64 * m' + q) = zI (bzr F d x (F 2 - m') q)) → Q (some (.int (zI (bzr F d x (F 2) 0)))) SH J L R) : KK 3 mX12_layPlan b ad [.ref (b + 157), .int (nI d), .int (eO x)] I L R Q := by
  have hO := hr.1.2.2.1
  have o2 := hO.2.2.1
  have o3 := hO.2.2.2.1
  have o5 := hO.2.2.2.2.2.1
  have o0 := hO.1
  have hF := hr.1.1.2
  have hS := hr.2.1
  have hK := hr.2.2
  have hF := hr.1.1.2
  refine K.of (M := mX12_layPlan) (lv := [some (.ref (b + 157)), some (.int (nI d)), some (.int (eO x)), none, none, none, none, none, none]) (by decide) (Nat.le_of_ble_eq_true rfl) rfl ?_
  refine v_aload_0 dX12_layPlan_0 ?_
  refine u_getR dX12_layPlan_1 gf_X12_20 (by first | assumption | rfl | exact led_1 (by assumption) | exact led_2 (by assumption) | exact bk_m (by assumption) (by first | assumption | omega) | exact bk_p (by assumption) (by first | assumption | omega) | exact bk_o (by assumption) (by first | assumption | omega) | exact bk_s (by assumption) (by first | assumption | omega) | exact bk_1 (by assumption) | exact bk_2 (by assumption) | exact bk_3 (by assumption) | exact bk_4 (by assumption) | exact bk_5 (by assumption) | exact bk_6 (by assumption) | exact bk_7 (by assumption) | exact bk_8 (by assumption) | exact sh_ring _ (by first | assumption | omega) | exact sh_imgs _ (by first | assumption | omega)) (ro_X12_15 (by assumption)) ?_
  refine v_iconst (v := nI 2) dX12_layPlan_4 (by decide) ?_
  refine u_iald dX12_layPlan_5 (by first | assumption | rfl | exact led_1 (by assumption) | exact led_2 (by assumption) | exact bk_m (by assumption) (by first | assumption | omega) | exact bk_p (by assumption) (by first | assumption | omega) | exact bk_o (by assumption) (by first | assumption | omega) | exact bk_s (by assumption) (by first | assumption | omega) | exact bk_1 (by assumption) | exact bk_2 (by assumption) | exact bk_3 (by assumption) | exact bk_4 (by assumption) | exact bk_5 (by assumption) | exact bk_6 (by assumption) | exact bk_7 (by assumption) | exact bk_8 (by assumption) | exact sh_ring _ (by first | assumption | omega) | exact sh_imgs _ (by first | assumption | omega)) (by first | with_reducible rfl | (simp only [nlit, nI_add, pk_mul]; with_reducible rfl) | rfl) (by first | assumption | omega) (by first | assumption | decide) ?_
  rw [hF 2 (by decide)]
  refine v_istore_3 rfl dX12_layPlan_6 ?_
  refine v_iconst (v := nI 0) dX12_layPlan_7 (by decide) ?_
  refine v_istore_4 rfl dX12_layPlan_8 ?_
  refine l_lpA hR hr hd hx (fun J x5 jx hw => ?_) (F 2) 0 I none (by omega) (fun _ _ _ => rfl) (fun m hm q hq hh => by omega)
  refine v_iconst (v := nI 0) dX12_layPlan_76 (by decide) ?_
  refine v_istore_4 rfl dX12_layPlan_77 ?_
  refine l_lpB hR hr hd hx (fun J x4 x5 jx hw hb => ?_) 64 0 J _ (by omega) jx hw (fun m hm q hq hh => by omega)
  refine v_iload_3 dX12_layPlan_105 ?_
  refine v_iconst (v := nI 1) dX12_layPlan_106 (by decide) ?_
  refine v_isub dX12_layPlan_107 ?_
  rw [nI_dn2]
  refine v_istore_4 rfl dX12_layPlan_108 ?_
  refine l_lpD hR hr hd hx (fun J x4 x5 x6 x7 x8 jx hw hb => ?_) (F 2) J _ _ _ _ (by omega) jx hw hb
  refine v_aload_0 dX12_layPlan_287 ?_
  refine u_getR dX12_layPlan_288 gf_X12_44 (by first | assumption | rfl | exact led_1 (by assumption) | exact led_2 (by assumption) | exact bk_m (by assumption) (by first | assumption | omega) | exact bk_p (by assumption) (by first | assumption | omega) | exact bk_o (by assumption) (by first | assumption | omega) | exact bk_s (by assumption) (by first | assumption | omega) | exact bk_1 (by assumption) | exact bk_2 (by assumption) | exact bk_3 (by assumption) | exact bk_4 (by assumption) | exact bk_5 (by assumption) | exact bk_6 (by assumption) | exact bk_7 (by assumption) | exact bk_8 (by assumption) | exact sh_ring _ (by first | assumption | omega) | exact sh_imgs _ (by first | assumption | omega)) (ro_X12_26 (by assumption)) ?_
  refine v_iconst (v := nI 0) dX12_layPlan_291 (by decide) ?_
  refine u_iald dX12_layPlan_292 (by first | assumption | rfl | exact led_1 (by assumption) | exact led_2 (by assumption) | exact bk_m (by assumption) (by first | assumption | omega) | exact bk_p (by assumption) (by first | assumption | omega) | exact bk_o (by assumption) (by first | assumption | omega) | exact bk_s (by assumption) (by first | assumption | omega) | exact bk_1 (by assumption) | exact bk_2 (by assumption) | exact bk_3 (by assumption) | exact bk_4 (by assumption) | exact bk_5 (by assumption) | exact bk_6 (by assumption) | exact bk_7 (by assumption) | exact bk_8 (by assumption) | exact sh_ring _ (by first | assumption | omega) | exact sh_imgs _ (by first | assumption | omega)) (by first | with_reducible rfl | (simp only [nlit, nI_add, pk_mul]; with_reducible rfl) | rfl) (by first | assumption | omega) (by first | assumption | decide) ?_
  rw [show J 168 0 = zI (bzr F d x (F 2) 0) from hb 0 (Nat.zero_le _) 0 (by decide)]
  refine v_iret dX12_layPlan_293 rfl rfl rfl rfl ?_
  exact hQ J jx hw hb
end
