section
variable {b : Nat} {ad : Nat → Nat} {I : HI} {L : HL} {R : HR} {Q : QT} {a B n d m s : Nat} {F : bkF} {g : lends} {br : Nat → Nat}
def PlK (J : HI) (F : bkF) (d k : Nat) : Prop :=
  (∀ m, m < k → J 146 m = zI (balz F m none d)) ∧ (∀ m, m < k → ∀ p, p < F 3 → fitF F m p = true → J 147 (m * 6 + p) = zI (balz F m (some p) d)) ∧ (∀ m, m < k → J 148 m = nI (hlp F d m))
theorem ufl_n {x lo hi q : Nat} {v : Int32} (h : q ≠ x) : ufl I x lo hi v q = I q := by simp [ufl, h]
theorem ufl_in {x lo hi j : Nat} {v : Int32} (h1 : lo ≤ j) (h2 : j < hi) : ufl I x lo hi v x j = v := by simp [ufl, h1, h2]
theorem c_X5_weigh (hR : RO R) (hB : SH B = .inl 0) (hF : BkI I B F) (hO : FOK F) (hd : d < 2 ^ 31) (hQ : ∀ J, PlI J F d → PbI J F d 0 → (∀ x, x ≠ 146 → x ≠ 147 → x ≠ 148 → x ≠ 149 → J x = I x) → Q none SH J L (ur R 145 0 (some B))) : KK 5 mX5_weigh b ad [.ref (b + 145), .ref (b + B), .int (nI d)] I L R Q := by
  obtain ⟨k0, k1, k2, k3, k4, k5, k6, -⟩ := id hO
  refine K.of (M := mX5_weigh) (lv := [some (.ref (b + 145)), some (.ref (b + B)), some (.int (nI d)), none, none]) (by decide) (Nat.le_of_ble_eq_true rfl) rfl ?_
  refine v_aload_0 dX5_weigh_0 ?_
  refine v_aload_1 dX5_weigh_1 ?_
  refine u_putR dX5_weigh_2 gf_X5_24 (by first | assumption | rfl | exact led_1 (by assumption) | exact led_2 (by assumption) | exact bk_m (by assumption) (by first | assumption | omega) | exact bk_p (by assumption) (by first | assumption | omega) | exact bk_o (by assumption) (by first | assumption | omega) | exact bk_s (by assumption) (by first | assumption | omega) | exact bk_1 (by assumption) | exact bk_2 (by assumption) | exact bk_3 (by assumption) | exact bk_4 (by assumption) | exact bk_5 (by assumption) | exact bk_6 (by assumption) | exact bk_7 (by assumption) | exact bk_8 (by assumption) | exact sh_ring _ (by first | assumption | omega) | exact sh_imgs _ (by first | assumption | omega)) (fun _ => rfl) (fun _ => rfl) rfl ?_
  refine v_iconst (v := nI 0) dX5_weigh_5 (by decide) ?_
  refine v_istore_3 rfl dX5_weigh_6 ?_
  have hb : (ur R 145 0 (some B)) 145 0 = some B := by simp [ur, va_up]
  have hR := RO.up hR (a := 145) (k := 0) (v := some B) (by omega)
  have hF0 := hF
  have inner : ∀ (k : Nat), k < F 2 → ∀ (j s : Nat) (J : HI), s + j = 64 → PlI J F d → PbI J F d (k + 1) → (∀ t, t < s → J 149 (k * 64 + t) = zI (bzc F d (F 2 - k) t)) → (∀ x, x ≠ 146 → x ≠ 147 → x ≠ 148 → x ≠ 149 → J x = I x) → (∀ (J2 : HI) {z : Option Value}, PlI J2 F d → PbI J2 F d k → (∀ x, x ≠ 146 → x ≠ 147 → x ≠ 148 → x ≠ 149 → J2 x = I x) → VV yX5_weigh cX5_weigh 5 none 5 Q b ad 70 [some (.ref (b + 145)), some (.ref (b + B)), some (.int (nI d)), some (.int (zI ((k : Int) + -1))), z] [] J2 L (ur R 145 0 (some B))) → VV yX5_weigh cX5_weigh 5 none 5 Q b ad 77 [some (.ref (b + 145)), some (.ref (b + B)), some (.int (nI d)), some (.int (nI k)), some (.int (nI s))] [] J L (ur R 145 0 (some B)) := by
    intro k hkF j
    induction j with
    | zero =>
      intro s J hij hP hT hrow hfr hk
      refine v_iload_4 dX5_weigh_77 ?_
      refine v_bipush (v := nI 64) dX5_weigh_79 (by decide) ?_
      refine v_icmp_ge (tgt := 109) dX5_weigh_81 (by decide) (fun hc81 => ?_) (fun hc81 => ?_)
      · (try rw [nI_leI (by omega) (by omega)] at hc81)
        refine v_iinc_3 (v := -1) rfl dX5_weigh_109 (by decide) ?_
        refine v_goto (tgt := 70) dX5_weigh_112 (by decide) ?_
        have e : s = 64 := by omega
        subst e
        rw [zI_nat k, show (-1 : Int32) = zI (-1) from rfl, zI_add]
        refine hk J hP (fun m2 h1 h2 s hs => ?_) hfr
        by_cases e : m2 = k
        · subst e; exact hrow s hs
        · exact hT m2 (by omega) h2 s hs
      · (try rw [nI_leI (by omega) (by omega)] at hc81)
        exfalso; omega
    | succ j ih =>
      intro s J hij hP hT hrow hfr hk
      have ih := fun s J h1 h2 h3 h4 h5 => ih s J h1 h2 h3 h4 h5 hk
      have hF := BkI.fr hB hF0 hO (J := J) (fun x hx => hfr x (by omega) (by omega) (by omega) (by omega))
      refine v_iload_4 dX5_weigh_77 ?_
      refine v_bipush (v := nI 64) dX5_weigh_79 (by decide) ?_
      refine v_icmp_ge (tgt := 109) dX5_weigh_81 (by decide) (fun hc81 => ?_) (fun hc81 => ?_)
      · (try rw [nI_leI (by omega) (by omega)] at hc81)
        exfalso; omega
      · (try rw [nI_leI (by omega) (by omega)] at hc81)
        refine v_aload_0 dX5_weigh_84 ?_
        refine u_getR dX5_weigh_85 gf_X5_21 (by first | assumption | rfl | exact led_1 (by assumption) | exact led_2 (by assumption) | exact bk_m (by assumption) (by first | assumption | omega) | exact bk_p (by assumption) (by first | assumption | omega) | exact bk_o (by assumption) (by first | assumption | omega) | exact bk_s (by assumption) (by first | assumption | omega) | exact bk_1 (by assumption) | exact bk_2 (by assumption) | exact bk_3 (by assumption) | exact bk_4 (by assumption) | exact bk_5 (by assumption) | exact bk_6 (by assumption) | exact bk_7 (by assumption) | exact bk_8 (by assumption) | exact sh_ring _ (by first | assumption | omega) | exact sh_imgs _ (by first | assumption | omega)) (ro_X5_4 (by assumption)) ?_
        refine v_iload_3 dX5_weigh_88 ?_
        refine v_bipush (v := nI 64) dX5_weigh_89 (by decide) ?_
        refine v_imul dX5_weigh_91 ?_
        refine v_iload_4 dX5_weigh_92 ?_
        refine v_iadd dX5_weigh_94 ?_
        refine v_aload_0 dX5_weigh_95 ?_
        refine v_iload_3 dX5_weigh_96 ?_
        refine v_iload_4 dX5_weigh_97 ?_
        refine u_callV_2 dX5_weigh_99 ml_X5_44 mv_X5_mostFrom (by first | assumption | rfl | exact led_1 (by assumption) | exact led_2 (by assumption) | exact bk_m (by assumption) (by first | assumption | omega) | exact bk_p (by assumption) (by first | assumption | omega) | exact bk_o (by assumption) (by first | assumption | omega) | exact bk_s (by assumption) (by first | assumption | omega) | exact bk_1 (by assumption) | exact bk_2 (by assumption) | exact bk_3 (by assumption) | exact bk_4 (by assumption) | exact bk_5 (by assumption) | exact bk_6 (by assumption) | exact bk_7 (by assumption) | exact bk_8 (by assumption) | exact sh_ring _ (by first | assumption | omega) | exact sh_imgs _ (by first | assumption | omega)) (by decide) rfl (by decide) (Nat.le_of_ble_eq_true rfl) (c_X5_mostFrom hR hB hb hF hO hP (fun m2 h1 h2 => hT m2 (by omega) h2) (by omega) (by omega) ?_)
        refine u_iast dX5_weigh_102 (by first | assumption | rfl | exact led_1 (by assumption) | exact led_2 (by assumption) | exact bk_m (by assumption) (by first | assumption | omega) | exact bk_p (by assumption) (by first | assumption | omega) | exact bk_o (by assumption) (by first | assumption | omega) | exact bk_s (by assumption) (by first | assumption | omega) | exact bk_1 (by assumption) | exact bk_2 (by assumption) | exact bk_3 (by assumption) | exact bk_4 (by assumption) | exact bk_5 (by assumption) | exact bk_6 (by assumption) | exact bk_7 (by assumption) | exact bk_8 (by assumption) | exact sh_ring _ (by first | assumption | omega) | exact sh_imgs _ (by first | assumption | omega)) (by first | with_reducible rfl | (simp only [nlit, nI_add, pk_mul]; with_reducible rfl) | rfl) (by first | assumption | omega) (by first | assumption | decide) ?_
        refine v_iinc_4 (v := 1) rfl dX5_weigh_103 (by decide) ?_
        refine v_goto (tgt := 77) dX5_weigh_106 (by decide) ?_
        rw [← nI_succ]
        refine ih (s + 1) _ (by omega) ⟨fun m2 hm2 => by rw [ui_ne (by decide)]; exact hP.1 m2 hm2, fun m2 hm2 p hp hf => by rw [ui_ne (by decide)]; exact hP.2.1 m2 hm2 p hp hf, fun m2 hm2 => by rw [ui_ne (by decide)]; exact hP.2.2 m2 hm2⟩ (fun m2 h1 h2 t ht => by rw [ui_o (by omega)]; exact hT m2 h1 h2 t ht) (fun t ht => ?_) (fun x x1 x2 x3 x4 => by rw [ui_ne x4]; exact hfr x x1 x2 x3 x4)
        by_cases e : t = s
        · subst e; rw [ui_s]
        · rw [ui_o (by omega)]; exact hrow t (by omega)
  have outer : ∀ (k : Nat) (J : HI) {z : Option Value}, k ≤ F 2 → PlI J F d → PbI J F d k → (∀ x, x ≠ 146 → x ≠ 147 → x ≠ 148 → x ≠ 149 → J x = I x) → VV yX5_weigh cX5_weigh 5 none 5 Q b ad 70 [some (.ref (b + 145)), some (.ref (b + B)), some (.int (nI d)), some (.int (zI ((k : Int) - 1))), z] [] J L (ur R 145 0 (some B)) := by
    intro k
    induction k with
    | zero =>
      intro J z hkF hP hT hfr
      refine v_iload_3 dX5_weigh_70 ?_
      refine v_if_lt (tgt := 115) dX5_weigh_71 (by decide) (fun hc71 => ?_) (fun hc71 => ?_)
      · (first | rw [show (0 : Int32) = nI 0 from rfl, nI_ltI (by omega) (by omega)] at hc71 | rw [show (0 : Int32) = nI 0 from rfl, nI_leI (by omega) (by omega)] at hc71 | skip)
        refine v_vret dX5_weigh_115 rfl rfl rfl rfl ?_
        exact hQ J hP hT hfr
      · (first | rw [show (0 : Int32) = nI 0 from rfl, nI_ltI (by omega) (by omega)] at hc71 | rw [show (0 : Int32) = nI 0 from rfl, nI_leI (by omega) (by omega)] at hc71 | skip)
        exact absurd (by decide) hc71
    | succ k ih =>
      intro J z hkF hP hT hfr
      rw [show ((k + 1 : Nat) : Int) - 1 = (k : Int) by omega]
      refine v_iload_3 dX5_weigh_70 ?_
      refine v_if_lt (tgt := 115) dX5_weigh_71 (by decide) (fun hc71 => ?_) (fun hc71 => ?_)
      · (first | rw [show (0 : Int32) = nI 0 from rfl, nI_ltI (by omega) (by omega)] at hc71 | rw [show (0 : Int32) = nI 0 from rfl, nI_leI (by omega) (by omega)] at hc71 | skip)
        exfalso; exact absurd hc71 (by rw [← zI_nat]; exact nI_pos (by omega))
      · (first | rw [show (0 : Int32) = nI 0 from rfl, nI_ltI (by omega) (by omega)] at hc71 | rw [show (0 : Int32) = nI 0 from rfl, nI_leI (by omega) (by omega)] at hc71 | skip)
        refine v_iconst (v := nI 0) dX5_weigh_74 (by decide) ?_
        refine v_istore_4 rfl dX5_weigh_75 ?_
        rw [← zI_nat]
        exact inner k (by omega) 64 0 J (by omega) hP (fun m2 h1 h2 => hT m2 (by omega) h2) (fun t ht => by omega) hfr (fun J2 {_} hP2 hT2 hfr2 => ih J2 (by omega) hP2 hT2 hfr2)
  have mid : ∀ (J : HI) {z3 z4 : Option Value}, PlK J F d (F 2) → (∀ x, x ≠ 146 → x ≠ 147 → x ≠ 148 → J x = I x) → VV yX5_weigh cX5_weigh 5 none 5 Q b ad 30 [some (.ref (b + 145)), some (.ref (b + B)), some (.int (nI d)), z3, z4] [] J L (ur R 145 0 (some B)) := by
    intro J z3 z4 hK hfr
    have hF := BkI.fr hB hF0 hO (J := J) (fun x hx => hfr x (by omega) (by omega) (by omega))
    refine v_aload_0 dX5_weigh_30 ?_
    refine u_getR dX5_weigh_31 gf_X5_21 (by first | assumption | rfl | exact led_1 (by assumption) | exact led_2 (by assumption) | exact bk_m (by assumption) (by first | assumption | omega) | exact bk_p (by assumption) (by first | assumption | omega) | exact bk_o (by assumption) (by first | assumption | omega) | exact bk_s (by assumption) (by first | assumption | omega) | exact bk_1 (by assumption) | exact bk_2 (by assumption) | exact bk_3 (by assumption) | exact bk_4 (by assumption) | exact bk_5 (by assumption) | exact bk_6 (by assumption) | exact bk_7 (by assumption) | exact bk_8 (by assumption) | exact sh_ring _ (by first | assumption | omega) | exact sh_imgs _ (by first | assumption | omega)) (ro_X5_4 (by assumption)) ?_
    refine v_aload_0 dX5_weigh_34 ?_
    refine u_getR dX5_weigh_35 gf_X5_24 (by first | assumption | rfl | exact led_1 (by assumption) | exact led_2 (by assumption) | exact bk_m (by assumption) (by first | assumption | omega) | exact bk_p (by assumption) (by first | assumption | omega) | exact bk_o (by assumption) (by first | assumption | omega) | exact bk_s (by assumption) (by first | assumption | omega) | exact bk_1 (by assumption) | exact bk_2 (by assumption) | exact bk_3 (by assumption) | exact bk_4 (by assumption) | exact bk_5 (by assumption) | exact bk_6 (by assumption) | exact bk_7 (by assumption) | exact bk_8 (by assumption) | exact sh_ring _ (by first | assumption | omega) | exact sh_imgs _ (by first | assumption | omega)) (by assumption) ?_
    refine u_getI dX5_weigh_38 gf_X5_28 (by first | assumption | rfl | exact led_1 (by assumption) | exact led_2 (by assumption) | exact bk_m (by assumption) (by first | assumption | omega) | exact bk_p (by assumption) (by first | assumption | omega) | exact bk_o (by assumption) (by first | assumption | omega) | exact bk_s (by assumption) (by first | assumption | omega) | exact bk_1 (by assumption) | exact bk_2 (by assumption) | exact bk_3 (by assumption) | exact bk_4 (by assumption) | exact bk_5 (by assumption) | exact bk_6 (by assumption) | exact bk_7 (by assumption) | exact bk_8 (by assumption) | exact sh_ring _ (by first | assumption | omega) | exact sh_imgs _ (by first | assumption | omega)) ?_
    (try rw [bx2 hF])
    refine v_bipush (v := nI 64) dX5_weigh_41 (by decide) ?_
    refine v_imul dX5_weigh_43 ?_
    simp only [pk_mul]
    refine v_aload_0 dX5_weigh_44 ?_
    refine u_getR dX5_weigh_45 gf_X5_24 (by first | assumption | rfl | exact led_1 (by assumption) | exact led_2 (by assumption) | exact bk_m (by assumption) (by first | assumption | omega) | exact bk_p (by assumption) (by first | assumption | omega) | exact bk_o (by assumption) (by first | assumption | omega) | exact bk_s (by assumption) (by first | assumption | omega) | exact bk_1 (by assumption) | exact bk_2 (by assumption) | exact bk_3 (by assumption) | exact bk_4 (by assumption) | exact bk_5 (by assumption) | exact bk_6 (by assumption) | exact bk_7 (by assumption) | exact bk_8 (by assumption) | exact sh_ring _ (by first | assumption | omega) | exact sh_imgs _ (by first | assumption | omega)) (by assumption) ?_
    refine u_getI dX5_weigh_48 gf_X5_28 (by first | assumption | rfl | exact led_1 (by assumption) | exact led_2 (by assumption) | exact bk_m (by assumption) (by first | assumption | omega) | exact bk_p (by assumption) (by first | assumption | omega) | exact bk_o (by assumption) (by first | assumption | omega) | exact bk_s (by assumption) (by first | assumption | omega) | exact bk_1 (by assumption) | exact bk_2 (by assumption) | exact bk_3 (by assumption) | exact bk_4 (by assumption) | exact bk_5 (by assumption) | exact bk_6 (by assumption) | exact bk_7 (by assumption) | exact bk_8 (by assumption) | exact sh_ring _ (by first | assumption | omega) | exact sh_imgs _ (by first | assumption | omega)) ?_
    (try rw [bx2 hF])
    refine v_iconst (v := nI 1) dX5_weigh_51 (by decide) ?_
    refine v_iadd dX5_weigh_52 ?_
    simp only [nI_add]
    refine v_bipush (v := nI 64) dX5_weigh_53 (by decide) ?_
    refine v_imul dX5_weigh_55 ?_
    simp only [pk_mul]
    refine v_iconst (v := nI 0) dX5_weigh_56 (by decide) ?_
    refine u_callS_4 dX5_weigh_57 ml_X5_38 ms_J7_fill_fda19 (by decide) (Nat.le_of_ble_eq_true rfl) (c_fillr (x := 149) (len := 448) rfl (by omega) (by omega) (by decide) ?_)
    have hF := BkI.fr hB hF hO (J := ufl J 149 (F 2 * 64) ((F 2 + 1) * 64) (nI 0)) (fun x hx => by rw [ufl_n (by omega)])
    refine v_aload_0 dX5_weigh_60 ?_
    refine u_getR dX5_weigh_61 gf_X5_24 (by first | assumption | rfl | exact led_1 (by assumption) | exact led_2 (by assumption) | exact bk_m (by assumption) (by first | assumption | omega) | exact bk_p (by assumption) (by first | assumption | omega) | exact bk_o (by assumption) (by first | assumption | omega) | exact bk_s (by assumption) (by first | assumption | omega) | exact bk_1 (by assumption) | exact bk_2 (by assumption) | exact bk_3 (by assumption) | exact bk_4 (by assumption) | exact bk_5 (by assumption) | exact bk_6 (by assumption) | exact bk_7 (by assumption) | exact bk_8 (by assumption) | exact sh_ring _ (by first | assumption | omega) | exact sh_imgs _ (by first | assumption | omega)) (by assumption) ?_
    refine u_getI dX5_weigh_64 gf_X5_28 (by first | assumption | rfl | exact led_1 (by assumption) | exact led_2 (by assumption) | exact bk_m (by assumption) (by first | assumption | omega) | exact bk_p (by assumption) (by first | assumption | omega) | exact bk_o (by assumption) (by first | assumption | omega) | exact bk_s (by assumption) (by first | assumption | omega) | exact bk_1 (by assumption) | exact bk_2 (by assumption) | exact bk_3 (by assumption) | exact bk_4 (by assumption) | exact bk_5 (by assumption) | exact bk_6 (by assumption) | exact bk_7 (by assumption) | exact bk_8 (by assumption) | exact sh_ring _ (by first | assumption | omega) | exact sh_imgs _ (by first | assumption | omega)) ?_
    (try rw [bx2 hF])
    refine v_iconst (v := nI 1) dX5_weigh_67 (by decide) ?_
    refine v_isub dX5_weigh_68 ?_
    refine v_istore_3 rfl dX5_weigh_69 ?_
    rw [zI_nat (F 2), zI_nat 1, zI_sub]
    refine outer (F 2) _ (by omega) ⟨fun m2 hm2 => ?_, fun m2 hm2 p hp hf => ?_, fun m2 hm2 => ?_⟩ (fun m2 h1 h2 s hs => ?_) (fun x x1 x2 x3 x4 => by rw [ufl_n x4]; exact hfr x x1 x2 x3)
    · rw [ufl_n (by decide)]; exact hK.1 m2 hm2
    · rw [ufl_n (by decide)]; exact hK.2.1 m2 hm2 p hp hf
    · rw [ufl_n (by decide)]; exact hK.2.2 m2 hm2
    · have e : m2 = F 2 := by omega
      subst e
      rw [Nat.sub_self, ufl_in (by omega) (by omega)]; rfl
  have loop : ∀ (j k : Nat) (J : HI), k + j = F 2 → PlK J F d k → (∀ x, x ≠ 146 → x ≠ 147 → x ≠ 148 → J x = I x) → VV yX5_weigh cX5_weigh 5 none 5 Q b ad 7 [some (.ref (b + 145)), some (.ref (b + B)), some (.int (nI d)), some (.int (nI k)), none] [] J L (ur R 145 0 (some B)) := by
    intro j
    induction j with
    | zero =>
      intro k J hij hK hfr
      have hF := BkI.fr hB hF0 hO (J := J) (fun x hx => hfr x (by omega) (by omega) (by omega))
      refine v_iload_3 dX5_weigh_7 ?_
      refine v_aload_0 dX5_weigh_8 ?_
      refine u_getR dX5_weigh_9 gf_X5_24 (by first | assumption | rfl | exact led_1 (by assumption) | exact led_2 (by assumption) | exact bk_m (by assumption) (by first | assumption | omega) | exact bk_p (by assumption) (by first | assumption | omega) | exact bk_o (by assumption) (by first | assumption | omega) | exact bk_s (by assumption) (by first | assumption | omega) | exact bk_1 (by assumption) | exact bk_2 (by assumption) | exact bk_3 (by assumption) | exact bk_4 (by assumption) | exact bk_5 (by assumption) | exact bk_6 (by assumption) | exact bk_7 (by assumption) | exact bk_8 (by assumption) | exact sh_ring _ (by first | assumption | omega) | exact sh_imgs _ (by first | assumption | omega)) (by assumption) ?_
      refine u_getI dX5_weigh_12 gf_X5_28 (by first | assumption | rfl | exact led_1 (by assumption) | exact led_2 (by assumption) | exact bk_m (by assumption) (by first | assumption | omega) | exact bk_p (by assumption) (by first | assumption | omega) | exact bk_o (by assumption) (by first | assumption | omega) | exact bk_s (by assumption) (by first | assumption | omega) | exact bk_1 (by assumption) | exact bk_2 (by assumption) | exact bk_3 (by assumption) | exact bk_4 (by assumption) | exact bk_5 (by assumption) | exact bk_6 (by assumption) | exact bk_7 (by assumption) | exact bk_8 (by assumption) | exact sh_ring _ (by first | assumption | omega) | exact sh_imgs _ (by first | assumption | omega)) ?_
      (try rw [bx2 hF])
      refine v_icmp_ge (tgt := 30) dX5_weigh_15 (by decide) (fun hc15 => ?_) (fun hc15 => ?_)
      · (try rw [nI_leI (by omega) (by omega)] at hc15)
        have e : k = F 2 := by omega
        subst e
        exact mid J hK hfr
      · (try rw [nI_leI (by omega) (by omega)] at hc15)
        exfalso; omega
    | succ j ih =>
      intro k J hij hK hfr
      have hF := BkI.fr hB hF0 hO (J := J) (fun x hx => hfr x (by omega) (by omega) (by omega))
      refine v_iload_3 dX5_weigh_7 ?_
      refine v_aload_0 dX5_weigh_8 ?_
      refine u_getR dX5_weigh_9 gf_X5_24 (by first | assumption | rfl | exact led_1 (by assumption) | exact led_2 (by assumption) | exact bk_m (by assumption) (by first | assumption | omega) | exact bk_p (by assumption) (by first | assumption | omega) | exact bk_o (by assumption) (by first | assumption | omega) | exact bk_s (by assumption) (by first | assumption | omega) | exact bk_1 (by assumption) | exact bk_2 (by assumption) | exact bk_3 (by assumption) | exact bk_4 (by assumption) | exact bk_5 (by assumption) | exact bk_6 (by assumption) | exact bk_7 (by assumption) | exact bk_8 (by assumption) | exact sh_ring _ (by first | assumption | omega) | exact sh_imgs _ (by first | assumption | omega)) (by assumption) ?_
      refine u_getI dX5_weigh_12 gf_X5_28 (by first | assumption | rfl | exact led_1 (by assumption) | exact led_2 (by assumption) | exact bk_m (by assumption) (by first | assumption | omega) | exact bk_p (by assumption) (by first | assumption | omega) | exact bk_o (by assumption) (by first | assumption | omega) | exact bk_s (by assumption) (by first | assumption | omega) | exact bk_1 (by assumption) | exact bk_2 (by assumption) | exact bk_3 (by assumption) | exact bk_4 (by assumption) | exact bk_5 (by assumption) | exact bk_6 (by assumption) | exact bk_7 (by assumption) | exact bk_8 (by assumption) | exact sh_ring _ (by first | assumption | omega) | exact sh_imgs _ (by first | assumption | omega)) ?_
      (try rw [bx2 hF])
      refine v_icmp_ge (tgt := 30) dX5_weigh_15 (by decide) (fun hc15 => ?_) (fun hc15 => ?_)
      · (try rw [nI_leI (by omega) (by omega)] at hc15)
        exfalso; omega
      · (try rw [nI_leI (by omega) (by omega)] at hc15)
        refine v_aload_0 dX5_weigh_18 ?_
        refine v_iload_3 dX5_weigh_19 ?_
        refine v_iload_2 dX5_weigh_20 ?_
        refine u_callV_2 dX5_weigh_21 ml_X5_34 mv_X5_weighMask (by first | assumption | rfl | exact led_1 (by assumption) | exact led_2 (by assumption) | exact bk_m (by assumption) (by first | assumption | omega) | exact bk_p (by assumption) (by first | assumption | omega) | exact bk_o (by assumption) (by first | assumption | omega) | exact bk_s (by assumption) (by first | assumption | omega) | exact bk_1 (by assumption) | exact bk_2 (by assumption) | exact bk_3 (by assumption) | exact bk_4 (by assumption) | exact bk_5 (by assumption) | exact bk_6 (by assumption) | exact bk_7 (by assumption) | exact bk_8 (by assumption) | exact sh_ring _ (by first | assumption | omega) | exact sh_imgs _ (by first | assumption | omega)) (by decide) rfl (by decide) (Nat.le_of_ble_eq_true rfl) (c_X5_weighMask hR hB hb hF hO (by omega) hd (fun J2 hJ2 => ?_))
        refine v_iinc_3 (v := 1) rfl dX5_weigh_24 (by decide) ?_
        refine v_goto (tgt := 7) dX5_weigh_27 (by decide) ?_
        rw [← nI_succ]
        obtain ⟨w1, w2, w3, w4, w5, w6⟩ := hJ2
        refine ih (k + 1) J2 (by omega) ⟨fun m2 hm2 => ?_, fun m2 hm2 p hp hf => ?_, fun m2 hm2 => ?_⟩ (fun x x1 x2 x3 => (w4 x x1 x2 x3).trans (hfr x x1 x2 x3))
        · by_cases e : m2 = k
          · subst e; exact w1
          · rw [(w5 m2 e).1]; exact hK.1 m2 (by omega)
        · by_cases e : m2 = k
          · subst e; exact w2 p hp hf
          · rw [w6 _ (by omega)]; exact hK.2.1 m2 (by omega) p hp hf
        · by_cases e : m2 = k
          · subst e; exact w3
          · rw [(w5 m2 e).2]; exact hK.2.2 m2 (by omega)
  exact loop (F 2) 0 I (by omega) ⟨fun m2 h => by omega, fun m2 h => by omega, fun m2 h => by omega⟩ (fun x _ _ _ => rfl)
end
