def Ar (R : HR) (x o n : Nat) : Prop := ∀ j, j < n → R x j = some (o + j)
theorem Ar.put {R : HR} {x o n : Nat} (h : Ar R x o n) : Ar (ur R x n (some (o + n))) x o (n + 1) := fun j hj => by
  by_cases e : j = n
  · subst e; exact ur_s
  · rw [ur_o e]; exact h j (by omega)
theorem Ar.ne {R : HR} {x o n a k : Nat} {v : Option Nat} (h : Ar R x o n) (hx : x ≠ a) : Ar (ur R a k v) x o n := fun j hj => by rw [ur_ne hx]; exact h j hj
theorem Ar.zero {R : HR} {x o : Nat} : Ar R x o 0 := fun j hj => absurd hj (Nat.not_lt_zero j)
def BkF (R : HR) (a : Nat) : Prop := (R a 7 = some (a + 1) ∧ R a 8 = some (a + 2) ∧ R a 9 = some (a + 3) ∧ R a 10 = some (a + 4) ∧ R a 11 = some (a + 5) ∧ R a 12 = some (a + 6) ∧ R a 13 = some (a + 7) ∧ R a 14 = some (a + 8)) ∧ R (a + 8) 1 = some (a + 9) ∧ R (a + 8) 2 = some (a + 10)
theorem BkF.ne {R : HR} {a x k : Nat} {v : Option Nat} (h : BkF R a) (h1 : a ≠ x) (h2 : a + 8 ≠ x) : BkF (ur R x k v) a := by
  unfold BkF
  rw [ur_ne h1, ur_ne h2]
  exact h
def BkR (R : HR) (a i1 i2 i3 i4 : Nat) : Prop := BkF R a ∧ Ar R (a + 1) (a + 11) i1 ∧ Ar R (a + 2) (a + 17) i2 ∧ Ar R (a + 3) (a + 23) i3 ∧ Ar R (a + 4) (a + 35) i4
section
variable {b : Nat} {ad : Nat → Nat} {I : HI} {L : HL} {R : HR} {Q : QT} {a N : Nat}
theorem c_X0_init (ha : SH a = .inl 0) (hz : Zr (a + 1) I L R) (hQ : ∀ R' : HR, (∀ q, q < a → R' q = R q) → BkR R' a 6 6 12 8 → Zr (a + 43) I L R' → Q none SH I L R') : CA 2 yX0_init cX0_init 2 42 245 b ad [.ref (b + a)] (a + 1) I L R Q := by
  have l3 : ∀ (j i : Nat) (R1 : HR), i + j = 8 → (∀ q, q < a → R1 q = R q) → BkR R1 a 6 6 12 i → Zr (a + 35 + i) I L R1 → VG yX0_init cX0_init 2 none (rmo 2 42 245) (PA b (a + 1 + 42) Q 42 245) b ad true (34 + i) (205 + 5 * i) 158 [some (.ref (b + a)), some (.int (nI i))] [] (a + 35 + i) SH I L R1 := by
    intro j
    induction j with
    | zero =>
      intro i R1 hi hf hB hz
      have ei : i = 8 := by omega
      subst ei
      refine g_iload_1 dX0_init_158 ?_
      refine g_bipush (v := nI 8) dX0_init_159 (by decide) ?_
      refine g_icmp_ge (tgt := 183) dX0_init_161 (by decide) (fun hc161 => ?_) (fun hc161 => ?_)
      · refine g_vretA dX0_init_183 rfl rfl rfl ?_
        exact hQ R1 hf hB hz
      · exact absurd (nI_le (by omega) (by omega)) hc161
    | succ j ih =>
      intro i R1 hi hf hB hz
      have h7 := hB.1.1.2.2.2.1
      refine g_iload_1 dX0_init_158 ?_
      refine g_bipush (v := nI 8) dX0_init_159 (by decide) ?_
      refine g_icmp_ge (tgt := 183) dX0_init_161 (by decide) (fun hc161 => ?_) (fun hc161 => ?_)
      · exact absurd hc161 (nI_ge (by omega) (by omega))
      · refine g_aload_0 dX0_init_164 ?_
        refine g_getR dX0_init_165 gf_X0_31 (by first | assumption | rfl | exact bk_1 (by assumption) | exact bk_2 (by assumption) | exact bk_3 (by assumption) | exact bk_4 (by assumption) | exact bk_5 (by assumption) | exact bk_6 (by assumption) | exact bk_7 (by assumption) | exact bk_8 (by assumption) | exact bk_m (by assumption) (by omega) | exact bk_p (by assumption) (by omega) | exact bk_o (by assumption) (by omega) | exact bk_s (by assumption) (by omega) | exact led_1 (by assumption) | exact led_2 (by assumption) | exact sh_ring _ (by omega) | exact sh_imgs _ (by omega)) (by first | decide | omega) (by assumption) ?_
        refine g_iload_1 dX0_init_168 ?_
        refine ng_new (c := 8) (nf := 5) dX0_init_169 (by decide) (uu (i := 156) (by decide +kernel) rfl) (uu (i := 266) (by decide +kernel) rfl) (uu (i := 117) (by decide +kernel) rfl) (by first | assumption | rfl | exact bk_1 (by assumption) | exact bk_2 (by assumption) | exact bk_3 (by assumption) | exact bk_4 (by assumption) | exact bk_5 (by assumption) | exact bk_6 (by assumption) | exact bk_7 (by assumption) | exact bk_8 (by assumption) | exact bk_m (by assumption) (by omega) | exact bk_p (by assumption) (by omega) | exact bk_o (by assumption) (by omega) | exact bk_s (by assumption) (by omega) | exact led_1 (by assumption) | exact led_2 (by assumption) | exact sh_ring _ (by omega) | exact sh_imgs _ (by omega)) (by repeat (first | exact Zr.mono (by assumption) (by first | decide | omega) | refine Zr.ur ?_ (by first | decide | omega) | refine Zr.ul ?_ (by first | decide | omega) | refine Zr.ui ?_ (by first | decide | omega))) (by first | decide | (show _ ≤ 42; omega)) (by first | decide | (show _ ≤ 245; omega)) ?_
        refine g_dup dX0_init_172 rfl ?_
        refine g_callN dX0_init_173 ml_X0_55 mi_X8_init (by decide) (by decide) (by first | decide | (show _ ≤ 42; omega)) (by first | decide | (show _ ≤ 245; omega)) (Nat.le_of_ble_eq_true rfl) (fun h => h) (c_X8_init ?_)
        refine g_aast (t := 7) (c := 8) dX0_init_176 (by first | assumption | rfl | exact bk_1 (by assumption) | exact bk_2 (by assumption) | exact bk_3 (by assumption) | exact bk_4 (by assumption) | exact bk_5 (by assumption) | exact bk_6 (by assumption) | exact bk_7 (by assumption) | exact bk_8 (by assumption) | exact bk_m (by assumption) (by omega) | exact bk_p (by assumption) (by omega) | exact bk_o (by assumption) (by omega) | exact bk_s (by assumption) (by omega) | exact led_1 (by assumption) | exact led_2 (by assumption) | exact sh_ring _ (by omega) | exact sh_imgs _ (by omega)) (by first | decide | omega) (by decide) (by decide) (by first | assumption | rfl | exact bk_1 (by assumption) | exact bk_2 (by assumption) | exact bk_3 (by assumption) | exact bk_4 (by assumption) | exact bk_5 (by assumption) | exact bk_6 (by assumption) | exact bk_7 (by assumption) | exact bk_8 (by assumption) | exact bk_m (by assumption) (by omega) | exact bk_p (by assumption) (by omega) | exact bk_o (by assumption) (by omega) | exact bk_s (by assumption) (by omega) | exact led_1 (by assumption) | exact led_2 (by assumption) | exact sh_ring _ (by omega) | exact sh_imgs _ (by omega)) (by first | decide | omega) (by decide) rfl (vp_in_nI (by omega) (by decide)) ?_
        rw [nI_clamp (by omega)]
        refine g_iinc_1 (v := 1) rfl dX0_init_177 (by decide) ?_
        rw [show nI i + 1 = nI (i + 1) from nI_1 i]
        refine g_goto (tgt := 158) dX0_init_180 (by decide) ?_
        have q := ih (i + 1) _ (by omega) (fun q hq => (ur_ne (by omega)).trans (hf q hq)) ⟨hB.1.ne (by omega) (by omega), hB.2.1.ne (by omega), hB.2.2.1.ne (by omega), hB.2.2.2.1.ne (by omega), hB.2.2.2.2.put⟩ (Zr.ur (Zr.up hz) (by omega))
        rw [show 205 + 5 * (i + 1) = 205 + 5 * i + 5 by omega] at q
        exact q
  have l2 : ∀ (j i : Nat) (R1 : HR), i + j = 12 → (∀ q, q < a → R1 q = R q) → BkR R1 a 6 6 i 0 → Zr (a + 23 + i) I L R1 → VG yX0_init cX0_init 2 none (rmo 2 42 245) (PA b (a + 1 + 42) Q 42 245) b ad true (22 + i) (133 + 6 * i) 131 [some (.ref (b + a)), some (.int (nI i))] [] (a + 23 + i) SH I L R1 := by
    intro j
    induction j with
    | zero =>
      intro i R1 hi hf hB hz
      have ei : i = 12 := by omega
      subst ei
      refine g_iload_1 dX0_init_131 ?_
      refine g_bipush (v := nI 12) dX0_init_132 (by decide) ?_
      refine g_icmp_ge (tgt := 156) dX0_init_134 (by decide) (fun hc134 => ?_) (fun hc134 => ?_)
      · refine g_iconst (v := nI 0) dX0_init_156 (by decide) ?_
        refine g_istore_1 rfl dX0_init_157 ?_
        exact l3 8 0 R1 (by omega) hf hB hz
      · exact absurd (nI_le (by omega) (by omega)) hc134
    | succ j ih =>
      intro i R1 hi hf hB hz
      have h7 := hB.1.1.2.2.1
      refine g_iload_1 dX0_init_131 ?_
      refine g_bipush (v := nI 12) dX0_init_132 (by decide) ?_
      refine g_icmp_ge (tgt := 156) dX0_init_134 (by decide) (fun hc134 => ?_) (fun hc134 => ?_)
      · exact absurd hc134 (nI_ge (by omega) (by omega))
      · refine g_aload_0 dX0_init_137 ?_
        refine g_getR dX0_init_138 gf_X0_25 (by first | assumption | rfl | exact bk_1 (by assumption) | exact bk_2 (by assumption) | exact bk_3 (by assumption) | exact bk_4 (by assumption) | exact bk_5 (by assumption) | exact bk_6 (by assumption) | exact bk_7 (by assumption) | exact bk_8 (by assumption) | exact bk_m (by assumption) (by omega) | exact bk_p (by assumption) (by omega) | exact bk_o (by assumption) (by omega) | exact bk_s (by assumption) (by omega) | exact led_1 (by assumption) | exact led_2 (by assumption) | exact sh_ring _ (by omega) | exact sh_imgs _ (by omega)) (by first | decide | omega) (by assumption) ?_
        refine g_iload_1 dX0_init_141 ?_
        refine ng_new (c := 6) (nf := 6) dX0_init_142 (by decide) (uu (i := 154) (by decide +kernel) rfl) (uu (i := 232) (by decide +kernel) rfl) (uu (i := 116) (by decide +kernel) rfl) (by first | assumption | rfl | exact bk_1 (by assumption) | exact bk_2 (by assumption) | exact bk_3 (by assumption) | exact bk_4 (by assumption) | exact bk_5 (by assumption) | exact bk_6 (by assumption) | exact bk_7 (by assumption) | exact bk_8 (by assumption) | exact bk_m (by assumption) (by omega) | exact bk_p (by assumption) (by omega) | exact bk_o (by assumption) (by omega) | exact bk_s (by assumption) (by omega) | exact led_1 (by assumption) | exact led_2 (by assumption) | exact sh_ring _ (by omega) | exact sh_imgs _ (by omega)) (by repeat (first | exact Zr.mono (by assumption) (by first | decide | omega) | refine Zr.ur ?_ (by first | decide | omega) | refine Zr.ul ?_ (by first | decide | omega) | refine Zr.ui ?_ (by first | decide | omega))) (by first | decide | (show _ ≤ 42; omega)) (by first | decide | (show _ ≤ 245; omega)) ?_
        refine g_dup dX0_init_145 rfl ?_
        refine g_callN dX0_init_146 ml_X0_54 mi_X6_init (by decide) (by decide) (by first | decide | (show _ ≤ 42; omega)) (by first | decide | (show _ ≤ 245; omega)) (Nat.le_of_ble_eq_true rfl) (fun h => h) (c_X6_init ?_)
        refine g_aast (t := 6) (c := 6) dX0_init_149 (by first | assumption | rfl | exact bk_1 (by assumption) | exact bk_2 (by assumption) | exact bk_3 (by assumption) | exact bk_4 (by assumption) | exact bk_5 (by assumption) | exact bk_6 (by assumption) | exact bk_7 (by assumption) | exact bk_8 (by assumption) | exact bk_m (by assumption) (by omega) | exact bk_p (by assumption) (by omega) | exact bk_o (by assumption) (by omega) | exact bk_s (by assumption) (by omega) | exact led_1 (by assumption) | exact led_2 (by assumption) | exact sh_ring _ (by omega) | exact sh_imgs _ (by omega)) (by first | decide | omega) (by decide) (by decide) (by first | assumption | rfl | exact bk_1 (by assumption) | exact bk_2 (by assumption) | exact bk_3 (by assumption) | exact bk_4 (by assumption) | exact bk_5 (by assumption) | exact bk_6 (by assumption) | exact bk_7 (by assumption) | exact bk_8 (by assumption) | exact bk_m (by assumption) (by omega) | exact bk_p (by assumption) (by omega) | exact bk_o (by assumption) (by omega) | exact bk_s (by assumption) (by omega) | exact led_1 (by assumption) | exact led_2 (by assumption) | exact sh_ring _ (by omega) | exact sh_imgs _ (by omega)) (by first | decide | omega) (by decide) rfl (vp_in_nI (by omega) (by decide)) ?_
        rw [nI_clamp (by omega)]
        refine g_iinc_1 (v := 1) rfl dX0_init_150 (by decide) ?_
        rw [show nI i + 1 = nI (i + 1) from nI_1 i]
        refine g_goto (tgt := 131) dX0_init_153 (by decide) ?_
        have q := ih (i + 1) _ (by omega) (fun q hq => (ur_ne (by omega)).trans (hf q hq)) ⟨hB.1.ne (by omega) (by omega), hB.2.1.ne (by omega), hB.2.2.1.ne (by omega), hB.2.2.2.1.put, hB.2.2.2.2.ne (by omega)⟩ (Zr.ur (Zr.up hz) (by omega))
        rw [show 133 + 6 * (i + 1) = 133 + 6 * i + 6 by omega] at q
        exact q
  have l1 : ∀ (j i : Nat) (R1 : HR), i + j = 6 → (∀ q, q < a → R1 q = R q) → BkR R1 a 6 i 0 0 → Zr (a + 17 + i) I L R1 → VG yX0_init cX0_init 2 none (rmo 2 42 245) (PA b (a + 1 + 42) Q 42 245) b ad true (16 + i) (103 + 5 * i) 104 [some (.ref (b + a)), some (.int (nI i))] [] (a + 17 + i) SH I L R1 := by
    intro j
    induction j with
    | zero =>
      intro i R1 hi hf hB hz
      have ei : i = 6 := by omega
      subst ei
      refine g_iload_1 dX0_init_104 ?_
      refine g_bipush (v := nI 6) dX0_init_105 (by decide) ?_
      refine g_icmp_ge (tgt := 129) dX0_init_107 (by decide) (fun hc107 => ?_) (fun hc107 => ?_)
      · refine g_iconst (v := nI 0) dX0_init_129 (by decide) ?_
        refine g_istore_1 rfl dX0_init_130 ?_
        exact l2 12 0 R1 (by omega) hf hB hz
      · exact absurd (nI_le (by omega) (by omega)) hc107
    | succ j ih =>
      intro i R1 hi hf hB hz
      have h7 := hB.1.1.2.1
      refine g_iload_1 dX0_init_104 ?_
      refine g_bipush (v := nI 6) dX0_init_105 (by decide) ?_
      refine g_icmp_ge (tgt := 129) dX0_init_107 (by decide) (fun hc107 => ?_) (fun hc107 => ?_)
      · exact absurd hc107 (nI_ge (by omega) (by omega))
      · refine g_aload_0 dX0_init_110 ?_
        refine g_getR dX0_init_111 gf_X0_19 (by first | assumption | rfl | exact bk_1 (by assumption) | exact bk_2 (by assumption) | exact bk_3 (by assumption) | exact bk_4 (by assumption) | exact bk_5 (by assumption) | exact bk_6 (by assumption) | exact bk_7 (by assumption) | exact bk_8 (by assumption) | exact bk_m (by assumption) (by omega) | exact bk_p (by assumption) (by omega) | exact bk_o (by assumption) (by omega) | exact bk_s (by assumption) (by omega) | exact led_1 (by assumption) | exact led_2 (by assumption) | exact sh_ring _ (by omega) | exact sh_imgs _ (by omega)) (by first | decide | omega) (by assumption) ?_
        refine g_iload_1 dX0_init_114 ?_
        refine ng_new (c := 4) (nf := 5) dX0_init_115 (by decide) (uu (i := 152) (by decide +kernel) rfl) (uu (i := 199) (by decide +kernel) rfl) (uu (i := 115) (by decide +kernel) rfl) (by first | assumption | rfl | exact bk_1 (by assumption) | exact bk_2 (by assumption) | exact bk_3 (by assumption) | exact bk_4 (by assumption) | exact bk_5 (by assumption) | exact bk_6 (by assumption) | exact bk_7 (by assumption) | exact bk_8 (by assumption) | exact bk_m (by assumption) (by omega) | exact bk_p (by assumption) (by omega) | exact bk_o (by assumption) (by omega) | exact bk_s (by assumption) (by omega) | exact led_1 (by assumption) | exact led_2 (by assumption) | exact sh_ring _ (by omega) | exact sh_imgs _ (by omega)) (by repeat (first | exact Zr.mono (by assumption) (by first | decide | omega) | refine Zr.ur ?_ (by first | decide | omega) | refine Zr.ul ?_ (by first | decide | omega) | refine Zr.ui ?_ (by first | decide | omega))) (by first | decide | (show _ ≤ 42; omega)) (by first | decide | (show _ ≤ 245; omega)) ?_
        refine g_dup dX0_init_118 rfl ?_
        refine g_callN dX0_init_119 ml_X0_53 mi_X4_init (by decide) (by decide) (by first | decide | (show _ ≤ 42; omega)) (by first | decide | (show _ ≤ 245; omega)) (Nat.le_of_ble_eq_true rfl) (fun h => h) (c_X4_init ?_)
        refine g_aast (t := 5) (c := 4) dX0_init_122 (by first | assumption | rfl | exact bk_1 (by assumption) | exact bk_2 (by assumption) | exact bk_3 (by assumption) | exact bk_4 (by assumption) | exact bk_5 (by assumption) | exact bk_6 (by assumption) | exact bk_7 (by assumption) | exact bk_8 (by assumption) | exact bk_m (by assumption) (by omega) | exact bk_p (by assumption) (by omega) | exact bk_o (by assumption) (by omega) | exact bk_s (by assumption) (by omega) | exact led_1 (by assumption) | exact led_2 (by assumption) | exact sh_ring _ (by omega) | exact sh_imgs _ (by omega)) (by first | decide | omega) (by decide) (by decide) (by first | assumption | rfl | exact bk_1 (by assumption) | exact bk_2 (by assumption) | exact bk_3 (by assumption) | exact bk_4 (by assumption) | exact bk_5 (by assumption) | exact bk_6 (by assumption) | exact bk_7 (by assumption) | exact bk_8 (by assumption) | exact bk_m (by assumption) (by omega) | exact bk_p (by assumption) (by omega) | exact bk_o (by assumption) (by omega) | exact bk_s (by assumption) (by omega) | exact led_1 (by assumption) | exact led_2 (by assumption) | exact sh_ring _ (by omega) | exact sh_imgs _ (by omega)) (by first | decide | omega) (by decide) rfl (vp_in_nI (by omega) (by decide)) ?_
        rw [nI_clamp (by omega)]
        refine g_iinc_1 (v := 1) rfl dX0_init_123 (by decide) ?_
        rw [show nI i + 1 = nI (i + 1) from nI_1 i]
        refine g_goto (tgt := 104) dX0_init_126 (by decide) ?_
        have q := ih (i + 1) _ (by omega) (fun q hq => (ur_ne (by omega)).trans (hf q hq)) ⟨hB.1.ne (by omega) (by omega), hB.2.1.ne (by omega), hB.2.2.1.put, hB.2.2.2.1.ne (by omega), hB.2.2.2.2.ne (by omega)⟩ (Zr.ur (Zr.up hz) (by omega))
        rw [show 103 + 5 * (i + 1) = 103 + 5 * i + 5 by omega] at q
        exact q
  have l0 : ∀ (j i : Nat) (R1 : HR), i + j = 6 → (∀ q, q < a → R1 q = R q) → BkR R1 a i 0 0 0 → Zr (a + 11 + i) I L R1 → VG yX0_init cX0_init 2 none (rmo 2 42 245) (PA b (a + 1 + 42) Q 42 245) b ad true (10 + i) (85 + 3 * i) 77 [some (.ref (b + a)), some (.int (nI i))] [] (a + 11 + i) SH I L R1 := by
    intro j
    induction j with
    | zero =>
      intro i R1 hi hf hB hz
      have ei : i = 6 := by omega
      subst ei
      refine g_iload_1 dX0_init_77 ?_
      refine g_bipush (v := nI 6) dX0_init_78 (by decide) ?_
      refine g_icmp_ge (tgt := 102) dX0_init_80 (by decide) (fun hc80 => ?_) (fun hc80 => ?_)
      · refine g_iconst (v := nI 0) dX0_init_102 (by decide) ?_
        refine g_istore_1 rfl dX0_init_103 ?_
        exact l1 6 0 R1 (by omega) hf hB hz
      · exact absurd (nI_le (by omega) (by omega)) hc80
    | succ j ih =>
      intro i R1 hi hf hB hz
      have h7 := hB.1.1.1
      refine g_iload_1 dX0_init_77 ?_
      refine g_bipush (v := nI 6) dX0_init_78 (by decide) ?_
      refine g_icmp_ge (tgt := 102) dX0_init_80 (by decide) (fun hc80 => ?_) (fun hc80 => ?_)
      · exact absurd hc80 (nI_ge (by omega) (by omega))
      · refine g_aload_0 dX0_init_83 ?_
        refine g_getR dX0_init_84 gf_X0_11 (by first | assumption | rfl | exact bk_1 (by assumption) | exact bk_2 (by assumption) | exact bk_3 (by assumption) | exact bk_4 (by assumption) | exact bk_5 (by assumption) | exact bk_6 (by assumption) | exact bk_7 (by assumption) | exact bk_8 (by assumption) | exact bk_m (by assumption) (by omega) | exact bk_p (by assumption) (by omega) | exact bk_o (by assumption) (by omega) | exact bk_s (by assumption) (by omega) | exact led_1 (by assumption) | exact led_2 (by assumption) | exact sh_ring _ (by omega) | exact sh_imgs _ (by omega)) (by first | decide | omega) (by assumption) ?_
        refine g_iload_1 dX0_init_87 ?_
        refine ng_new (c := 3) (nf := 3) dX0_init_88 (by decide) (uu (i := 150) (by decide +kernel) rfl) (uu (i := 178) (by decide +kernel) rfl) (uu (i := 114) (by decide +kernel) rfl) (by first | assumption | rfl | exact bk_1 (by assumption) | exact bk_2 (by assumption) | exact bk_3 (by assumption) | exact bk_4 (by assumption) | exact bk_5 (by assumption) | exact bk_6 (by assumption) | exact bk_7 (by assumption) | exact bk_8 (by assumption) | exact bk_m (by assumption) (by omega) | exact bk_p (by assumption) (by omega) | exact bk_o (by assumption) (by omega) | exact bk_s (by assumption) (by omega) | exact led_1 (by assumption) | exact led_2 (by assumption) | exact sh_ring _ (by omega) | exact sh_imgs _ (by omega)) (by repeat (first | exact Zr.mono (by assumption) (by first | decide | omega) | refine Zr.ur ?_ (by first | decide | omega) | refine Zr.ul ?_ (by first | decide | omega) | refine Zr.ui ?_ (by first | decide | omega))) (by first | decide | (show _ ≤ 42; omega)) (by first | decide | (show _ ≤ 245; omega)) ?_
        refine g_dup dX0_init_91 rfl ?_
        refine g_callN dX0_init_92 ml_X0_52 mi_X3_init (by decide) (by decide) (by first | decide | (show _ ≤ 42; omega)) (by first | decide | (show _ ≤ 245; omega)) (Nat.le_of_ble_eq_true rfl) (fun h => h) (c_X3_init ?_)
        refine g_aast (t := 4) (c := 3) dX0_init_95 (by first | assumption | rfl | exact bk_1 (by assumption) | exact bk_2 (by assumption) | exact bk_3 (by assumption) | exact bk_4 (by assumption) | exact bk_5 (by assumption) | exact bk_6 (by assumption) | exact bk_7 (by assumption) | exact bk_8 (by assumption) | exact bk_m (by assumption) (by omega) | exact bk_p (by assumption) (by omega) | exact bk_o (by assumption) (by omega) | exact bk_s (by assumption) (by omega) | exact led_1 (by assumption) | exact led_2 (by assumption) | exact sh_ring _ (by omega) | exact sh_imgs _ (by omega)) (by first | decide | omega) (by decide) (by decide) (by first | assumption | rfl | exact bk_1 (by assumption) | exact bk_2 (by assumption) | exact bk_3 (by assumption) | exact bk_4 (by assumption) | exact bk_5 (by assumption) | exact bk_6 (by assumption) | exact bk_7 (by assumption) | exact bk_8 (by assumption) | exact bk_m (by assumption) (by omega) | exact bk_p (by assumption) (by omega) | exact bk_o (by assumption) (by omega) | exact bk_s (by assumption) (by omega) | exact led_1 (by assumption) | exact led_2 (by assumption) | exact sh_ring _ (by omega) | exact sh_imgs _ (by omega)) (by first | decide | omega) (by decide) rfl (vp_in_nI (by omega) (by decide)) ?_
        rw [nI_clamp (by omega)]
        refine g_iinc_1 (v := 1) rfl dX0_init_96 (by decide) ?_
        rw [show nI i + 1 = nI (i + 1) from nI_1 i]
        refine g_goto (tgt := 77) dX0_init_99 (by decide) ?_
        have q := ih (i + 1) _ (by omega) (fun q hq => (ur_ne (by omega)).trans (hf q hq)) ⟨hB.1.ne (by omega) (by omega), hB.2.1.put, hB.2.2.1.ne (by omega), hB.2.2.2.1.ne (by omega), hB.2.2.2.2.ne (by omega)⟩ (Zr.ur (Zr.up hz) (by omega))
        rw [show 85 + 3 * (i + 1) = 85 + 3 * i + 3 by omega] at q
        exact q
  refine CA.of (lv := [some (.ref (b + a)), none]) (by decide) (Nat.le_of_ble_eq_true rfl) rfl ?_
  refine g_aload_0 dX0_init_0 ?_
  refine g_objI dX0_init_1 (uu (i := 149) (by decide +kernel) rfl) (uu (i := 142) (by decide +kernel) rfl) (uu (i := 143) (by decide +kernel) rfl) (by decide) (by decide) (Nat.le_of_ble_eq_true rfl) ?_
  refine g_aload_0 dX0_init_4 ?_
  refine g_bipush (v := nI 6) dX0_init_5 (by decide) ?_
  refine ng_newq (t := 4) (c := 3) (len := 6) PA.need (by decide) dX0_init_7 (by decide) (by decide) rfl (uu (i := 150) (by decide +kernel) rfl) (by decide) (by decide) (by decide) (by first | assumption | rfl | exact bk_1 (by assumption) | exact bk_2 (by assumption) | exact bk_3 (by assumption) | exact bk_4 (by assumption) | exact bk_5 (by assumption) | exact bk_6 (by assumption) | exact bk_7 (by assumption) | exact bk_8 (by assumption) | exact bk_m (by assumption) (by omega) | exact bk_p (by assumption) (by omega) | exact bk_o (by assumption) (by omega) | exact bk_s (by assumption) (by omega) | exact led_1 (by assumption) | exact led_2 (by assumption) | exact sh_ring _ (by omega) | exact sh_imgs _ (by omega)) (by repeat (first | exact Zr.mono (by assumption) (by first | decide | omega) | refine Zr.ur ?_ (by first | decide | omega) | refine Zr.ul ?_ (by first | decide | omega) | refine Zr.ui ?_ (by first | decide | omega))) (by first | decide | (show _ ≤ 42; omega)) (by first | decide | (show _ ≤ 245; omega)) ?_
  refine g_putR dX0_init_10 gf_X0_11 (by first | assumption | rfl | exact bk_1 (by assumption) | exact bk_2 (by assumption) | exact bk_3 (by assumption) | exact bk_4 (by assumption) | exact bk_5 (by assumption) | exact bk_6 (by assumption) | exact bk_7 (by assumption) | exact bk_8 (by assumption) | exact bk_m (by assumption) (by omega) | exact bk_p (by assumption) (by omega) | exact bk_o (by assumption) (by omega) | exact bk_s (by assumption) (by omega) | exact led_1 (by assumption) | exact led_2 (by assumption) | exact sh_ring _ (by omega) | exact sh_imgs _ (by omega)) (by first | decide | omega) rfl rfl (by first | exact Or.inl rfl | exact Or.inr ⟨rfl, rfl, rfl⟩) ?_
  refine g_aload_0 dX0_init_13 ?_
  refine g_bipush (v := nI 6) dX0_init_14 (by decide) ?_
  refine ng_newq (t := 5) (c := 4) (len := 6) PA.need (by decide) dX0_init_16 (by decide) (by decide) rfl (uu (i := 152) (by decide +kernel) rfl) (by decide) (by decide) (by decide) (by first | assumption | rfl | exact bk_1 (by assumption) | exact bk_2 (by assumption) | exact bk_3 (by assumption) | exact bk_4 (by assumption) | exact bk_5 (by assumption) | exact bk_6 (by assumption) | exact bk_7 (by assumption) | exact bk_8 (by assumption) | exact bk_m (by assumption) (by omega) | exact bk_p (by assumption) (by omega) | exact bk_o (by assumption) (by omega) | exact bk_s (by assumption) (by omega) | exact led_1 (by assumption) | exact led_2 (by assumption) | exact sh_ring _ (by omega) | exact sh_imgs _ (by omega)) (by repeat (first | exact Zr.mono (by assumption) (by first | decide | omega) | refine Zr.ur ?_ (by first | decide | omega) | refine Zr.ul ?_ (by first | decide | omega) | refine Zr.ui ?_ (by first | decide | omega))) (by first | decide | (show _ ≤ 42; omega)) (by first | decide | (show _ ≤ 245; omega)) ?_
  refine g_putR dX0_init_19 gf_X0_19 (by first | assumption | rfl | exact bk_1 (by assumption) | exact bk_2 (by assumption) | exact bk_3 (by assumption) | exact bk_4 (by assumption) | exact bk_5 (by assumption) | exact bk_6 (by assumption) | exact bk_7 (by assumption) | exact bk_8 (by assumption) | exact bk_m (by assumption) (by omega) | exact bk_p (by assumption) (by omega) | exact bk_o (by assumption) (by omega) | exact bk_s (by assumption) (by omega) | exact led_1 (by assumption) | exact led_2 (by assumption) | exact sh_ring _ (by omega) | exact sh_imgs _ (by omega)) (by first | decide | omega) rfl rfl (by first | exact Or.inl rfl | exact Or.inr ⟨rfl, rfl, rfl⟩) ?_
  refine g_aload_0 dX0_init_22 ?_
  refine g_bipush (v := nI 12) dX0_init_23 (by decide) ?_
  refine ng_newq (t := 6) (c := 6) (len := 12) PA.need (by decide) dX0_init_25 (by decide) (by decide) rfl (uu (i := 154) (by decide +kernel) rfl) (by decide) (by decide) (by decide) (by first | assumption | rfl | exact bk_1 (by assumption) | exact bk_2 (by assumption) | exact bk_3 (by assumption) | exact bk_4 (by assumption) | exact bk_5 (by assumption) | exact bk_6 (by assumption) | exact bk_7 (by assumption) | exact bk_8 (by assumption) | exact bk_m (by assumption) (by omega) | exact bk_p (by assumption) (by omega) | exact bk_o (by assumption) (by omega) | exact bk_s (by assumption) (by omega) | exact led_1 (by assumption) | exact led_2 (by assumption) | exact sh_ring _ (by omega) | exact sh_imgs _ (by omega)) (by repeat (first | exact Zr.mono (by assumption) (by first | decide | omega) | refine Zr.ur ?_ (by first | decide | omega) | refine Zr.ul ?_ (by first | decide | omega) | refine Zr.ui ?_ (by first | decide | omega))) (by first | decide | (show _ ≤ 42; omega)) (by first | decide | (show _ ≤ 245; omega)) ?_
  refine g_putR dX0_init_28 gf_X0_25 (by first | assumption | rfl | exact bk_1 (by assumption) | exact bk_2 (by assumption) | exact bk_3 (by assumption) | exact bk_4 (by assumption) | exact bk_5 (by assumption) | exact bk_6 (by assumption) | exact bk_7 (by assumption) | exact bk_8 (by assumption) | exact bk_m (by assumption) (by omega) | exact bk_p (by assumption) (by omega) | exact bk_o (by assumption) (by omega) | exact bk_s (by assumption) (by omega) | exact led_1 (by assumption) | exact led_2 (by assumption) | exact sh_ring _ (by omega) | exact sh_imgs _ (by omega)) (by first | decide | omega) rfl rfl (by first | exact Or.inl rfl | exact Or.inr ⟨rfl, rfl, rfl⟩) ?_
  refine g_aload_0 dX0_init_31 ?_
  refine g_bipush (v := nI 8) dX0_init_32 (by decide) ?_
  refine ng_newq (t := 7) (c := 8) (len := 8) PA.need (by decide) dX0_init_34 (by decide) (by decide) rfl (uu (i := 156) (by decide +kernel) rfl) (by decide) (by decide) (by decide) (by first | assumption | rfl | exact bk_1 (by assumption) | exact bk_2 (by assumption) | exact bk_3 (by assumption) | exact bk_4 (by assumption) | exact bk_5 (by assumption) | exact bk_6 (by assumption) | exact bk_7 (by assumption) | exact bk_8 (by assumption) | exact bk_m (by assumption) (by omega) | exact bk_p (by assumption) (by omega) | exact bk_o (by assumption) (by omega) | exact bk_s (by assumption) (by omega) | exact led_1 (by assumption) | exact led_2 (by assumption) | exact sh_ring _ (by omega) | exact sh_imgs _ (by omega)) (by repeat (first | exact Zr.mono (by assumption) (by first | decide | omega) | refine Zr.ur ?_ (by first | decide | omega) | refine Zr.ul ?_ (by first | decide | omega) | refine Zr.ui ?_ (by first | decide | omega))) (by first | decide | (show _ ≤ 42; omega)) (by first | decide | (show _ ≤ 245; omega)) ?_
  refine g_putR dX0_init_37 gf_X0_31 (by first | assumption | rfl | exact bk_1 (by assumption) | exact bk_2 (by assumption) | exact bk_3 (by assumption) | exact bk_4 (by assumption) | exact bk_5 (by assumption) | exact bk_6 (by assumption) | exact bk_7 (by assumption) | exact bk_8 (by assumption) | exact bk_m (by assumption) (by omega) | exact bk_p (by assumption) (by omega) | exact bk_o (by assumption) (by omega) | exact bk_s (by assumption) (by omega) | exact led_1 (by assumption) | exact led_2 (by assumption) | exact sh_ring _ (by omega) | exact sh_imgs _ (by omega)) (by first | decide | omega) rfl rfl (by first | exact Or.inl rfl | exact Or.inr ⟨rfl, rfl, rfl⟩) ?_
  refine g_aload_0 dX0_init_40 ?_
  refine g_bipush (v := nI 8) dX0_init_41 (by decide) ?_
  refine ng_newa (t := 0) (len := 8) dX0_init_43 rfl (by decide) rfl (uu (i := 177) (by decide +kernel) rfl) (by decide) (by decide) (by decide) (by first | assumption | rfl | exact bk_1 (by assumption) | exact bk_2 (by assumption) | exact bk_3 (by assumption) | exact bk_4 (by assumption) | exact bk_5 (by assumption) | exact bk_6 (by assumption) | exact bk_7 (by assumption) | exact bk_8 (by assumption) | exact bk_m (by assumption) (by omega) | exact bk_p (by assumption) (by omega) | exact bk_o (by assumption) (by omega) | exact bk_s (by assumption) (by omega) | exact led_1 (by assumption) | exact led_2 (by assumption) | exact sh_ring _ (by omega) | exact sh_imgs _ (by omega)) (by repeat (first | exact Zr.mono (by assumption) (by first | decide | omega) | refine Zr.ur ?_ (by first | decide | omega) | refine Zr.ul ?_ (by first | decide | omega) | refine Zr.ui ?_ (by first | decide | omega))) (by first | decide | (show _ ≤ 42; omega)) (by first | decide | (show _ ≤ 245; omega)) ?_
  refine g_putR dX0_init_45 gf_X0_35 (by first | assumption | rfl | exact bk_1 (by assumption) | exact bk_2 (by assumption) | exact bk_3 (by assumption) | exact bk_4 (by assumption) | exact bk_5 (by assumption) | exact bk_6 (by assumption) | exact bk_7 (by assumption) | exact bk_8 (by assumption) | exact bk_m (by assumption) (by omega) | exact bk_p (by assumption) (by omega) | exact bk_o (by assumption) (by omega) | exact bk_s (by assumption) (by omega) | exact led_1 (by assumption) | exact led_2 (by assumption) | exact sh_ring _ (by omega) | exact sh_imgs _ (by omega)) (by first | decide | omega) rfl rfl (by first | exact Or.inl rfl | exact Or.inr ⟨rfl, rfl, rfl⟩) ?_
  refine g_aload_0 dX0_init_48 ?_
  refine g_bipush (v := nI 8) dX0_init_49 (by decide) ?_
  refine ng_newa (t := 0) (len := 8) dX0_init_51 rfl (by decide) rfl (uu (i := 177) (by decide +kernel) rfl) (by decide) (by decide) (by decide) (by first | assumption | rfl | exact bk_1 (by assumption) | exact bk_2 (by assumption) | exact bk_3 (by assumption) | exact bk_4 (by assumption) | exact bk_5 (by assumption) | exact bk_6 (by assumption) | exact bk_7 (by assumption) | exact bk_8 (by assumption) | exact bk_m (by assumption) (by omega) | exact bk_p (by assumption) (by omega) | exact bk_o (by assumption) (by omega) | exact bk_s (by assumption) (by omega) | exact led_1 (by assumption) | exact led_2 (by assumption) | exact sh_ring _ (by omega) | exact sh_imgs _ (by omega)) (by repeat (first | exact Zr.mono (by assumption) (by first | decide | omega) | refine Zr.ur ?_ (by first | decide | omega) | refine Zr.ul ?_ (by first | decide | omega) | refine Zr.ui ?_ (by first | decide | omega))) (by first | decide | (show _ ≤ 42; omega)) (by first | decide | (show _ ≤ 245; omega)) ?_
  refine g_putR dX0_init_53 gf_X0_39 (by first | assumption | rfl | exact bk_1 (by assumption) | exact bk_2 (by assumption) | exact bk_3 (by assumption) | exact bk_4 (by assumption) | exact bk_5 (by assumption) | exact bk_6 (by assumption) | exact bk_7 (by assumption) | exact bk_8 (by assumption) | exact bk_m (by assumption) (by omega) | exact bk_p (by assumption) (by omega) | exact bk_o (by assumption) (by omega) | exact bk_s (by assumption) (by omega) | exact led_1 (by assumption) | exact led_2 (by assumption) | exact sh_ring _ (by omega) | exact sh_imgs _ (by omega)) (by first | decide | omega) rfl rfl (by first | exact Or.inl rfl | exact Or.inr ⟨rfl, rfl, rfl⟩) ?_
  refine g_aload_0 dX0_init_56 ?_
  refine g_bipush (v := nI 8) dX0_init_57 (by decide) ?_
  refine ng_newa (t := 0) (len := 8) dX0_init_59 rfl (by decide) rfl (uu (i := 177) (by decide +kernel) rfl) (by decide) (by decide) (by decide) (by first | assumption | rfl | exact bk_1 (by assumption) | exact bk_2 (by assumption) | exact bk_3 (by assumption) | exact bk_4 (by assumption) | exact bk_5 (by assumption) | exact bk_6 (by assumption) | exact bk_7 (by assumption) | exact bk_8 (by assumption) | exact bk_m (by assumption) (by omega) | exact bk_p (by assumption) (by omega) | exact bk_o (by assumption) (by omega) | exact bk_s (by assumption) (by omega) | exact led_1 (by assumption) | exact led_2 (by assumption) | exact sh_ring _ (by omega) | exact sh_imgs _ (by omega)) (by repeat (first | exact Zr.mono (by assumption) (by first | decide | omega) | refine Zr.ur ?_ (by first | decide | omega) | refine Zr.ul ?_ (by first | decide | omega) | refine Zr.ui ?_ (by first | decide | omega))) (by first | decide | (show _ ≤ 42; omega)) (by first | decide | (show _ ≤ 245; omega)) ?_
  refine g_putR dX0_init_61 gf_X0_42 (by first | assumption | rfl | exact bk_1 (by assumption) | exact bk_2 (by assumption) | exact bk_3 (by assumption) | exact bk_4 (by assumption) | exact bk_5 (by assumption) | exact bk_6 (by assumption) | exact bk_7 (by assumption) | exact bk_8 (by assumption) | exact bk_m (by assumption) (by omega) | exact bk_p (by assumption) (by omega) | exact bk_o (by assumption) (by omega) | exact bk_s (by assumption) (by omega) | exact led_1 (by assumption) | exact led_2 (by assumption) | exact sh_ring _ (by omega) | exact sh_imgs _ (by omega)) (by first | decide | omega) rfl rfl (by first | exact Or.inl rfl | exact Or.inr ⟨rfl, rfl, rfl⟩) ?_
  refine g_aload_0 dX0_init_64 ?_
  refine ng_new (c := 2) (nf := 3) dX0_init_65 (by decide) (uu (i := 158) (by decide +kernel) rfl) (uu (i := 159) (by decide +kernel) rfl) (uu (i := 113) (by decide +kernel) rfl) (by first | assumption | rfl | exact bk_1 (by assumption) | exact bk_2 (by assumption) | exact bk_3 (by assumption) | exact bk_4 (by assumption) | exact bk_5 (by assumption) | exact bk_6 (by assumption) | exact bk_7 (by assumption) | exact bk_8 (by assumption) | exact bk_m (by assumption) (by omega) | exact bk_p (by assumption) (by omega) | exact bk_o (by assumption) (by omega) | exact bk_s (by assumption) (by omega) | exact led_1 (by assumption) | exact led_2 (by assumption) | exact sh_ring _ (by omega) | exact sh_imgs _ (by omega)) (by repeat (first | exact Zr.mono (by assumption) (by first | decide | omega) | refine Zr.ur ?_ (by first | decide | omega) | refine Zr.ul ?_ (by first | decide | omega) | refine Zr.ui ?_ (by first | decide | omega))) (by first | decide | (show _ ≤ 42; omega)) (by first | decide | (show _ ≤ 245; omega)) ?_
  refine g_dup dX0_init_68 rfl ?_
  refine g_callN dX0_init_69 ml_X0_47 mi_X2_init (by decide) (by decide) (by first | decide | (show _ ≤ 42; omega)) (by first | decide | (show _ ≤ 245; omega)) (Nat.le_of_ble_eq_true rfl) (fun h => h) (c_X2_init (a := a + 8) (bk_8 ha) (by repeat (first | exact Zr.mono (by assumption) (by first | decide | omega) | refine Zr.ur ?_ (by first | decide | omega) | refine Zr.ul ?_ (by first | decide | omega) | refine Zr.ui ?_ (by first | decide | omega))) ?_)
  refine g_putR dX0_init_72 gf_X0_48 (by first | assumption | rfl | exact bk_1 (by assumption) | exact bk_2 (by assumption) | exact bk_3 (by assumption) | exact bk_4 (by assumption) | exact bk_5 (by assumption) | exact bk_6 (by assumption) | exact bk_7 (by assumption) | exact bk_8 (by assumption) | exact bk_m (by assumption) (by omega) | exact bk_p (by assumption) (by omega) | exact bk_o (by assumption) (by omega) | exact bk_s (by assumption) (by omega) | exact led_1 (by assumption) | exact led_2 (by assumption) | exact sh_ring _ (by omega) | exact sh_imgs _ (by omega)) (by first | decide | omega) rfl rfl (by first | exact Or.inl rfl | exact Or.inr ⟨rfl, rfl, rfl⟩) ?_
  refine g_iconst (v := nI 0) dX0_init_75 (by decide) ?_
  refine g_istore_1 rfl dX0_init_76 ?_
  exact l0 6 0 _ (by omega) (fun q hq => by simp only [ur_ne (show q ≠ a by omega), ur_ne (show q ≠ a + 8 by omega)]) ⟨⟨by simp [ur, va_up], by simp [ur, va_up], by simp [ur, va_up]⟩, Ar.zero, Ar.zero, Ar.zero, Ar.zero⟩ (by repeat (first | exact Zr.mono (by assumption) (by first | decide | omega) | refine Zr.ur ?_ (by first | decide | omega) | refine Zr.ul ?_ (by first | decide | omega) | refine Zr.ui ?_ (by first | decide | omega)))
end
def HiR (R : HR) (n k : Nat) : Prop := (R 94 0 = some 95 ∧ R 94 4 = some 96) ∧ (∀ i, i < n → R 95 i = some (97 + 3 * i) ∧ R (97 + 3 * i) 1 = some (97 + 3 * i + 1) ∧ R (97 + 3 * i) 2 = some (97 + 3 * i + 2)) ∧ ∀ i, i < k → R 96 i = some (136 + 3 * i) ∧ R (136 + 3 * i) 1 = some (136 + 3 * i + 1) ∧ R (136 + 3 * i) 2 = some (136 + 3 * i + 2)
theorem HiR.s1 {R : HR} {n : Nat} (h : HiR R n 0) (hn : n < 13) : HiR (ur (ur (ur R (97 + 3 * n) 1 (some (97 + 3 * n + 1))) (97 + 3 * n) 2 (some (97 + 3 * n + 2))) 95 n (some (97 + 3 * n))) (n + 1) 0 := by
  refine ⟨?_, fun i hi => ?_, fun i hi => absurd hi (Nat.not_lt_zero i)⟩
  · rw [ur_ne (by decide), ur_ne (by omega), ur_ne (by omega)]; exact h.1
  · rw [ur_ne (show 97 + 3 * i ≠ 95 by omega)]
    by_cases e : i = n
    · subst e; exact ⟨ur_s, by rw [ur_o (by decide), ur_s], ur_s⟩
    · rw [ur_o e, ur_ne (show 95 ≠ 97 + 3 * n by omega), ur_ne (show 95 ≠ 97 + 3 * n by omega), ur_ne (show 97 + 3 * i ≠ 97 + 3 * n by omega), ur_ne (show 97 + 3 * i ≠ 97 + 3 * n by omega)]
      exact h.2.1 i (by omega)
theorem HiR.s2 {R : HR} {n : Nat} (h : HiR R 13 n) (hn : n < 3) : HiR (ur (ur (ur R (136 + 3 * n) 1 (some (136 + 3 * n + 1))) (136 + 3 * n) 2 (some (136 + 3 * n + 2))) 96 n (some (136 + 3 * n))) 13 (n + 1) := by
  refine ⟨?_, fun i hi => ?_, fun i hi => ?_⟩
  · rw [ur_ne (by decide), ur_ne (by omega), ur_ne (by omega)]; exact h.1
  · rw [ur_ne (show 97 + 3 * i ≠ 96 by omega), ur_ne (show 95 ≠ 96 by decide), ur_ne (show 95 ≠ 136 + 3 * n by omega), ur_ne (show 95 ≠ 136 + 3 * n by omega), ur_ne (show 97 + 3 * i ≠ 136 + 3 * n by omega), ur_ne (show 97 + 3 * i ≠ 136 + 3 * n by omega)]
    exact h.2.1 i hi
  · rw [ur_ne (show 136 + 3 * i ≠ 96 by omega)]
    by_cases e : i = n
    · subst e; exact ⟨ur_s, by rw [ur_o (by decide), ur_s], ur_s⟩
    · rw [ur_o e, ur_ne (show 96 ≠ 136 + 3 * n by omega), ur_ne (show 96 ≠ 136 + 3 * n by omega), ur_ne (show 136 + 3 * i ≠ 136 + 3 * n by omega), ur_ne (show 136 + 3 * i ≠ 136 + 3 * n by omega)]
      exact h.2.2 i (by omega)
section
variable {b : Nat} {ad : Nat → Nat} {I : HI} {L : HL} {R : HR} {Q : QT} {a N : Nat}
theorem c_X1_init (hz : Zr 95 I L R) (hQ : ∀ R' : HR, (∀ q, q < 94 → R' q = R q) → HiR R' 13 3 → Zr 145 I L R' → Q none SH I L R') : CA 2 yX1_init cX1_init 2 50 480 b ad [.ref (b + 94)] 95 I L R Q := by
  have l1 : ∀ (j i : Nat) (R1 : HR), i + j = 3 → (∀ q, q < 94 → R1 q = R q) → HiR R1 13 i → Zr (136 + 3 * i) I L R1 → VG yX1_init cX1_init 2 none (rmo 2 50 480) (PA b (95 + 50) Q 50 480) b ad true (41 + 3 * i) (393 + 29 * i) 50 [some (.ref (b + 94)), some (.int (nI i))] [] (136 + 3 * i) SH I L R1 := by
    intro j
    induction j with
    | zero =>
      intro i R1 hi hf hB hz
      have ei : i = 3 := by omega
      subst ei
      refine g_iload_1 dX1_init_50 ?_
      refine g_iconst (v := nI 3) dX1_init_51 (by decide) ?_
      refine g_icmp_ge (tgt := 74) dX1_init_52 (by decide) (fun hc52 => ?_) (fun hc52 => ?_)
      · refine g_vretA dX1_init_74 rfl rfl rfl ?_
        exact hQ R1 hf hB hz
      · exact absurd (nI_le (by omega) (by omega)) hc52
    | succ j ih =>
      intro i R1 hi hf hB hz
      have h7 := hB.1.2
      refine g_iload_1 dX1_init_50 ?_
      refine g_iconst (v := nI 3) dX1_init_51 (by decide) ?_
      refine g_icmp_ge (tgt := 74) dX1_init_52 (by decide) (fun hc52 => ?_) (fun hc52 => ?_)
      · exact absurd hc52 (nI_ge (by omega) (by omega))
      · refine g_aload_0 dX1_init_55 ?_
        refine g_getR dX1_init_56 gf_X1_17 (by first | assumption | rfl | exact bk_1 (by assumption) | exact bk_2 (by assumption) | exact bk_3 (by assumption) | exact bk_4 (by assumption) | exact bk_5 (by assumption) | exact bk_6 (by assumption) | exact bk_7 (by assumption) | exact bk_8 (by assumption) | exact bk_m (by assumption) (by omega) | exact bk_p (by assumption) (by omega) | exact bk_o (by assumption) (by omega) | exact bk_s (by assumption) (by omega) | exact led_1 (by assumption) | exact led_2 (by assumption) | exact sh_ring _ (by omega) | exact sh_imgs _ (by omega)) (by first | decide | omega) (by assumption) ?_
        refine g_iload_1 dX1_init_59 ?_
        refine ng_new (c := 2) (nf := 3) dX1_init_60 (by decide) (uu (i := 530) (by decide +kernel) rfl) (uu (i := 159) (by decide +kernel) rfl) (uu (i := 113) (by decide +kernel) rfl) (by first | assumption | rfl | exact bk_1 (by assumption) | exact bk_2 (by assumption) | exact bk_3 (by assumption) | exact bk_4 (by assumption) | exact bk_5 (by assumption) | exact bk_6 (by assumption) | exact bk_7 (by assumption) | exact bk_8 (by assumption) | exact bk_m (by assumption) (by omega) | exact bk_p (by assumption) (by omega) | exact bk_o (by assumption) (by omega) | exact bk_s (by assumption) (by omega) | exact led_1 (by assumption) | exact led_2 (by assumption) | exact sh_ring _ (by omega) | exact sh_imgs _ (by omega)) (by repeat (first | exact Zr.mono (by assumption) (by first | decide | omega) | refine Zr.ur ?_ (by first | decide | omega) | refine Zr.ul ?_ (by first | decide | omega) | refine Zr.ui ?_ (by first | decide | omega))) (by first | decide | (show _ ≤ 50; omega)) (by first | decide | (show _ ≤ 480; omega)) ?_
        refine g_dup dX1_init_63 rfl ?_
        refine g_callN dX1_init_64 ml_X1_20 mi_X2_init (by decide) (by decide) (by first | decide | (show _ ≤ 50; omega)) (by first | decide | (show _ ≤ 480; omega)) (Nat.le_of_ble_eq_true rfl) (fun h => h) (c_X2_init (a := 136 + 3 * i) (by first | exact sh_ring _ (by omega) | exact sh_imgs _ (by omega)) (by repeat (first | exact Zr.mono (by assumption) (by first | decide | omega) | refine Zr.ur ?_ (by first | decide | omega) | refine Zr.ul ?_ (by first | decide | omega) | refine Zr.ui ?_ (by first | decide | omega))) ?_)
        refine g_aast (t := 8) (c := 2) dX1_init_67 (by first | assumption | rfl | exact bk_1 (by assumption) | exact bk_2 (by assumption) | exact bk_3 (by assumption) | exact bk_4 (by assumption) | exact bk_5 (by assumption) | exact bk_6 (by assumption) | exact bk_7 (by assumption) | exact bk_8 (by assumption) | exact bk_m (by assumption) (by omega) | exact bk_p (by assumption) (by omega) | exact bk_o (by assumption) (by omega) | exact bk_s (by assumption) (by omega) | exact led_1 (by assumption) | exact led_2 (by assumption) | exact sh_ring _ (by omega) | exact sh_imgs _ (by omega)) (by first | decide | omega) (by decide) (by decide) (by first | assumption | rfl | exact bk_1 (by assumption) | exact bk_2 (by assumption) | exact bk_3 (by assumption) | exact bk_4 (by assumption) | exact bk_5 (by assumption) | exact bk_6 (by assumption) | exact bk_7 (by assumption) | exact bk_8 (by assumption) | exact bk_m (by assumption) (by omega) | exact bk_p (by assumption) (by omega) | exact bk_o (by assumption) (by omega) | exact bk_s (by assumption) (by omega) | exact led_1 (by assumption) | exact led_2 (by assumption) | exact sh_ring _ (by omega) | exact sh_imgs _ (by omega)) (by first | decide | omega) (by decide) rfl (vp_in_nI (by omega) (by decide)) ?_
        rw [nI_clamp (by omega)]
        refine g_iinc_1 (v := 1) rfl dX1_init_68 (by decide) ?_
        rw [show nI i + 1 = nI (i + 1) from nI_1 i]
        refine g_goto (tgt := 50) dX1_init_71 (by decide) ?_
        have q := ih (i + 1) _ (by omega) (fun q hq => by rw [ur_ne (by omega), ur_ne (by omega), ur_ne (by omega)]; exact hf q hq) (hB.s2 (by omega)) (show Zr (136 + 3 * i + 3) I L _ from (by repeat (first | exact Zr.mono (by assumption) (by first | decide | omega) | refine Zr.ur ?_ (by first | decide | omega) | refine Zr.ul ?_ (by first | decide | omega) | refine Zr.ui ?_ (by first | decide | omega))))
        rw [show 393 + 29 * (i + 1) = 393 + 29 * i + 29 by omega] at q
        exact q
  have l0 : ∀ (j i : Nat) (R1 : HR), i + j = 13 → (∀ q, q < 94 → R1 q = R q) → HiR R1 i 0 → Zr (97 + 3 * i) I L R1 → VG yX1_init cX1_init 2 none (rmo 2 50 480) (PA b (95 + 50) Q 50 480) b ad true (2 + 3 * i) (16 + 29 * i) 23 [some (.ref (b + 94)), some (.int (nI i))] [] (97 + 3 * i) SH I L R1 := by
    intro j
    induction j with
    | zero =>
      intro i R1 hi hf hB hz
      have ei : i = 13 := by omega
      subst ei
      refine g_iload_1 dX1_init_23 ?_
      refine g_bipush (v := nI 13) dX1_init_24 (by decide) ?_
      refine g_icmp_ge (tgt := 48) dX1_init_26 (by decide) (fun hc26 => ?_) (fun hc26 => ?_)
      · refine g_iconst (v := nI 0) dX1_init_48 (by decide) ?_
        refine g_istore_1 rfl dX1_init_49 ?_
        exact l1 3 0 R1 (by omega) hf hB hz
      · exact absurd (nI_le (by omega) (by omega)) hc26
    | succ j ih =>
      intro i R1 hi hf hB hz
      have h7 := hB.1.1
      refine g_iload_1 dX1_init_23 ?_
      refine g_bipush (v := nI 13) dX1_init_24 (by decide) ?_
      refine g_icmp_ge (tgt := 48) dX1_init_26 (by decide) (fun hc26 => ?_) (fun hc26 => ?_)
      · exact absurd hc26 (nI_ge (by omega) (by omega))
      · refine g_aload_0 dX1_init_29 ?_
        refine g_getR dX1_init_30 gf_X1_13 (by first | assumption | rfl | exact bk_1 (by assumption) | exact bk_2 (by assumption) | exact bk_3 (by assumption) | exact bk_4 (by assumption) | exact bk_5 (by assumption) | exact bk_6 (by assumption) | exact bk_7 (by assumption) | exact bk_8 (by assumption) | exact bk_m (by assumption) (by omega) | exact bk_p (by assumption) (by omega) | exact bk_o (by assumption) (by omega) | exact bk_s (by assumption) (by omega) | exact led_1 (by assumption) | exact led_2 (by assumption) | exact sh_ring _ (by omega) | exact sh_imgs _ (by omega)) (by first | decide | omega) (by assumption) ?_
        refine g_iload_1 dX1_init_33 ?_
        refine ng_new (c := 2) (nf := 3) dX1_init_34 (by decide) (uu (i := 530) (by decide +kernel) rfl) (uu (i := 159) (by decide +kernel) rfl) (uu (i := 113) (by decide +kernel) rfl) (by first | assumption | rfl | exact bk_1 (by assumption) | exact bk_2 (by assumption) | exact bk_3 (by assumption) | exact bk_4 (by assumption) | exact bk_5 (by assumption) | exact bk_6 (by assumption) | exact bk_7 (by assumption) | exact bk_8 (by assumption) | exact bk_m (by assumption) (by omega) | exact bk_p (by assumption) (by omega) | exact bk_o (by assumption) (by omega) | exact bk_s (by assumption) (by omega) | exact led_1 (by assumption) | exact led_2 (by assumption) | exact sh_ring _ (by omega) | exact sh_imgs _ (by omega)) (by repeat (first | exact Zr.mono (by assumption) (by first | decide | omega) | refine Zr.ur ?_ (by first | decide | omega) | refine Zr.ul ?_ (by first | decide | omega) | refine Zr.ui ?_ (by first | decide | omega))) (by first | decide | (show _ ≤ 50; omega)) (by first | decide | (show _ ≤ 480; omega)) ?_
        refine g_dup dX1_init_37 rfl ?_
        refine g_callN dX1_init_38 ml_X1_20 mi_X2_init (by decide) (by decide) (by first | decide | (show _ ≤ 50; omega)) (by first | decide | (show _ ≤ 480; omega)) (Nat.le_of_ble_eq_true rfl) (fun h => h) (c_X2_init (a := 97 + 3 * i) (by first | exact sh_ring _ (by omega) | exact sh_imgs _ (by omega)) (by repeat (first | exact Zr.mono (by assumption) (by first | decide | omega) | refine Zr.ur ?_ (by first | decide | omega) | refine Zr.ul ?_ (by first | decide | omega) | refine Zr.ui ?_ (by first | decide | omega))) ?_)
        refine g_aast (t := 8) (c := 2) dX1_init_41 (by first | assumption | rfl | exact bk_1 (by assumption) | exact bk_2 (by assumption) | exact bk_3 (by assumption) | exact bk_4 (by assumption) | exact bk_5 (by assumption) | exact bk_6 (by assumption) | exact bk_7 (by assumption) | exact bk_8 (by assumption) | exact bk_m (by assumption) (by omega) | exact bk_p (by assumption) (by omega) | exact bk_o (by assumption) (by omega) | exact bk_s (by assumption) (by omega) | exact led_1 (by assumption) | exact led_2 (by assumption) | exact sh_ring _ (by omega) | exact sh_imgs _ (by omega)) (by first | decide | omega) (by decide) (by decide) (by first | assumption | rfl | exact bk_1 (by assumption) | exact bk_2 (by assumption) | exact bk_3 (by assumption) | exact bk_4 (by assumption) | exact bk_5 (by assumption) | exact bk_6 (by assumption) | exact bk_7 (by assumption) | exact bk_8 (by assumption) | exact bk_m (by assumption) (by omega) | exact bk_p (by assumption) (by omega) | exact bk_o (by assumption) (by omega) | exact bk_s (by assumption) (by omega) | exact led_1 (by assumption) | exact led_2 (by assumption) | exact sh_ring _ (by omega) | exact sh_imgs _ (by omega)) (by first | decide | omega) (by decide) rfl (vp_in_nI (by omega) (by decide)) ?_
        rw [nI_clamp (by omega)]
        refine g_iinc_1 (v := 1) rfl dX1_init_42 (by decide) ?_
        rw [show nI i + 1 = nI (i + 1) from nI_1 i]
        refine g_goto (tgt := 23) dX1_init_45 (by decide) ?_
        have q := ih (i + 1) _ (by omega) (fun q hq => by rw [ur_ne (by omega), ur_ne (by omega), ur_ne (by omega)]; exact hf q hq) (hB.s1 (by omega)) (show Zr (97 + 3 * i + 3) I L _ from (by repeat (first | exact Zr.mono (by assumption) (by first | decide | omega) | refine Zr.ur ?_ (by first | decide | omega) | refine Zr.ul ?_ (by first | decide | omega) | refine Zr.ui ?_ (by first | decide | omega))))
        rw [show 16 + 29 * (i + 1) = 16 + 29 * i + 29 by omega] at q
        exact q
  refine CA.of (lv := [some (.ref (b + 94)), none]) (by decide) (Nat.le_of_ble_eq_true rfl) rfl ?_
  refine g_aload_0 dX1_init_0 ?_
  refine g_objI dX1_init_1 (uu (i := 529) (by decide +kernel) rfl) (uu (i := 142) (by decide +kernel) rfl) (uu (i := 143) (by decide +kernel) rfl) (by decide) (by decide) (Nat.le_of_ble_eq_true rfl) ?_
  refine g_aload_0 dX1_init_4 ?_
  refine g_bipush (v := nI 13) dX1_init_5 (by decide) ?_
  refine ng_newq (t := 8) (c := 2) (len := 13) PA.need (by decide) dX1_init_7 (by decide) (by decide) rfl (uu (i := 530) (by decide +kernel) rfl) (by decide) (by decide) (by decide) (by first | assumption | rfl | exact bk_1 (by assumption) | exact bk_2 (by assumption) | exact bk_3 (by assumption) | exact bk_4 (by assumption) | exact bk_5 (by assumption) | exact bk_6 (by assumption) | exact bk_7 (by assumption) | exact bk_8 (by assumption) | exact bk_m (by assumption) (by omega) | exact bk_p (by assumption) (by omega) | exact bk_o (by assumption) (by omega) | exact bk_s (by assumption) (by omega) | exact led_1 (by assumption) | exact led_2 (by assumption) | exact sh_ring _ (by omega) | exact sh_imgs _ (by omega)) (by repeat (first | exact Zr.mono (by assumption) (by first | decide | omega) | refine Zr.ur ?_ (by first | decide | omega) | refine Zr.ul ?_ (by first | decide | omega) | refine Zr.ui ?_ (by first | decide | omega))) (by first | decide | (show _ ≤ 50; omega)) (by first | decide | (show _ ≤ 480; omega)) ?_
  refine g_putR dX1_init_10 gf_X1_13 (by first | assumption | rfl | exact bk_1 (by assumption) | exact bk_2 (by assumption) | exact bk_3 (by assumption) | exact bk_4 (by assumption) | exact bk_5 (by assumption) | exact bk_6 (by assumption) | exact bk_7 (by assumption) | exact bk_8 (by assumption) | exact bk_m (by assumption) (by omega) | exact bk_p (by assumption) (by omega) | exact bk_o (by assumption) (by omega) | exact bk_s (by assumption) (by omega) | exact led_1 (by assumption) | exact led_2 (by assumption) | exact sh_ring _ (by omega) | exact sh_imgs _ (by omega)) (by first | decide | omega) rfl rfl (by first | exact Or.inl rfl | exact Or.inr ⟨rfl, rfl, rfl⟩) ?_
  refine g_aload_0 dX1_init_13 ?_
  refine g_iconst (v := nI 3) dX1_init_14 (by decide) ?_
  refine ng_newq (t := 8) (c := 2) (len := 3) PA.need (by decide) dX1_init_15 (by decide) (by decide) rfl (uu (i := 530) (by decide +kernel) rfl) (by decide) (by decide) (by decide) (by first | assumption | rfl | exact bk_1 (by assumption) | exact bk_2 (by assumption) | exact bk_3 (by assumption) | exact bk_4 (by assumption) | exact bk_5 (by assumption) | exact bk_6 (by assumption) | exact bk_7 (by assumption) | exact bk_8 (by assumption) | exact bk_m (by assumption) (by omega) | exact bk_p (by assumption) (by omega) | exact bk_o (by assumption) (by omega) | exact bk_s (by assumption) (by omega) | exact led_1 (by assumption) | exact led_2 (by assumption) | exact sh_ring _ (by omega) | exact sh_imgs _ (by omega)) (by repeat (first | exact Zr.mono (by assumption) (by first | decide | omega) | refine Zr.ur ?_ (by first | decide | omega) | refine Zr.ul ?_ (by first | decide | omega) | refine Zr.ui ?_ (by first | decide | omega))) (by first | decide | (show _ ≤ 50; omega)) (by first | decide | (show _ ≤ 480; omega)) ?_
  refine g_putR dX1_init_18 gf_X1_17 (by first | assumption | rfl | exact bk_1 (by assumption) | exact bk_2 (by assumption) | exact bk_3 (by assumption) | exact bk_4 (by assumption) | exact bk_5 (by assumption) | exact bk_6 (by assumption) | exact bk_7 (by assumption) | exact bk_8 (by assumption) | exact bk_m (by assumption) (by omega) | exact bk_p (by assumption) (by omega) | exact bk_o (by assumption) (by omega) | exact bk_s (by assumption) (by omega) | exact led_1 (by assumption) | exact led_2 (by assumption) | exact sh_ring _ (by omega) | exact sh_imgs _ (by omega)) (by first | decide | omega) rfl rfl (by first | exact Or.inl rfl | exact Or.inr ⟨rfl, rfl, rfl⟩) ?_
  refine g_iconst (v := nI 0) dX1_init_21 (by decide) ?_
  refine g_istore_1 rfl dX1_init_22 ?_
  exact l0 13 0 _ (by omega) (fun q hq => by simp only [ur_ne (show q ≠ 94 by omega)]) ⟨⟨by simp [ur, va_up], by simp [ur, va_up]⟩, fun i hi => absurd hi (Nat.not_lt_zero i), fun i hi => absurd hi (Nat.not_lt_zero i)⟩ (by repeat (first | exact Zr.mono (by assumption) (by first | decide | omega) | refine Zr.ur ?_ (by first | decide | omega) | refine Zr.ul ?_ (by first | decide | omega) | refine Zr.ui ?_ (by first | decide | omega)))
end
