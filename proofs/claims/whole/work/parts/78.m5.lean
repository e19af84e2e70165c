theorem dX12_did_0 : decode cX12_did 0 = .ok (.aload_n 0, 1) := by decide +kernel
theorem dX12_did_1 : decode cX12_did 1 = .ok (.aload_n 0, 1) := by decide +kernel
theorem dX12_did_2 : decode cX12_did 2 = .ok (.getfield 35, 3) := by decide +kernel
theorem dX12_did_5 : decode cX12_did 5 = .ok (.aload_n 0, 1) := by decide +kernel
theorem dX12_did_6 : decode cX12_did 6 = .ok (.getfield 189, 3) := by decide +kernel
theorem dX12_did_9 : decode cX12_did 9 = .ok (.aload_n 0, 1) := by decide +kernel
theorem dX12_did_10 : decode cX12_did 10 = .ok (.getfield 32, 3) := by decide +kernel
theorem dX12_did_13 : decode cX12_did 13 = .ok (.invokestatic 419, 3) := by decide +kernel
theorem dX12_did_16 : decode cX12_did 16 = .ok (.putfield 189, 3) := by decide +kernel
theorem dX12_did_19 : decode cX12_did 19 = .ok (.aload_n 0, 1) := by decide +kernel
theorem dX12_did_20 : decode cX12_did 20 = .ok (.iconst 0, 1) := by decide +kernel
theorem dX12_did_21 : decode cX12_did 21 = .ok (.putfield 192, 3) := by decide +kernel
theorem dX12_did_24 : decode cX12_did 24 = .ok (.iconst 1, 1) := by decide +kernel
theorem dX12_did_25 : decode cX12_did 25 = .ok (.ireturn, 1) := by decide +kernel
/-- a row of the reference -/
def Rw (J : HI) (c z : Nat) (q : q4) : Prop := J c (1 + 4 * z) = nI q.1 ∧ J c (2 + 4 * z) = nI q.2.1 ∧ J c (3 + 4 * z) = nI q.2.2.1 ∧ J c (4 + 4 * z) = nI q.2.2.2
theorem Rw.m {J : HI} {c z k : Nat} {q : q4} (h : Rw J c z q) (hk : k = 1 + 4 * z) : J c k = nI q.1 := by subst hk; exact h.1
theorem Rw.p {J : HI} {c z k : Nat} {q : q4} (h : Rw J c z q) (hk : k = 2 + 4 * z) : J c k = nI q.2.1 := by subst hk; exact h.2.1
theorem Rw.f {J : HI} {c z k : Nat} {q : q4} (h : Rw J c z q) (hk : k = 3 + 4 * z) : J c k = nI q.2.2.1 := by subst hk; exact h.2.2.1
theorem Rw.u {J : HI} {c z k : Nat} {q : q4} (h : Rw J c z q) (hk : k = 4 + 4 * z) : J c k = nI q.2.2.2 := by subst hk; exact h.2.2.2
theorem StI.cp {I J : HI} {a c o o' : Nat} {s : LSt} (h : StI I a o s) (hn : s.1 ≤ 20) (e : ∀ k, k < 87 → J c (o' + k) = I a (o + k)) : StI J c o' s := by
  obtain ⟨h1, h2, h3⟩ := h
  refine ⟨by have := e 0 (by decide); rw [Nat.add_zero, Nat.add_zero] at this; rw [this]; exact h1, fun i hi => ?_, fun p hp => ?_⟩
  · have := h2 i hi
    have e1 := e (1 + 4 * i) (by omega)
    have e2 := e (2 + 4 * i) (by omega)
    have e3 := e (3 + 4 * i) (by omega)
    have e4 := e (4 + 4 * i) (by omega)
    rw [← Nat.add_assoc, ← Nat.add_assoc] at e1 e2 e3 e4
    rw [e1, e2, e3, e4]; exact this
  · have e1 := e (81 + p) (by omega)
    rw [← Nat.add_assoc, ← Nat.add_assoc] at e1
    rw [e1]; exact h3 p hp
section
variable {b : Nat} {ad : Nat → Nat} {I J : HI} {L M : HL} {R : HR} {Q : QT} {F : bkF} {s : LSt} {a o : Nat}
variable {c : Nat}
theorem c_X12_putLending {m p f u : Nat} (hc : SH c = .inr (0, 87)) (hS : StI I c 0 s) (hK : LOK F s) (hn : s.1 < 20) (hq : okq F (m, p, f, u)) (hfr : free s.1 s.2.1 (m, p, f, u)) (hQ : ∀ J : HI, StI J c 0 (insS s (m, p, f, u)) → (∀ x, x ≠ c → J x = I x) → Q none SH J L R) : KK 0 mX12_putLending b ad [.ref (b + c), .int (nI m), .int (nI p), .int (nI f), .int (nI u)] I L R Q := by
  obtain ⟨w1, w2, w3, w4, w5⟩ := hq.1
  have w1 : m < 6 := w1
  have w2 : p < 6 := w2
  have w4 : f ≤ u := w4
  have w5 : u ≤ 20 := w5
  have hil := ipos_le s.1 s.2.1 (m, p, f, u)
  have tail : ∀ (i : Nat) (J : HI) (q : Option Value), i = ipos s.1 s.2.1 (m, p, f, u) → J c 0 = nI s.1 → (∀ z, z < i → Rw J c z (s.2.1 z)) → (∀ z, i ≤ z → z < s.1 → Rw J c (z + 1) (s.2.1 z)) → (∀ p, p < 6 → J c (81 + p) = nI (s.2.2 p)) → (∀ x, x ≠ c → J x = I x) → VV yX12_putLending cX12_putLending 7 none 0 Q b ad 97 [some (.ref (b + c)), some (.int (nI m)), some (.int (nI p)), some (.int (nI f)), some (.int (nI u)), some (.int (nI i)), q] [] J L R := by
    intro i J q hi j0 j1 j2 j3 jx
    refine v_aload_0 dX12_putLending_97 ?_
    refine v_iconst (v := nI 1) dX12_putLending_98 (by decide) ?_
    refine v_iconst (v := nI 4) dX12_putLending_99 (by decide) ?_
    refine v_iload_5 dX12_putLending_100 ?_
    refine v_imul dX12_putLending_102 ?_
    refine v_iadd dX12_putLending_103 ?_
    refine v_iload_1 dX12_putLending_104 ?_
    refine u_iast dX12_putLending_105 (by first | assumption | rfl | exact led_1 (by assumption) | exact led_2 (by assumption) | exact bk_m (by assumption) (by first | assumption | omega) | exact bk_p (by assumption) (by first | assumption | omega) | exact bk_o (by assumption) (by first | assumption | omega) | exact bk_s (by assumption) (by first | assumption | omega) | exact bk_1 (by assumption) | exact bk_2 (by assumption) | exact bk_3 (by assumption) | exact bk_4 (by assumption) | exact bk_5 (by assumption) | exact bk_6 (by assumption) | exact bk_7 (by assumption) | exact bk_8 (by assumption) | exact sh_ring _ (by first | assumption | omega) | exact sh_imgs _ (by first | assumption | omega)) (by first | with_reducible rfl | (simp only [nlit, nI_add, pk_mul]; with_reducible rfl) | rfl) (by first | assumption | omega) (by first | assumption | decide) ?_
    refine v_aload_0 dX12_putLending_106 ?_
    refine v_iconst (v := nI 1) dX12_putLending_107 (by decide) ?_
    refine v_iconst (v := nI 4) dX12_putLending_108 (by decide) ?_
    refine v_iload_5 dX12_putLending_109 ?_
    refine v_imul dX12_putLending_111 ?_
    refine v_iadd dX12_putLending_112 ?_
    refine v_iconst (v := nI 1) dX12_putLending_113 (by decide) ?_
    refine v_iadd dX12_putLending_114 ?_
    refine v_iload_2 dX12_putLending_115 ?_
    refine u_iast dX12_putLending_116 (by first | assumption | rfl | exact led_1 (by assumption) | exact led_2 (by assumption) | exact bk_m (by assumption) (by first | assumption | omega) | exact bk_p (by assumption) (by first | assumption | omega) | exact bk_o (by assumption) (by first | assumption | omega) | exact bk_s (by assumption) (by first | assumption | omega) | exact bk_1 (by assumption) | exact bk_2 (by assumption) | exact bk_3 (by assumption) | exact bk_4 (by assumption) | exact bk_5 (by assumption) | exact bk_6 (by assumption) | exact bk_7 (by assumption) | exact bk_8 (by assumption) | exact sh_ring _ (by first | assumption | omega) | exact sh_imgs _ (by first | assumption | omega)) (by first | with_reducible rfl | (simp only [nlit, nI_add, pk_mul]; with_reducible rfl) | rfl) (by first | assumption | omega) (by first | assumption | decide) ?_
    refine v_aload_0 dX12_putLending_117 ?_
    refine v_iconst (v := nI 1) dX12_putLending_118 (by decide) ?_
    refine v_iconst (v := nI 4) dX12_putLending_119 (by decide) ?_
    refine v_iload_5 dX12_putLending_120 ?_
    refine v_imul dX12_putLending_122 ?_
    refine v_iadd dX12_putLending_123 ?_
    refine v_iconst (v := nI 2) dX12_putLending_124 (by decide) ?_
    refine v_iadd dX12_putLending_125 ?_
    refine v_iload_3 dX12_putLending_126 ?_
    refine u_iast dX12_putLending_127 (by first | assumption | rfl | exact led_1 (by assumption) | exact led_2 (by assumption) | exact bk_m (by assumption) (by first | assumption | omega) | exact bk_p (by assumption) (by first | assumption | omega) | exact bk_o (by assumption) (by first | assumption | omega) | exact bk_s (by assumption) (by first | assumption | omega) | exact bk_1 (by assumption) | exact bk_2 (by assumption) | exact bk_3 (by assumption) | exact bk_4 (by assumption) | exact bk_5 (by assumption) | exact bk_6 (by assumption) | exact bk_7 (by assumption) | exact bk_8 (by assumption) | exact sh_ring _ (by first | assumption | omega) | exact sh_imgs _ (by first | assumption | omega)) (by first | with_reducible rfl | (simp only [nlit, nI_add, pk_mul]; with_reducible rfl) | rfl) (by first | assumption | omega) (by first | assumption | decide) ?_
    refine v_aload_0 dX12_putLending_128 ?_
    refine v_iconst (v := nI 1) dX12_putLending_129 (by decide) ?_
    refine v_iconst (v := nI 4) dX12_putLending_130 (by decide) ?_
    refine v_iload_5 dX12_putLending_131 ?_
    refine v_imul dX12_putLending_133 ?_
    refine v_iadd dX12_putLending_134 ?_
    refine v_iconst (v := nI 3) dX12_putLending_135 (by decide) ?_
    refine v_iadd dX12_putLending_136 ?_
    refine v_iload_4 dX12_putLending_137 ?_
    refine u_iast dX12_putLending_139 (by first | assumption | rfl | exact led_1 (by assumption) | exact led_2 (by assumption) | exact bk_m (by assumption) (by first | assumption | omega) | exact bk_p (by assumption) (by first | assumption | omega) | exact bk_o (by assumption) (by first | assumption | omega) | exact bk_s (by assumption) (by first | assumption | omega) | exact bk_1 (by assumption) | exact bk_2 (by assumption) | exact bk_3 (by assumption) | exact bk_4 (by assumption) | exact bk_5 (by assumption) | exact bk_6 (by assumption) | exact bk_7 (by assumption) | exact bk_8 (by assumption) | exact sh_ring _ (by first | assumption | omega) | exact sh_imgs _ (by first | assumption | omega)) (by first | with_reducible rfl | (simp only [nlit, nI_add, pk_mul]; with_reducible rfl) | rfl) (by first | assumption | omega) (by first | assumption | decide) ?_
    refine v_aload_0 dX12_putLending_140 ?_
    refine v_iconst (v := nI 0) dX12_putLending_141 (by decide) ?_
    refine v_dup2 dX12_putLending_142 rfl rfl ?_
    refine u_iald dX12_putLending_143 (by first | assumption | rfl | exact led_1 (by assumption) | exact led_2 (by assumption) | exact bk_m (by assumption) (by first | assumption | omega) | exact bk_p (by assumption) (by first | assumption | omega) | exact bk_o (by assumption) (by first | assumption | omega) | exact bk_s (by assumption) (by first | assumption | omega) | exact bk_1 (by assumption) | exact bk_2 (by assumption) | exact bk_3 (by assumption) | exact bk_4 (by assumption) | exact bk_5 (by assumption) | exact bk_6 (by assumption) | exact bk_7 (by assumption) | exact bk_8 (by assumption) | exact sh_ring _ (by first | assumption | omega) | exact sh_imgs _ (by first | assumption | omega)) (by first | with_reducible rfl | (simp only [nlit, nI_add, pk_mul]; with_reducible rfl) | rfl) (by first | assumption | omega) (by first | assumption | decide) ?_
    rw [ui_o (by omega), ui_o (by omega), ui_o (by omega), ui_o (by omega), j0]
    refine v_iconst (v := nI 1) dX12_putLending_144 (by decide) ?_
    refine v_iadd dX12_putLending_145 ?_
    rw [nI_add]
    refine u_iast dX12_putLending_146 (by first | assumption | rfl | exact led_1 (by assumption) | exact led_2 (by assumption) | exact bk_m (by assumption) (by first | assumption | omega) | exact bk_p (by assumption) (by first | assumption | omega) | exact bk_o (by assumption) (by first | assumption | omega) | exact bk_s (by assumption) (by first | assumption | omega) | exact bk_1 (by assumption) | exact bk_2 (by assumption) | exact bk_3 (by assumption) | exact bk_4 (by assumption) | exact bk_5 (by assumption) | exact bk_6 (by assumption) | exact bk_7 (by assumption) | exact bk_8 (by assumption) | exact sh_ring _ (by first | assumption | omega) | exact sh_imgs _ (by first | assumption | omega)) (by first | with_reducible rfl | (simp only [nlit, nI_add, pk_mul]; with_reducible rfl) | rfl) (by first | assumption | omega) (by first | assumption | decide) ?_
    refine v_vret dX12_putLending_147 rfl rfl rfl rfl ?_
    have hv : ∀ z, 1 + 4 * i ≤ z → z < 5 + 4 * i → True := fun _ _ _ => trivial
    refine hQ _ ⟨?_, fun z hz => ?_, fun p hp => ?_⟩ (fun x hx => by rw [ui_ne hx, ui_ne hx, ui_ne hx, ui_ne hx, ui_ne hx]; exact jx x hx)
    · rw [ui_s]; rfl
    · have hz : z < s.1 + 1 := hz
      show _ = nI (insg s.2.1 (m, p, f, u) (ipos s.1 s.2.1 (m, p, f, u)) z).1 ∧ _ = nI (insg s.2.1 (m, p, f, u) (ipos s.1 s.2.1 (m, p, f, u)) z).2.1 ∧ _ = nI (insg s.2.1 (m, p, f, u) (ipos s.1 s.2.1 (m, p, f, u)) z).2.2.1 ∧ _ = nI (insg s.2.1 (m, p, f, u) (ipos s.1 s.2.1 (m, p, f, u)) z).2.2.2
      rw [← hi, Nat.zero_add, Nat.zero_add, Nat.zero_add, Nat.zero_add]
      unfold insg
      by_cases q1 : z < i
      · rw [if_pos q1, ui_o (by omega), ui_o (by omega), ui_o (by omega), ui_o (by omega), ui_o (by omega), ui_o (by omega), ui_o (by omega), ui_o (by omega), ui_o (by omega), ui_o (by omega), ui_o (by omega), ui_o (by omega), ui_o (by omega), ui_o (by omega), ui_o (by omega), ui_o (by omega), ui_o (by omega), ui_o (by omega), ui_o (by omega), ui_o (by omega)]
        exact j1 z q1
      · rw [if_neg q1]
        by_cases q2 : z = i
        · subst q2
          rw [if_pos rfl]
          refine ⟨?_, ?_, ?_, ?_⟩
          · rw [ui_o (by omega), ui_o (by omega), ui_o (by omega), ui_o (by omega), ui_s]
          · rw [ui_o (by omega), ui_o (by omega), ui_o (by omega), show 2 + 4 * z = 1 + 4 * z + 1 by omega, ui_s]
          · rw [ui_o (by omega), ui_o (by omega), show 3 + 4 * z = 1 + 4 * z + 2 by omega, ui_s]
          · rw [ui_o (by omega), show 4 + 4 * z = 1 + 4 * z + 3 by omega, ui_s]
        · rw [if_neg q2, ui_o (by omega), ui_o (by omega), ui_o (by omega), ui_o (by omega), ui_o (by omega), ui_o (by omega), ui_o (by omega), ui_o (by omega), ui_o (by omega), ui_o (by omega), ui_o (by omega), ui_o (by omega), ui_o (by omega), ui_o (by omega), ui_o (by omega), ui_o (by omega), ui_o (by omega), ui_o (by omega), ui_o (by omega), ui_o (by omega)]
          have := j2 (z - 1) (by omega) (by omega)
          rw [show z - 1 + 1 = z by omega] at this
          exact this
    · rw [ui_o (by omega), ui_o (by omega), ui_o (by omega), ui_o (by omega), ui_o (by omega), Nat.zero_add]; exact j3 p hp
  have loop : ∀ (i : Nat) (J : HI) (q : Option Value), lc q = true → ipos s.1 s.2.1 (m, p, f, u) ≤ i → i ≤ s.1 → J c 0 = nI s.1 → (∀ z, z < i → Rw J c z (s.2.1 z)) → (∀ z, i ≤ z → z < s.1 → Rw J c (z + 1) (s.2.1 z)) → (∀ p, p < 6 → J c (81 + p) = nI (s.2.2 p)) → (∀ x, x ≠ c → J x = I x) → VV yX12_putLending cX12_putLending 7 none 0 Q b ad 5 [some (.ref (b + c)), some (.int (nI m)), some (.int (nI p)), some (.int (nI f)), some (.int (nI u)), some (.int (nI i)), q] [] J L R := by
    intro i
    induction i with
    | zero =>
      intro J q hq0 hi hin j0 j1 j2 j3 jx
      refine v_iload_5 dX12_putLending_5 ?_
      refine v_if_le (tgt := 97) dX12_putLending_7 (by decide) (fun hc7 => ?_) (fun hc7 => ?_)
      · (first | rw [show (0 : Int32) = nI 0 from rfl, nI_ltI (by omega) (by omega)] at hc7 | rw [show (0 : Int32) = nI 0 from rfl, nI_leI (by omega) (by omega)] at hc7 | skip)
        exact tail 0 J q (by omega) j0 j1 j2 j3 jx
      · exact absurd (by decide) hc7
    | succ i ih =>
      intro J q hq0 hi hin j0 j1 j2 j3 jx
      have hi19 := (hK.2.1 i (by omega)).1
      obtain ⟨v1, v2, v3, v4, v5⟩ := hi19
      have hrw := j1 i (by omega)
      by_cases hst : ipos s.1 s.2.1 (m, p, f, u) = i + 1
      · have hrl := (ipos_lo hK hq hfr (z := i) (by omega)).1
        have hrl : (s.2.1 i).1 < m ∨ ((s.2.1 i).1 = m ∧ (s.2.1 i).2.2.2 < f) := hrl
        refine v_iload_5 dX12_putLending_5 ?_
        refine v_if_le (tgt := 97) dX12_putLending_7 (by decide) (fun hc7 => ?_) (fun hc7 => ?_)
        · exact absurd hc7 (nI_nle (by omega) (by omega))
        · (first | rw [show (0 : Int32) = nI 0 from rfl, nI_ltI (by omega) (by omega)] at hc7 | rw [show (0 : Int32) = nI 0 from rfl, nI_leI (by omega) (by omega)] at hc7 | skip)
          refine v_aload_0 dX12_putLending_10 ?_
          refine v_iconst (v := nI 1) dX12_putLending_11 (by decide) ?_
          refine v_iconst (v := nI 4) dX12_putLending_12 (by decide) ?_
          refine v_iload_5 dX12_putLending_13 ?_
          refine v_imul dX12_putLending_15 ?_
          refine v_iadd dX12_putLending_16 ?_
          refine v_iconst (v := nI 4) dX12_putLending_17 (by decide) ?_
          refine v_isub dX12_putLending_18 ?_
          rw [pk_mul, nI_add, pk_sub (by omega)]
          refine u_iald dX12_putLending_19 (by first | assumption | rfl | exact led_1 (by assumption) | exact led_2 (by assumption) | exact bk_m (by assumption) (by first | assumption | omega) | exact bk_p (by assumption) (by first | assumption | omega) | exact bk_o (by assumption) (by first | assumption | omega) | exact bk_s (by assumption) (by first | assumption | omega) | exact bk_1 (by assumption) | exact bk_2 (by assumption) | exact bk_3 (by assumption) | exact bk_4 (by assumption) | exact bk_5 (by assumption) | exact bk_6 (by assumption) | exact bk_7 (by assumption) | exact bk_8 (by assumption) | exact sh_ring _ (by first | assumption | omega) | exact sh_imgs _ (by first | assumption | omega)) (by first | with_reducible rfl | (simp only [nlit, nI_add, pk_mul]; with_reducible rfl) | rfl) (by first | assumption | omega) (by first | assumption | decide) ?_
          rw [hrw.m (by omega)]
          refine v_iload_1 dX12_putLending_20 ?_
          refine v_icmp_gt (tgt := 52) dX12_putLending_21 (by decide) (fun hc21 => ?_) (fun hc21 => ?_)
          · (try rw [nI_ltI (by omega) (by omega)] at hc21)
            exfalso
            omega
          · (try rw [nI_ltI (by omega) (by omega)] at hc21)
            refine v_aload_0 dX12_putLending_24 ?_
            refine v_iconst (v := nI 1) dX12_putLending_25 (by decide) ?_
            refine v_iconst (v := nI 4) dX12_putLending_26 (by decide) ?_
            refine v_iload_5 dX12_putLending_27 ?_
            refine v_imul dX12_putLending_29 ?_
            refine v_iadd dX12_putLending_30 ?_
            refine v_iconst (v := nI 4) dX12_putLending_31 (by decide) ?_
            refine v_isub dX12_putLending_32 ?_
            rw [pk_mul, nI_add, pk_sub (by omega)]
            refine u_iald dX12_putLending_33 (by first | assumption | rfl | exact led_1 (by assumption) | exact led_2 (by assumption) | exact bk_m (by assumption) (by first | assumption | omega) | exact bk_p (by assumption) (by first | assumption | omega) | exact bk_o (by assumption) (by first | assumption | omega) | exact bk_s (by assumption) (by first | assumption | omega) | exact bk_1 (by assumption) | exact bk_2 (by assumption) | exact bk_3 (by assumption) | exact bk_4 (by assumption) | exact bk_5 (by assumption) | exact bk_6 (by assumption) | exact bk_7 (by assumption) | exact bk_8 (by assumption) | exact sh_ring _ (by first | assumption | omega) | exact sh_imgs _ (by first | assumption | omega)) (by first | with_reducible rfl | (simp only [nlit, nI_add, pk_mul]; with_reducible rfl) | rfl) (by first | assumption | omega) (by first | assumption | decide) ?_
            rw [hrw.m (by omega)]
            refine v_iload_1 dX12_putLending_34 ?_
            refine v_icmp_ne (tgt := 97) dX12_putLending_35 (by decide) (fun hc35 => ?_) (fun hc35 => ?_)
            · (try rw [nI_eq (by omega) (by omega)] at hc35)
              exact tail (i + 1) J q hst.symm j0 j1 j2 j3 jx
            · (try rw [nI_eq (by omega) (by omega)] at hc35)
              refine v_aload_0 dX12_putLending_38 ?_
              refine v_iconst (v := nI 1) dX12_putLending_39 (by decide) ?_
              refine v_iconst (v := nI 4) dX12_putLending_40 (by decide) ?_
              refine v_iload_5 dX12_putLending_41 ?_
              refine v_imul dX12_putLending_43 ?_
              refine v_iadd dX12_putLending_44 ?_
              refine v_iconst (v := nI 2) dX12_putLending_45 (by decide) ?_
              refine v_isub dX12_putLending_46 ?_
              rw [pk_mul, nI_add, pk_sub (by omega)]
              refine u_iald dX12_putLending_47 (by first | assumption | rfl | exact led_1 (by assumption) | exact led_2 (by assumption) | exact bk_m (by assumption) (by first | assumption | omega) | exact bk_p (by assumption) (by first | assumption | omega) | exact bk_o (by assumption) (by first | assumption | omega) | exact bk_s (by assumption) (by first | assumption | omega) | exact bk_1 (by assumption) | exact bk_2 (by assumption) | exact bk_3 (by assumption) | exact bk_4 (by assumption) | exact bk_5 (by assumption) | exact bk_6 (by assumption) | exact bk_7 (by assumption) | exact bk_8 (by assumption) | exact sh_ring _ (by first | assumption | omega) | exact sh_imgs _ (by first | assumption | omega)) (by first | with_reducible rfl | (simp only [nlit, nI_add, pk_mul]; with_reducible rfl) | rfl) (by first | assumption | omega) (by first | assumption | decide) ?_
              rw [hrw.f (by omega)]
              refine v_iload_3 dX12_putLending_48 ?_
              refine v_icmp_le (tgt := 97) dX12_putLending_49 (by decide) (fun hc49 => ?_) (fun hc49 => ?_)
              · (try rw [nI_leI (by omega) (by omega)] at hc49)
                exact tail (i + 1) J q hst.symm j0 j1 j2 j3 jx
              · (try rw [nI_leI (by omega) (by omega)] at hc49)
                exfalso
                omega
      · have hrl := (ipos_hi hK hq hfr (z := i) (by omega) (by omega)).1
        have hrl : m < (s.2.1 i).1 ∨ (m = (s.2.1 i).1 ∧ u < (s.2.1 i).2.2.1) := hrl
        refine v_iload_5 dX12_putLending_5 ?_
        refine v_if_le (tgt := 97) dX12_putLending_7 (by decide) (fun hc7 => ?_) (fun hc7 => ?_)
        · exact absurd hc7 (nI_nle (by omega) (by omega))
        · (first | rw [show (0 : Int32) = nI 0 from rfl, nI_ltI (by omega) (by omega)] at hc7 | rw [show (0 : Int32) = nI 0 from rfl, nI_leI (by omega) (by omega)] at hc7 | skip)
          refine v_aload_0 dX12_putLending_10 ?_
          refine v_iconst (v := nI 1) dX12_putLending_11 (by decide) ?_
          refine v_iconst (v := nI 4) dX12_putLending_12 (by decide) ?_
          refine v_iload_5 dX12_putLending_13 ?_
          refine v_imul dX12_putLending_15 ?_
          refine v_iadd dX12_putLending_16 ?_
          refine v_iconst (v := nI 4) dX12_putLending_17 (by decide) ?_
          refine v_isub dX12_putLending_18 ?_
          rw [pk_mul, nI_add, pk_sub (by omega)]
          refine u_iald dX12_putLending_19 (by first | assumption | rfl | exact led_1 (by assumption) | exact led_2 (by assumption) | exact bk_m (by assumption) (by first | assumption | omega) | exact bk_p (by assumption) (by first | assumption | omega) | exact bk_o (by assumption) (by first | assumption | omega) | exact bk_s (by assumption) (by first | assumption | omega) | exact bk_1 (by assumption) | exact bk_2 (by assumption) | exact bk_3 (by assumption) | exact bk_4 (by assumption) | exact bk_5 (by assumption) | exact bk_6 (by assumption) | exact bk_7 (by assumption) | exact bk_8 (by assumption) | exact sh_ring _ (by first | assumption | omega) | exact sh_imgs _ (by first | assumption | omega)) (by first | with_reducible rfl | (simp only [nlit, nI_add, pk_mul]; with_reducible rfl) | rfl) (by first | assumption | omega) (by first | assumption | decide) ?_
          rw [hrw.m (by omega)]
          refine v_iload_1 dX12_putLending_20 ?_
          refine v_icmp_gt (tgt := 52) dX12_putLending_21 (by decide) (fun hc21 => ?_) (fun hc21 => ?_)
          · (try rw [nI_ltI (by omega) (by omega)] at hc21)
            refine v_iconst (v := nI 0) dX12_putLending_52 (by decide) ?_
            refine v_istore_6 rfl dX12_putLending_53 ?_
            refine v_iload_6 dX12_putLending_55 ?_
            refine v_iconst (v := nI 4) dX12_putLending_57 (by decide) ?_
            refine v_icmp_ge (tgt := 91) dX12_putLending_58 (by decide) (fun hc58 => ?_) (fun hc58 => ?_)
            · exact absurd hc58 (by decide)
            · (try rw [nI_leI (by omega) (by omega)] at hc58)
              refine v_aload_0 dX12_putLending_61 ?_
              refine v_iconst (v := nI 1) dX12_putLending_62 (by decide) ?_
              refine v_iconst (v := nI 4) dX12_putLending_63 (by decide) ?_
              refine v_iload_5 dX12_putLending_64 ?_
              refine v_imul dX12_putLending_66 ?_
              refine v_iadd dX12_putLending_67 ?_
              refine v_iload_6 dX12_putLending_68 ?_
              refine v_iadd dX12_putLending_70 ?_
              refine v_aload_0 dX12_putLending_71 ?_
              refine v_iconst (v := nI 1) dX12_putLending_72 (by decide) ?_
              refine v_iconst (v := nI 4) dX12_putLending_73 (by decide) ?_
              refine v_iload_5 dX12_putLending_74 ?_
              refine v_imul dX12_putLending_76 ?_
              refine v_iadd dX12_putLending_77 ?_
              refine v_iconst (v := nI 4) dX12_putLending_78 (by decide) ?_
              refine v_isub dX12_putLending_79 ?_
              rw [pk_mul, nI_add, pk_sub (by omega)]
              refine v_iload_6 dX12_putLending_80 ?_
              refine v_iadd dX12_putLending_82 ?_
              refine u_iald dX12_putLending_83 (by first | assumption | rfl | exact led_1 (by assumption) | exact led_2 (by assumption) | exact bk_m (by assumption) (by first | assumption | omega) | exact bk_p (by assumption) (by first | assumption | omega) | exact bk_o (by assumption) (by first | assumption | omega) | exact bk_s (by assumption) (by first | assumption | omega) | exact bk_1 (by assumption) | exact bk_2 (by assumption) | exact bk_3 (by assumption) | exact bk_4 (by assumption) | exact bk_5 (by assumption) | exact bk_6 (by assumption) | exact bk_7 (by assumption) | exact bk_8 (by assumption) | exact sh_ring _ (by first | assumption | omega) | exact sh_imgs _ (by first | assumption | omega)) (by first | with_reducible rfl | (simp only [nlit, nI_add, pk_mul]; with_reducible rfl) | rfl) (by first | assumption | omega) (by first | assumption | decide) ?_
              skip
              refine u_iast dX12_putLending_84 (by first | assumption | rfl | exact led_1 (by assumption) | exact led_2 (by assumption) | exact bk_m (by assumption) (by first | assumption | omega) | exact bk_p (by assumption) (by first | assumption | omega) | exact bk_o (by assumption) (by first | assumption | omega) | exact bk_s (by assumption) (by first | assumption | omega) | exact bk_1 (by assumption) | exact bk_2 (by assumption) | exact bk_3 (by assumption) | exact bk_4 (by assumption) | exact bk_5 (by assumption) | exact bk_6 (by assumption) | exact bk_7 (by assumption) | exact bk_8 (by assumption) | exact sh_ring _ (by first | assumption | omega) | exact sh_imgs _ (by first | assumption | omega)) (by first | with_reducible rfl | (simp only [nlit, nI_add, pk_mul]; with_reducible rfl) | rfl) (by first | assumption | omega) (by first | assumption | decide) ?_
              refine v_iinc_6 (v := 1) rfl dX12_putLending_85 (by decide) ?_
              rw [show nI 0 + 1 = nI 1 from rfl]
              refine v_goto (tgt := 55) dX12_putLending_88 (by decide) ?_
              refine v_iload_6 dX12_putLending_55 ?_
              refine v_iconst (v := nI 4) dX12_putLending_57 (by decide) ?_
              refine v_icmp_ge (tgt := 91) dX12_putLending_58 (by decide) (fun hc58 => ?_) (fun hc58 => ?_)
              · exact absurd hc58 (by decide)
              · (try rw [nI_leI (by omega) (by omega)] at hc58)
                refine v_aload_0 dX12_putLending_61 ?_
                refine v_iconst (v := nI 1) dX12_putLending_62 (by decide) ?_
                refine v_iconst (v := nI 4) dX12_putLending_63 (by decide) ?_
                refine v_iload_5 dX12_putLending_64 ?_
                refine v_imul dX12_putLending_66 ?_
                refine v_iadd dX12_putLending_67 ?_
                refine v_iload_6 dX12_putLending_68 ?_
                refine v_iadd dX12_putLending_70 ?_
                refine v_aload_0 dX12_putLending_71 ?_
                refine v_iconst (v := nI 1) dX12_putLending_72 (by decide) ?_
                refine v_iconst (v := nI 4) dX12_putLending_73 (by decide) ?_
                refine v_iload_5 dX12_putLending_74 ?_
                refine v_imul dX12_putLending_76 ?_
                refine v_iadd dX12_putLending_77 ?_
                refine v_iconst (v := nI 4) dX12_putLending_78 (by decide) ?_
                refine v_isub dX12_putLending_79 ?_
                rw [pk_mul, nI_add, pk_sub (by omega)]
                refine v_iload_6 dX12_putLending_80 ?_
                refine v_iadd dX12_putLending_82 ?_
                refine u_iald dX12_putLending_83 (by first | assumption | rfl | exact led_1 (by assumption) | exact led_2 (by assumption) | exact bk_m (by assumption) (by first | assumption | omega) | exact bk_p (by assumption) (by first | assumption | omega) | exact bk_o (by assumption) (by first | assumption | omega) | exact bk_s (by assumption) (by first | assumption | omega) | exact bk_1 (by assumption) | exact bk_2 (by assumption) | exact bk_3 (by assumption) | exact bk_4 (by assumption) | exact bk_5 (by assumption) | exact bk_6 (by assumption) | exact bk_7 (by assumption) | exact bk_8 (by assumption) | exact sh_ring _ (by first | assumption | omega) | exact sh_imgs _ (by first | assumption | omega)) (by first | with_reducible rfl | (simp only [nlit, nI_add, pk_mul]; with_reducible rfl) | rfl) (by first | assumption | omega) (by first | assumption | decide) ?_
                rw [ui_o (by omega)]
                refine u_iast dX12_putLending_84 (by first | assumption | rfl | exact led_1 (by assumption) | exact led_2 (by assumption) | exact bk_m (by assumption) (by first | assumption | omega) | exact bk_p (by assumption) (by first | assumption | omega) | exact bk_o (by assumption) (by first | assumption | omega) | exact bk_s (by assumption) (by first | assumption | omega) | exact bk_1 (by assumption) | exact bk_2 (by assumption) | exact bk_3 (by assumption) | exact bk_4 (by assumption) | exact bk_5 (by assumption) | exact bk_6 (by assumption) | exact bk_7 (by assumption) | exact bk_8 (by assumption) | exact sh_ring _ (by first | assumption | omega) | exact sh_imgs _ (by first | assumption | omega)) (by first | with_reducible rfl | (simp only [nlit, nI_add, pk_mul]; with_reducible rfl) | rfl) (by first | assumption | omega) (by first | assumption | decide) ?_
                refine v_iinc_6 (v := 1) rfl dX12_putLending_85 (by decide) ?_
                rw [show nI 1 + 1 = nI 2 from rfl]
                refine v_goto (tgt := 55) dX12_putLending_88 (by decide) ?_
                refine v_iload_6 dX12_putLending_55 ?_
                refine v_iconst (v := nI 4) dX12_putLending_57 (by decide) ?_
                refine v_icmp_ge (tgt := 91) dX12_putLending_58 (by decide) (fun hc58 => ?_) (fun hc58 => ?_)
                · exact absurd hc58 (by decide)
                · (try rw [nI_leI (by omega) (by omega)] at hc58)
                  refine v_aload_0 dX12_putLending_61 ?_
                  refine v_iconst (v := nI 1) dX12_putLending_62 (by decide) ?_
                  refine v_iconst (v := nI 4) dX12_putLending_63 (by decide) ?_
                  refine v_iload_5 dX12_putLending_64 ?_
                  refine v_imul dX12_putLending_66 ?_
                  refine v_iadd dX12_putLending_67 ?_
                  refine v_iload_6 dX12_putLending_68 ?_
                  refine v_iadd dX12_putLending_70 ?_
                  refine v_aload_0 dX12_putLending_71 ?_
                  refine v_iconst (v := nI 1) dX12_putLending_72 (by decide) ?_
                  refine v_iconst (v := nI 4) dX12_putLending_73 (by decide) ?_
                  refine v_iload_5 dX12_putLending_74 ?_
                  refine v_imul dX12_putLending_76 ?_
                  refine v_iadd dX12_putLending_77 ?_
                  refine v_iconst (v := nI 4) dX12_putLending_78 (by decide) ?_
                  refine v_isub dX12_putLending_79 ?_
                  rw [pk_mul, nI_add, pk_sub (by omega)]
                  refine v_iload_6 dX12_putLending_80 ?_
                  refine v_iadd dX12_putLending_82 ?_
                  refine u_iald dX12_putLending_83 (by first | assumption | rfl | exact led_1 (by assumption) | exact led_2 (by assumption) | exact bk_m (by assumption) (by first | assumption | omega) | exact bk_p (by assumption) (by first | assumption | omega) | exact bk_o (by assumption) (by first | assumption | omega) | exact bk_s (by assumption) (by first | assumption | omega) | exact bk_1 (by assumption) | exact bk_2 (by assumption) | exact bk_3 (by assumption) | exact bk_4 (by assumption) | exact bk_5 (by assumption) | exact bk_6 (by assumption) | exact bk_7 (by assumption) | exact bk_8 (by assumption) | exact sh_ring _ (by first | assumption | omega) | exact sh_imgs _ (by first | assumption | omega)) (by first | with_reducible rfl | (simp only [nlit, nI_add, pk_mul]; with_reducible rfl) | rfl) (by first | assumption | omega) (by first | assumption | decide) ?_
                  rw [ui_o (by omega), ui_o (by omega)]
                  refine u_iast dX12_putLending_84 (by first | assumption | rfl | exact led_1 (by assumption) | exact led_2 (by assumption) | exact bk_m (by assumption) (by first | assumption | omega) | exact bk_p (by assumption) (by first | assumption | omega) | exact bk_o (by assumption) (by first | assumption | omega) | exact bk_s (by assumption) (by first | assumption | omega) | exact bk_1 (by assumption) | exact bk_2 (by assumption) | exact bk_3 (by assumption) | exact bk_4 (by assumption) | exact bk_5 (by assumption) | exact bk_6 (by assumption) | exact bk_7 (by assumption) | exact bk_8 (by assumption) | exact sh_ring _ (by first | assumption | omega) | exact sh_imgs _ (by first | assumption | omega)) (by first | with_reducible rfl | (simp only [nlit, nI_add, pk_mul]; with_reducible rfl) | rfl) (by first | assumption | omega) (by first | assumption | decide) ?_
                  refine v_iinc_6 (v := 1) rfl dX12_putLending_85 (by decide) ?_
                  rw [show nI 2 + 1 = nI 3 from rfl]
                  refine v_goto (tgt := 55) dX12_putLending_88 (by decide) ?_
                  refine v_iload_6 dX12_putLending_55 ?_
                  refine v_iconst (v := nI 4) dX12_putLending_57 (by decide) ?_
                  refine v_icmp_ge (tgt := 91) dX12_putLending_58 (by decide) (fun hc58 => ?_) (fun hc58 => ?_)
                  · exact absurd hc58 (by decide)
                  · (try rw [nI_leI (by omega) (by omega)] at hc58)
                    refine v_aload_0 dX12_putLending_61 ?_
                    refine v_iconst (v := nI 1) dX12_putLending_62 (by decide) ?_
                    refine v_iconst (v := nI 4) dX12_putLending_63 (by decide) ?_
                    refine v_iload_5 dX12_putLending_64 ?_
                    refine v_imul dX12_putLending_66 ?_
                    refine v_iadd dX12_putLending_67 ?_
                    refine v_iload_6 dX12_putLending_68 ?_
                    refine v_iadd dX12_putLending_70 ?_
                    refine v_aload_0 dX12_putLending_71 ?_
                    refine v_iconst (v := nI 1) dX12_putLending_72 (by decide) ?_
                    refine v_iconst (v := nI 4) dX12_putLending_73 (by decide) ?_
                    refine v_iload_5 dX12_putLending_74 ?_
                    refine v_imul dX12_putLending_76 ?_
                    refine v_iadd dX12_putLending_77 ?_
                    refine v_iconst (v := nI 4) dX12_putLending_78 (by decide) ?_
                    refine v_isub dX12_putLending_79 ?_
                    rw [pk_mul, nI_add, pk_sub (by omega)]
                    refine v_iload_6 dX12_putLending_80 ?_
                    refine v_iadd dX12_putLending_82 ?_
                    refine u_iald dX12_putLending_83 (by first | assumption | rfl | exact led_1 (by assumption) | exact led_2 (by assumption) | exact bk_m (by assumption) (by first | assumption | omega) | exact bk_p (by assumption) (by first | assumption | omega) | exact bk_o (by assumption) (by first | assumption | omega) | exact bk_s (by assumption) (by first | assumption | omega) | exact bk_1 (by assumption) | exact bk_2 (by assumption) | exact bk_3 (by assumption) | exact bk_4 (by assumption) | exact bk_5 (by assumption) | exact bk_6 (by assumption) | exact bk_7 (by assumption) | exact bk_8 (by assumption) | exact sh_ring _ (by first | assumption | omega) | exact sh_imgs _ (by first | assumption | omega)) (by first | with_reducible rfl | (simp only [nlit, nI_add, pk_mul]; with_reducible rfl) | rfl) (by first | assumption | omega) (by first | assumption | decide) ?_
                    rw [ui_o (by omega), ui_o (by omega), ui_o (by omega)]
                    refine u_iast dX12_putLending_84 (by first | assumption | rfl | exact led_1 (by assumption) | exact led_2 (by assumption) | exact bk_m (by assumption) (by first | assumption | omega) | exact bk_p (by assumption) (by first | assumption | omega) | exact bk_o (by assumption) (by first | assumption | omega) | exact bk_s (by assumption) (by first | assumption | omega) | exact bk_1 (by assumption) | exact bk_2 (by assumption) | exact bk_3 (by assumption) | exact bk_4 (by assumption) | exact bk_5 (by assumption) | exact bk_6 (by assumption) | exact bk_7 (by assumption) | exact bk_8 (by assumption) | exact sh_ring _ (by first | assumption | omega) | exact sh_imgs _ (by first | assumption | omega)) (by first | with_reducible rfl | (simp only [nlit, nI_add, pk_mul]; with_reducible rfl) | rfl) (by first | assumption | omega) (by first | assumption | decide) ?_
                    refine v_iinc_6 (v := 1) rfl dX12_putLending_85 (by decide) ?_
                    rw [show nI 3 + 1 = nI 4 from rfl]
                    refine v_goto (tgt := 55) dX12_putLending_88 (by decide) ?_
                    refine v_iload_6 dX12_putLending_55 ?_
                    refine v_iconst (v := nI 4) dX12_putLending_57 (by decide) ?_
                    refine v_icmp_ge (tgt := 91) dX12_putLending_58 (by decide) (fun hc58 => ?_) (fun hc58 => ?_)
                    · (try rw [nI_leI (by omega) (by omega)] at hc58)
                      refine v_iinc_5 (v := -1) rfl dX12_putLending_91 (by decide) ?_
                      rw [pk_m1]
                      refine v_goto (tgt := 5) dX12_putLending_94 (by decide) ?_
                      refine ih _ _ rfl (by omega) (by omega) (by rw [ui_o (by omega), ui_o (by omega), ui_o (by omega), ui_o (by omega)]; exact j0) (fun z hz => ?_) (fun z h1 h2 => ?_) (fun p hp => by rw [ui_o (by omega), ui_o (by omega), ui_o (by omega), ui_o (by omega)]; exact j3 p hp) (fun x hx => by rw [ui_ne hx, ui_ne hx, ui_ne hx, ui_ne hx]; exact jx x hx)
                      · unfold Rw
                        simp only [ui_o (show 1 + 4 * z ≠ 1 + 4 * (i + 1) + 0 by omega), ui_o (show 1 + 4 * z ≠ 1 + 4 * (i + 1) + 1 by omega), ui_o (show 1 + 4 * z ≠ 1 + 4 * (i + 1) + 2 by omega), ui_o (show 1 + 4 * z ≠ 1 + 4 * (i + 1) + 3 by omega), ui_o (show 2 + 4 * z ≠ 1 + 4 * (i + 1) + 0 by omega), ui_o (show 2 + 4 * z ≠ 1 + 4 * (i + 1) + 1 by omega), ui_o (show 2 + 4 * z ≠ 1 + 4 * (i + 1) + 2 by omega), ui_o (show 2 + 4 * z ≠ 1 + 4 * (i + 1) + 3 by omega), ui_o (show 3 + 4 * z ≠ 1 + 4 * (i + 1) + 0 by omega), ui_o (show 3 + 4 * z ≠ 1 + 4 * (i + 1) + 1 by omega), ui_o (show 3 + 4 * z ≠ 1 + 4 * (i + 1) + 2 by omega), ui_o (show 3 + 4 * z ≠ 1 + 4 * (i + 1) + 3 by omega), ui_o (show 4 + 4 * z ≠ 1 + 4 * (i + 1) + 0 by omega), ui_o (show 4 + 4 * z ≠ 1 + 4 * (i + 1) + 1 by omega), ui_o (show 4 + 4 * z ≠ 1 + 4 * (i + 1) + 2 by omega), ui_o (show 4 + 4 * z ≠ 1 + 4 * (i + 1) + 3 by omega)]
                        exact j1 z (by omega)
                      · by_cases hzi : z = i
                        · subst hzi
                          refine ⟨?_, ?_, ?_, ?_⟩
                          · rw [ui_o (by omega), ui_o (by omega), ui_o (by omega), show 1 + 4 * (z + 1) = 1 + 4 * (z + 1) + 0 by omega, ui_s, hrw.m (by omega)]
                          · rw [ui_o (by omega), ui_o (by omega), show 2 + 4 * (z + 1) = 1 + 4 * (z + 1) + 1 by omega, ui_s, hrw.p (by omega)]
                          · rw [ui_o (by omega), show 3 + 4 * (z + 1) = 1 + 4 * (z + 1) + 2 by omega, ui_s, hrw.f (by omega)]
                          · rw [show 4 + 4 * (z + 1) = 1 + 4 * (z + 1) + 3 by omega, ui_s, hrw.u (by omega)]
                        · have := j2 z (by omega) h2
                          refine ⟨?_, ?_, ?_, ?_⟩
                          · rw [ui_o (by omega), ui_o (by omega), ui_o (by omega), ui_o (by omega)]; exact this.1
                          · rw [ui_o (by omega), ui_o (by omega), ui_o (by omega), ui_o (by omega)]; exact this.2.1
                          · rw [ui_o (by omega), ui_o (by omega), ui_o (by omega), ui_o (by omega)]; exact this.2.2.1
                          · rw [ui_o (by omega), ui_o (by omega), ui_o (by omega), ui_o (by omega)]; exact this.2.2.2
                    · exact absurd (by decide) hc58
          · (try rw [nI_ltI (by omega) (by omega)] at hc21)
            refine v_aload_0 dX12_putLending_24 ?_
            refine v_iconst (v := nI 1) dX12_putLending_25 (by decide) ?_
            refine v_iconst (v := nI 4) dX12_putLending_26 (by decide) ?_
            refine v_iload_5 dX12_putLending_27 ?_
            refine v_imul dX12_putLending_29 ?_
            refine v_iadd dX12_putLending_30 ?_
            refine v_iconst (v := nI 4) dX12_putLending_31 (by decide) ?_
            refine v_isub dX12_putLending_32 ?_
            rw [pk_mul, nI_add, pk_sub (by omega)]
            refine u_iald dX12_putLending_33 (by first | assumption | rfl | exact led_1 (by assumption) | exact led_2 (by assumption) | exact bk_m (by assumption) (by first | assumption | omega) | exact bk_p (by assumption) (by first | assumption | omega) | exact bk_o (by assumption) (by first | assumption | omega) | exact bk_s (by assumption) (by first | assumption | omega) | exact bk_1 (by assumption) | exact bk_2 (by assumption) | exact bk_3 (by assumption) | exact bk_4 (by assumption) | exact bk_5 (by assumption) | exact bk_6 (by assumption) | exact bk_7 (by assumption) | exact bk_8 (by assumption) | exact sh_ring _ (by first | assumption | omega) | exact sh_imgs _ (by first | assumption | omega)) (by first | with_reducible rfl | (simp only [nlit, nI_add, pk_mul]; with_reducible rfl) | rfl) (by first | assumption | omega) (by first | assumption | decide) ?_
            rw [hrw.m (by omega)]
            refine v_iload_1 dX12_putLending_34 ?_
            refine v_icmp_ne (tgt := 97) dX12_putLending_35 (by decide) (fun hc35 => ?_) (fun hc35 => ?_)
            · (try rw [nI_eq (by omega) (by omega)] at hc35)
              exfalso
              omega
            · (try rw [nI_eq (by omega) (by omega)] at hc35)
              refine v_aload_0 dX12_putLending_38 ?_
              refine v_iconst (v := nI 1) dX12_putLending_39 (by decide) ?_
              refine v_iconst (v := nI 4) dX12_putLending_40 (by decide) ?_
              refine v_iload_5 dX12_putLending_41 ?_
              refine v_imul dX12_putLending_43 ?_
              refine v_iadd dX12_putLending_44 ?_
              refine v_iconst (v := nI 2) dX12_putLending_45 (by decide) ?_
              refine v_isub dX12_putLending_46 ?_
              rw [pk_mul, nI_add, pk_sub (by omega)]
              refine u_iald dX12_putLending_47 (by first | assumption | rfl | exact led_1 (by assumption) | exact led_2 (by assumption) | exact bk_m (by assumption) (by first | assumption | omega) | exact bk_p (by assumption) (by first | assumption | omega) | exact bk_o (by assumption) (by first | assumption | omega) | exact bk_s (by assumption) (by first | assumption | omega) | exact bk_1 (by assumption) | exact bk_2 (by assumption) | exact bk_3 (by assumption) | exact bk_4 (by assumption) | exact bk_5 (by assumption) | exact bk_6 (by assumption) | exact bk_7 (by assumption) | exact bk_8 (by assumption) | exact sh_ring _ (by first | assumption | omega) | exact sh_imgs _ (by first | assumption | omega)) (by first | with_reducible rfl | (simp only [nlit, nI_add, pk_mul]; with_reducible rfl) | rfl) (by first | assumption | omega) (by first | assumption | decide) ?_
              rw [hrw.f (by omega)]
              refine v_iload_3 dX12_putLending_48 ?_
              refine v_icmp_le (tgt := 97) dX12_putLending_49 (by decide) (fun hc49 => ?_) (fun hc49 => ?_)
              · (try rw [nI_leI (by omega) (by omega)] at hc49)
                exfalso
                omega
              · (try rw [nI_leI (by omega) (by omega)] at hc49)
                refine v_iconst (v := nI 0) dX12_putLending_52 (by decide) ?_
                refine v_istore_6 rfl dX12_putLending_53 ?_
                refine v_iload_6 dX12_putLending_55 ?_
                refine v_iconst (v := nI 4) dX12_putLending_57 (by decide) ?_
                refine v_icmp_ge (tgt := 91) dX12_putLending_58 (by decide) (fun hc58 => ?_) (fun hc58 => ?_)
                · exact absurd hc58 (by decide)
                · (try rw [nI_leI (by omega) (by omega)] at hc58)
                  refine v_aload_0 dX12_putLending_61 ?_
                  refine v_iconst (v := nI 1) dX12_putLending_62 (by decide) ?_
                  refine v_iconst (v := nI 4) dX12_putLending_63 (by decide) ?_
                  refine v_iload_5 dX12_putLending_64 ?_
                  refine v_imul dX12_putLending_66 ?_
                  refine v_iadd dX12_putLending_67 ?_
                  refine v_iload_6 dX12_putLending_68 ?_
                  refine v_iadd dX12_putLending_70 ?_
                  refine v_aload_0 dX12_putLending_71 ?_
                  refine v_iconst (v := nI 1) dX12_putLending_72 (by decide) ?_
                  refine v_iconst (v := nI 4) dX12_putLending_73 (by decide) ?_
                  refine v_iload_5 dX12_putLending_74 ?_
                  refine v_imul dX12_putLending_76 ?_
                  refine v_iadd dX12_putLending_77 ?_
                  refine v_iconst (v := nI 4) dX12_putLending_78 (by decide) ?_
                  refine v_isub dX12_putLending_79 ?_
                  rw [pk_mul, nI_add, pk_sub (by omega)]
                  refine v_iload_6 dX12_putLending_80 ?_
                  refine v_iadd dX12_putLending_82 ?_
                  refine u_iald dX12_putLending_83 (by first | assumption | rfl | exact led_1 (by assumption) | exact led_2 (by assumption) | exact bk_m (by assumption) (by first | assumption | omega) | exact bk_p (by assumption) (by first | assumption | omega) | exact bk_o (by assumption) (by first | assumption | omega) | exact bk_s (by assumption) (by first | assumption | omega) | exact bk_1 (by assumption) | exact bk_2 (by assumption) | exact bk_3 (by assumption) | exact bk_4 (by assumption) | exact bk_5 (by assumption) | exact bk_6 (by assumption) | exact bk_7 (by assumption) | exact bk_8 (by assumption) | exact sh_ring _ (by first | assumption | omega) | exact sh_imgs _ (by first | assumption | omega)) (by first | with_reducible rfl | (simp only [nlit, nI_add, pk_mul]; with_reducible rfl) | rfl) (by first | assumption | omega) (by first | assumption | decide) ?_
                  skip
                  refine u_iast dX12_putLending_84 (by first | assumption | rfl | exact led_1 (by assumption) | exact led_2 (by assumption) | exact bk_m (by assumption) (by first | assumption | omega) | exact bk_p (by assumption) (by first | assumption | omega) | exact bk_o (by assumption) (by first | assumption | omega) | exact bk_s (by assumption) (by first | assumption | omega) | exact bk_1 (by assumption) | exact bk_2 (by assumption) | exact bk_3 (by assumption) | exact bk_4 (by assumption) | exact bk_5 (by assumption) | exact bk_6 (by assumption) | exact bk_7 (by assumption) | exact bk_8 (by assumption) | exact sh_ring _ (by first | assumption | omega) | exact sh_imgs _ (by first | assumption | omega)) (by first | with_reducible rfl | (simp only [nlit, nI_add, pk_mul]; with_reducible rfl) | rfl) (by first | assumption | omega) (by first | assumption | decide) ?_
                  refine v_iinc_6 (v := 1) rfl dX12_putLending_85 (by decide) ?_
                  rw [show nI 0 + 1 = nI 1 from rfl]
                  refine v_goto (tgt := 55) dX12_putLending_88 (by decide) ?_
                  refine v_iload_6 dX12_putLending_55 ?_
                  refine v_iconst (v := nI 4) dX12_putLending_57 (by decide) ?_
                  refine v_icmp_ge (tgt := 91) dX12_putLending_58 (by decide) (fun hc58 => ?_) (fun hc58 => ?_)
                  · exact absurd hc58 (by decide)
                  · (try rw [nI_leI (by omega) (by omega)] at hc58)
                    refine v_aload_0 dX12_putLending_61 ?_
                    refine v_iconst (v := nI 1) dX12_putLending_62 (by decide) ?_
                    refine v_iconst (v := nI 4) dX12_putLending_63 (by decide) ?_
                    refine v_iload_5 dX12_putLending_64 ?_
                    refine v_imul dX12_putLending_66 ?_
                    refine v_iadd dX12_putLending_67 ?_
                    refine v_iload_6 dX12_putLending_68 ?_
                    refine v_iadd dX12_putLending_70 ?_
                    refine v_aload_0 dX12_putLending_71 ?_
                    refine v_iconst (v := nI 1) dX12_putLending_72 (by decide) ?_
                    refine v_iconst (v := nI 4) dX12_putLending_73 (by decide) ?_
                    refine v_iload_5 dX12_putLending_74 ?_
                    refine v_imul dX12_putLending_76 ?_
                    refine v_iadd dX12_putLending_77 ?_
                    refine v_iconst (v := nI 4) dX12_putLending_78 (by decide) ?_
                    refine v_isub dX12_putLending_79 ?_
                    rw [pk_mul, nI_add, pk_sub (by omega)]
                    refine v_iload_6 dX12_putLending_80 ?_
                    refine v_iadd dX12_putLending_82 ?_
                    refine u_iald dX12_putLending_83 (by first | assumption | rfl | exact led_1 (by assumption) | exact led_2 (by assumption) | exact bk_m (by assumption) (by first | assumption | omega) | exact bk_p (by assumption) (by first | assumption | omega) | exact bk_o (by assumption) (by first | assumption | omega) | exact bk_s (by assumption) (by first | assumption | omega) | exact bk_1 (by assumption) | exact bk_2 (by assumption) | exact bk_3 (by assumption) | exact bk_4 (by assumption) | exact bk_5 (by assumption) | exact bk_6 (by assumption) | exact bk_7 (by assumption) | exact bk_8 (by assumption) | exact sh_ring _ (by first | assumption | omega) | exact sh_imgs _ (by first | assumption | omega)) (by first | with_reducible rfl | (simp only [nlit, nI_add, pk_mul]; with_reducible rfl) | rfl) (by first | assumption | omega) (by first | assumption | decide) ?_
                    rw [ui_o (by omega)]
                    refine u_iast dX12_putLending_84 (by first | assumption | rfl | exact led_1 (by assumption) | exact led_2 (by assumption) | exact bk_m (by assumption) (by first | assumption | omega) | exact bk_p (by assumption) (by first | assumption | omega) | exact bk_o (by assumption) (by first | assumption | omega) | exact bk_s (by assumption) (by first | assumption | omega) | exact bk_1 (by assumption) | exact bk_2 (by assumption) | exact bk_3 (by assumption) | exact bk_4 (by assumption) | exact bk_5 (by assumption) | exact bk_6 (by assumption) | exact bk_7 (by assumption) | exact bk_8 (by assumption) | exact sh_ring _ (by first | assumption | omega) | exact sh_imgs _ (by first | assumption | omega)) (by first | with_reducible rfl | (simp only [nlit, nI_add, pk_mul]; with_reducible rfl) | rfl) (by first | assumption | omega) (by first | assumption | decide) ?_
                    refine v_iinc_6 (v := 1) rfl dX12_putLending_85 (by decide) ?_
                    rw [show nI 1 + 1 = nI 2 from rfl]
                    refine v_goto (tgt := 55) dX12_putLending_88 (by decide) ?_
                    refine v_iload_6 dX12_putLending_55 ?_
                    refine v_iconst (v := nI 4) dX12_putLending_57 (by decide) ?_
                    refine v_icmp_ge (tgt := 91) dX12_putLending_58 (by decide) (fun hc58 => ?_) (fun hc58 => ?_)
                    · exact absurd hc58 (by decide)
                    · (try rw [nI_leI (by omega) (by omega)] at hc58)
                      refine v_aload_0 dX12_putLending_61 ?_
                      refine v_iconst (v := nI 1) dX12_putLending_62 (by decide) ?_
                      refine v_iconst (v := nI 4) dX12_putLending_63 (by decide) ?_
                      refine v_iload_5 dX12_putLending_64 ?_
                      refine v_imul dX12_putLending_66 ?_
                      refine v_iadd dX12_putLending_67 ?_
                      refine v_iload_6 dX12_putLending_68 ?_
                      refine v_iadd dX12_putLending_70 ?_
                      refine v_aload_0 dX12_putLending_71 ?_
                      refine v_iconst (v := nI 1) dX12_putLending_72 (by decide) ?_
                      refine v_iconst (v := nI 4) dX12_putLending_73 (by decide) ?_
                      refine v_iload_5 dX12_putLending_74 ?_
                      refine v_imul dX12_putLending_76 ?_
                      refine v_iadd dX12_putLending_77 ?_
                      refine v_iconst (v := nI 4) dX12_putLending_78 (by decide) ?_
                      refine v_isub dX12_putLending_79 ?_
                      rw [pk_mul, nI_add, pk_sub (by omega)]
                      refine v_iload_6 dX12_putLending_80 ?_
                      refine v_iadd dX12_putLending_82 ?_
                      refine u_iald dX12_putLending_83 (by first | assumption | rfl | exact led_1 (by assumption) | exact led_2 (by assumption) | exact bk_m (by assumption) (by first | assumption | omega) | exact bk_p (by assumption) (by first | assumption | omega) | exact bk_o (by assumption) (by first | assumption | omega) | exact bk_s (by assumption) (by first | assumption | omega) | exact bk_1 (by assumption) | exact bk_2 (by assumption) | exact bk_3 (by assumption) | exact bk_4 (by assumption) | exact bk_5 (by assumption) | exact bk_6 (by assumption) | exact bk_7 (by assumption) | exact bk_8 (by assumption) | exact sh_ring _ (by first | assumption | omega) | exact sh_imgs _ (by first | assumption | omega)) (by first | with_reducible rfl | (simp only [nlit, nI_add, pk_mul]; with_reducible rfl) | rfl) (by first | assumption | omega) (by first | assumption | decide) ?_
                      rw [ui_o (by omega), ui_o (by omega)]
                      refine u_iast dX12_putLending_84 (by first | assumption | rfl | exact led_1 (by assumption) | exact led_2 (by assumption) | exact bk_m (by assumption) (by first | assumption | omega) | exact bk_p (by assumption) (by first | assumption | omega) | exact bk_o (by assumption) (by first | assumption | omega) | exact bk_s (by assumption) (by first | assumption | omega) | exact bk_1 (by assumption) | exact bk_2 (by assumption) | exact bk_3 (by assumption) | exact bk_4 (by assumption) | exact bk_5 (by assumption) | exact bk_6 (by assumption) | exact bk_7 (by assumption) | exact bk_8 (by assumption) | exact sh_ring _ (by first | assumption | omega) | exact sh_imgs _ (by first | assumption | omega)) (by first | with_reducible rfl | (simp only [nlit, nI_add, pk_mul]; with_reducible rfl) | rfl) (by first | assumption | omega) (by first | assumption | decide) ?_
                      refine v_iinc_6 (v := 1) rfl dX12_putLending_85 (by decide) ?_
                      rw [show nI 2 + 1 = nI 3 from rfl]
                      refine v_goto (tgt := 55) dX12_putLending_88 (by decide) ?_
                      refine v_iload_6 dX12_putLending_55 ?_
                      refine v_iconst (v := nI 4) dX12_putLending_57 (by decide) ?_
                      refine v_icmp_ge (tgt := 91) dX12_putLending_58 (by decide) (fun hc58 => ?_) (fun hc58 => ?_)
                      · exact absurd hc58 (by decide)
                      · (try rw [nI_leI (by omega) (by omega)] at hc58)
                        refine v_aload_0 dX12_putLending_61 ?_
                        refine v_iconst (v := nI 1) dX12_putLending_62 (by decide) ?_
                        refine v_iconst (v := nI 4) dX12_putLending_63 (by decide) ?_
                        refine v_iload_5 dX12_putLending_64 ?_
                        refine v_imul dX12_putLending_66 ?_
                        refine v_iadd dX12_putLending_67 ?_
                        refine v_iload_6 dX12_putLending_68 ?_
                        refine v_iadd dX12_putLending_70 ?_
                        refine v_aload_0 dX12_putLending_71 ?_
                        refine v_iconst (v := nI 1) dX12_putLending_72 (by decide) ?_
                        refine v_iconst (v := nI 4) dX12_putLending_73 (by decide) ?_
                        refine v_iload_5 dX12_putLending_74 ?_
                        refine v_imul dX12_putLending_76 ?_
                        refine v_iadd dX12_putLending_77 ?_
                        refine v_iconst (v := nI 4) dX12_putLending_78 (by decide) ?_
                        refine v_isub dX12_putLending_79 ?_
                        rw [pk_mul, nI_add, pk_sub (by omega)]
                        refine v_iload_6 dX12_putLending_80 ?_
                        refine v_iadd dX12_putLending_82 ?_
                        refine u_iald dX12_putLending_83 (by first | assumption | rfl | exact led_1 (by assumption) | exact led_2 (by assumption) | exact bk_m (by assumption) (by first | assumption | omega) | exact bk_p (by assumption) (by first | assumption | omega) | exact bk_o (by assumption) (by first | assumption | omega) | exact bk_s (by assumption) (by first | assumption | omega) | exact bk_1 (by assumption) | exact bk_2 (by assumption) | exact bk_3 (by assumption) | exact bk_4 (by assumption) | exact bk_5 (by assumption) | exact bk_6 (by assumption) | exact bk_7 (by assumption) | exact bk_8 (by assumption) | exact sh_ring _ (by first | assumption | omega) | exact sh_imgs _ (by first | assumption | omega)) (by first | with_reducible rfl | (simp only [nlit, nI_add, pk_mul]; with_reducible rfl) | rfl) (by first | assumption | omega) (by first | assumption | decide) ?_
                        rw [ui_o (by omega), ui_o (by omega), ui_o (by omega)]
                        refine u_iast dX12_putLending_84 (by first | assumption | rfl | exact led_1 (by assumption) | exact led_2 (by assumption) | exact bk_m (by assumption) (by first | assumption | omega) | exact bk_p (by assumption) (by first | assumption | omega) | exact bk_o (by assumption) (by first | assumption | omega) | exact bk_s (by assumption) (by first | assumption | omega) | exact bk_1 (by assumption) | exact bk_2 (by assumption) | exact bk_3 (by assumption) | exact bk_4 (by assumption) | exact bk_5 (by assumption) | exact bk_6 (by assumption) | exact bk_7 (by assumption) | exact bk_8 (by assumption) | exact sh_ring _ (by first | assumption | omega) | exact sh_imgs _ (by first | assumption | omega)) (by first | with_reducible rfl | (simp only [nlit, nI_add, pk_mul]; with_reducible rfl) | rfl) (by first | assumption | omega) (by first | assumption | decide) ?_
                        refine v_iinc_6 (v := 1) rfl dX12_putLending_85 (by decide) ?_
                        rw [show nI 3 + 1 = nI 4 from rfl]
                        refine v_goto (tgt := 55) dX12_putLending_88 (by decide) ?_
                        refine v_iload_6 dX12_putLending_55 ?_
                        refine v_iconst (v := nI 4) dX12_putLending_57 (by decide) ?_
                        refine v_icmp_ge (tgt := 91) dX12_putLending_58 (by decide) (fun hc58 => ?_) (fun hc58 => ?_)
                        · (try rw [nI_leI (by omega) (by omega)] at hc58)
                          refine v_iinc_5 (v := -1) rfl dX12_putLending_91 (by decide) ?_
                          rw [pk_m1]
                          refine v_goto (tgt := 5) dX12_putLending_94 (by decide) ?_
                          refine ih _ _ rfl (by omega) (by omega) (by rw [ui_o (by omega), ui_o (by omega), ui_o (by omega), ui_o (by omega)]; exact j0) (fun z hz => ?_) (fun z h1 h2 => ?_) (fun p hp => by rw [ui_o (by omega), ui_o (by omega), ui_o (by omega), ui_o (by omega)]; exact j3 p hp) (fun x hx => by rw [ui_ne hx, ui_ne hx, ui_ne hx, ui_ne hx]; exact jx x hx)
                          · unfold Rw
                            simp only [ui_o (show 1 + 4 * z ≠ 1 + 4 * (i + 1) + 0 by omega), ui_o (show 1 + 4 * z ≠ 1 + 4 * (i + 1) + 1 by omega), ui_o (show 1 + 4 * z ≠ 1 + 4 * (i + 1) + 2 by omega), ui_o (show 1 + 4 * z ≠ 1 + 4 * (i + 1) + 3 by omega), ui_o (show 2 + 4 * z ≠ 1 + 4 * (i + 1) + 0 by omega), ui_o (show 2 + 4 * z ≠ 1 + 4 * (i + 1) + 1 by omega), ui_o (show 2 + 4 * z ≠ 1 + 4 * (i + 1) + 2 by omega), ui_o (show 2 + 4 * z ≠ 1 + 4 * (i + 1) + 3 by omega), ui_o (show 3 + 4 * z ≠ 1 + 4 * (i + 1) + 0 by omega), ui_o (show 3 + 4 * z ≠ 1 + 4 * (i + 1) + 1 by omega), ui_o (show 3 + 4 * z ≠ 1 + 4 * (i + 1) + 2 by omega), ui_o (show 3 + 4 * z ≠ 1 + 4 * (i + 1) + 3 by omega), ui_o (show 4 + 4 * z ≠ 1 + 4 * (i + 1) + 0 by omega), ui_o (show 4 + 4 * z ≠ 1 + 4 * (i + 1) + 1 by omega), ui_o (show 4 + 4 * z ≠ 1 + 4 * (i + 1) + 2 by omega), ui_o (show 4 + 4 * z ≠ 1 + 4 * (i + 1) + 3 by omega)]
                            exact j1 z (by omega)
                          · by_cases hzi : z = i
                            · subst hzi
                              refine ⟨?_, ?_, ?_, ?_⟩
                              · rw [ui_o (by omega), ui_o (by omega), ui_o (by omega), show 1 + 4 * (z + 1) = 1 + 4 * (z + 1) + 0 by omega, ui_s, hrw.m (by omega)]
                              · rw [ui_o (by omega), ui_o (by omega), show 2 + 4 * (z + 1) = 1 + 4 * (z + 1) + 1 by omega, ui_s, hrw.p (by omega)]
                              · rw [ui_o (by omega), show 3 + 4 * (z + 1) = 1 + 4 * (z + 1) + 2 by omega, ui_s, hrw.f (by omega)]
                              · rw [show 4 + 4 * (z + 1) = 1 + 4 * (z + 1) + 3 by omega, ui_s, hrw.u (by omega)]
                            · have := j2 z (by omega) h2
                              refine ⟨?_, ?_, ?_, ?_⟩
                              · rw [ui_o (by omega), ui_o (by omega), ui_o (by omega), ui_o (by omega)]; exact this.1
                              · rw [ui_o (by omega), ui_o (by omega), ui_o (by omega), ui_o (by omega)]; exact this.2.1
                              · rw [ui_o (by omega), ui_o (by omega), ui_o (by omega), ui_o (by omega)]; exact this.2.2.1
                              · rw [ui_o (by omega), ui_o (by omega), ui_o (by omega), ui_o (by omega)]; exact this.2.2.2
                        · exact absurd (by decide) hc58
  refine K.of (M := mX12_putLending) (lv := [some (.ref (b + c)), some (.int (nI m)), some (.int (nI p)), some (.int (nI f)), some (.int (nI u)), none, none]) (by decide) (Nat.le_of_ble_eq_true rfl) rfl ?_
  refine v_aload_0 dX12_putLending_0 ?_
  refine v_iconst (v := nI 0) dX12_putLending_1 (by decide) ?_
  refine u_iald dX12_putLending_2 (by first | assumption | rfl | exact led_1 (by assumption) | exact led_2 (by assumption) | exact bk_m (by assumption) (by first | assumption | omega) | exact bk_p (by assumption) (by first | assumption | omega) | exact bk_o (by assumption) (by first | assumption | omega) | exact bk_s (by assumption) (by first | assumption | omega) | exact bk_1 (by assumption) | exact bk_2 (by assumption) | exact bk_3 (by assumption) | exact bk_4 (by assumption) | exact bk_5 (by assumption) | exact bk_6 (by assumption) | exact bk_7 (by assumption) | exact bk_8 (by assumption) | exact sh_ring _ (by first | assumption | omega) | exact sh_imgs _ (by first | assumption | omega)) (by first | with_reducible rfl | (simp only [nlit, nI_add, pk_mul]; with_reducible rfl) | rfl) (by first | assumption | omega) (by first | assumption | decide) ?_
  rw [hS.1]
  refine v_istore_5 rfl dX12_putLending_3 ?_
  exact loop s.1 I none rfl hil (Nat.le_refl _) hS.1 (fun z hz => by have := hS.2.1 z hz; rw [Nat.zero_add, Nat.zero_add, Nat.zero_add, Nat.zero_add] at this; exact this) (fun z h1 h2 => absurd h2 (by omega)) (fun p hp => by have := hS.2.2 p hp; rw [Nat.zero_add] at this; exact this) (fun _ _ => rfl)
end
