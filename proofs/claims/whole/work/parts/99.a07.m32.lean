section
variable {b : Nat} {ad : Nat → Nat} {I J : HI} {L M : HL} {R : HR} {Q : QT} {F : bkF} {s : LSt} {a o : Nat}
theorem l_plS {d y m z p0 : Nat} (hR : RO R) (hr : RfI J F s) (hd : d < 2 ^ 30) (hw : PwP J F d (F 2) 0) (hb : ∀ m, m ≤ F 2 → ∀ q, q < 64 → J 168 (64 * m + q) = zI (bzc F d (F 2 - m) q)) (hm : m < F 2) (hz : z < 64) (hp0 : p0 < F 3) (h1 : pkr F d m z p0 = true) (h2 : ∀ q, q < p0 → pkr F d m z q = false) (next : VV yX12_plan cX12_plan 7 (some .int) 8 Q b ad 158 [some (.ref (b + 157)), some (.int (nI d)), some (.int (nI y)), some (.int (zI (bzc F d (F 2 - m) z))), some (.int (nI z)), some (.int (nI m)), some (.int (nI p0))] [] J L R) : ∀ (j p : Nat), p + j = p0 → VV yX12_plan cX12_plan 7 (some .int) 8 Q b ad 88 [some (.ref (b + 157)), some (.int (nI d)), some (.int (nI y)), some (.int (zI (bzc F d (F 2 - m) z))), some (.int (nI z)), some (.int (nI m)), some (.int (nI p))] [] J L R := by
  have hO := hr.1.2.2.1
  have o2 := hO.2.2.1
  have o3 := hO.2.2.2.1
  have o5 := hO.2.2.2.2.2.1
  have o0 := hO.1
  have hF := hr.1.1.2
  have hS := hr.2.1
  have hK := hr.2.2
  have hF := hr.1.1.2
  have c1 := bzc_b hO d (F 2 - m) z
  have c2 : ((F 2 - m : Nat) : Int) ≤ 6 := by omega
  have pre : ∀ p, p < F 3 → 2 ^ p < 2 ^ 6 ∧ z ||| 2 ^ p < 2 ^ 6 ∧ -20000 < balz F m (some p) d + bzc F d (F 2 - (m + 1)) (z ||| 2 ^ p) ∧ balz F m (some p) d + bzc F d (F 2 - (m + 1)) (z ||| 2 ^ p) < 20000 := fun p hp => by
    have h2p : 2 ^ p < 2 ^ 6 := Nat.pow_lt_pow_right (by decide) (by omega)
    have b1 := bzc_b hO d (F 2 - (m + 1)) (z ||| 2 ^ p)
    have b2 := balz_b hO m (some p) d
    have b3 : ((F 2 - (m + 1) : Nat) : Int) ≤ 6 := by omega
    exact ⟨h2p, Nat.or_lt_two_pow (by omega) h2p, by omega, by omega⟩
  intro j
  induction j with
  | zero =>
    intro p hp
    have e : p = p0 := by omega
    subst e
    obtain ⟨g1, g2, g3, g4⟩ := pre p hp0
    unfold pkr at h1
    rw [Bool.and_eq_true, Bool.and_eq_true, decide_eq_true_eq, Bool.not_eq_true'] at h1
    obtain ⟨⟨k1, k2⟩, k3⟩ := h1
    refine v_iload_4 dX12_plan_88 ?_
    refine v_iload_6 dX12_plan_90 ?_
    refine u_callS_2 dX12_plan_92 ml_X12_158 ms_X12_has (by decide) (Nat.le_of_ble_eq_true rfl) (c_X12_has (by omega) (by omega) ?_)
    refine v_if_ne (tgt := 152) dX12_plan_95 (by decide) (fun hc95 => ?_) (fun hc95 => ?_)
    · (rw [k1] at hc95; exact absurd rfl hc95)
    · (first | rw [bI_0, Bool.not_eq_false] at hc95 | rw [bI_0] at hc95 | rw [show (0 : Int32) = nI 0 from rfl, nI_eq (by omega) (by omega)] at hc95 | skip)
      refine v_aload_0 dX12_plan_98 ?_
      refine u_getR dX12_plan_99 gf_X12_20 (by first | assumption | rfl | exact led_1 (by assumption) | exact led_2 (by assumption) | exact bk_m (by assumption) (by first | assumption | omega) | exact bk_p (by assumption) (by first | assumption | omega) | exact bk_o (by assumption) (by first | assumption | omega) | exact bk_s (by assumption) (by first | assumption | omega) | exact bk_1 (by assumption) | exact bk_2 (by assumption) | exact bk_3 (by assumption) | exact bk_4 (by assumption) | exact bk_5 (by assumption) | exact bk_6 (by assumption) | exact bk_7 (by assumption) | exact bk_8 (by assumption) | exact sh_ring _ (by first | assumption | omega) | exact sh_imgs _ (by first | assumption | omega)) (ro_X12_15 (by assumption)) ?_
      refine v_iload_5 dX12_plan_102 ?_
      refine v_iload_6 dX12_plan_104 ?_
      refine u_callS_3 dX12_plan_106 ml_X12_296 ms_X12_doesFit (by decide) (Nat.le_of_ble_eq_true rfl) (c_X12_doesFit (p := p) hr.1.1 hO hm (by omega) ?_)
      refine v_if_eq (tgt := 152) dX12_plan_109 (by decide) (fun hc109 => ?_) (fun hc109 => ?_)
      · (rw [k2] at hc109; exact absurd hc109 (by decide))
      · (first | rw [bI_0, Bool.not_eq_false] at hc109 | rw [bI_0] at hc109 | rw [show (0 : Int32) = nI 0 from rfl, nI_eq (by omega) (by omega)] at hc109 | skip)
        refine v_aload_0 dX12_plan_112 ?_
        refine u_getR dX12_plan_113 gf_X12_47 (by first | assumption | rfl | exact led_1 (by assumption) | exact led_2 (by assumption) | exact bk_m (by assumption) (by first | assumption | omega) | exact bk_p (by assumption) (by first | assumption | omega) | exact bk_o (by assumption) (by first | assumption | omega) | exact bk_s (by assumption) (by first | assumption | omega) | exact bk_1 (by assumption) | exact bk_2 (by assumption) | exact bk_3 (by assumption) | exact bk_4 (by assumption) | exact bk_5 (by assumption) | exact bk_6 (by assumption) | exact bk_7 (by assumption) | exact bk_8 (by assumption) | exact sh_ring _ (by first | assumption | omega) | exact sh_imgs _ (by first | assumption | omega)) (ro_X12_27 (by assumption)) ?_
        refine v_bipush (v := nI 7) dX12_plan_116 (by decide) ?_
        refine v_iload_5 dX12_plan_118 ?_
        refine v_imul dX12_plan_120 ?_
        refine v_iload_6 dX12_plan_121 ?_
        refine v_iadd dX12_plan_123 ?_
        refine v_iconst (v := nI 1) dX12_plan_124 (by decide) ?_
        refine v_iadd dX12_plan_125 ?_
        refine u_iald dX12_plan_126 (by first | assumption | rfl | exact led_1 (by assumption) | exact led_2 (by assumption) | exact bk_m (by assumption) (by first | assumption | omega) | exact bk_p (by assumption) (by first | assumption | omega) | exact bk_o (by assumption) (by first | assumption | omega) | exact bk_s (by assumption) (by first | assumption | omega) | exact bk_1 (by assumption) | exact bk_2 (by assumption) | exact bk_3 (by assumption) | exact bk_4 (by assumption) | exact bk_5 (by assumption) | exact bk_6 (by assumption) | exact bk_7 (by assumption) | exact bk_8 (by assumption) | exact sh_ring _ (by first | assumption | omega) | exact sh_imgs _ (by first | assumption | omega)) (by first | with_reducible rfl | (simp only [nlit, nI_add, pk_mul]; with_reducible rfl) | rfl) (by first | assumption | omega) (by first | assumption | decide) ?_
        rw [show J 169 (7 * m + p + 1) = zI (balz F m (some p) d) from hw m hm (p + 1) (by omega) (Or.inl hm)]
        refine v_aload_0 dX12_plan_127 ?_
        refine u_getR dX12_plan_128 gf_X12_44 (by first | assumption | rfl | exact led_1 (by assumption) | exact led_2 (by assumption) | exact bk_m (by assumption) (by first | assumption | omega) | exact bk_p (by assumption) (by first | assumption | omega) | exact bk_o (by assumption) (by first | assumption | omega) | exact bk_s (by assumption) (by first | assumption | omega) | exact bk_1 (by assumption) | exact bk_2 (by assumption) | exact bk_3 (by assumption) | exact bk_4 (by assumption) | exact bk_5 (by assumption) | exact bk_6 (by assumption) | exact bk_7 (by assumption) | exact bk_8 (by assumption) | exact sh_ring _ (by first | assumption | omega) | exact sh_imgs _ (by first | assumption | omega)) (ro_X12_26 (by assumption)) ?_
        refine v_bipush (v := nI 64) dX12_plan_131 (by decide) ?_
        refine v_iload_5 dX12_plan_133 ?_
        refine v_iconst (v := nI 1) dX12_plan_135 (by decide) ?_
        refine v_iadd dX12_plan_136 ?_
        refine v_imul dX12_plan_137 ?_
        refine v_iload_4 dX12_plan_138 ?_
        refine v_iconst (v := nI 1) dX12_plan_140 (by decide) ?_
        refine v_iload_6 dX12_plan_141 ?_
        refine v_ishl dX12_plan_143 ?_
        rw [one_shl (by omega)]
        refine v_ior dX12_plan_144 ?_
        rw [nx_or]
        refine v_iadd dX12_plan_145 ?_
        refine u_iald dX12_plan_146 (by first | assumption | rfl | exact led_1 (by assumption) | exact led_2 (by assumption) | exact bk_m (by assumption) (by first | assumption | omega) | exact bk_p (by assumption) (by first | assumption | omega) | exact bk_o (by assumption) (by first | assumption | omega) | exact bk_s (by assumption) (by first | assumption | omega) | exact bk_1 (by assumption) | exact bk_2 (by assumption) | exact bk_3 (by assumption) | exact bk_4 (by assumption) | exact bk_5 (by assumption) | exact bk_6 (by assumption) | exact bk_7 (by assumption) | exact bk_8 (by assumption) | exact sh_ring _ (by first | assumption | omega) | exact sh_imgs _ (by first | assumption | omega)) (by first | with_reducible rfl | (simp only [nlit, nI_add, pk_mul]; with_reducible rfl) | rfl) (by first | assumption | omega) (by first | assumption | decide) ?_
        rw [hb (m + 1) (by omega) (z ||| 2 ^ p) (by omega)]
        refine v_iadd dX12_plan_147 ?_
        rw [zI_add]
        refine v_iload_3 dX12_plan_148 ?_
        refine v_icmp_eq (tgt := 158) dX12_plan_149 (by decide) (fun hc149 => ?_) (fun hc149 => ?_)
        · rw [zI_eq (by omega) (by omega) (by omega) (by omega)] at hc149
          exact next
        · exact absurd (by rw [k3]) hc149
  | succ j ih =>
    intro p hp
    obtain ⟨g1, g2, g3, g4⟩ := pre p (by omega)
    have h3 := h2 p (by omega)
    unfold pkr at h3
    refine v_iload_4 dX12_plan_88 ?_
    refine v_iload_6 dX12_plan_90 ?_
    refine u_callS_2 dX12_plan_92 ml_X12_158 ms_X12_has (by decide) (Nat.le_of_ble_eq_true rfl) (c_X12_has (by omega) (by omega) ?_)
    refine v_if_ne (tgt := 152) dX12_plan_95 (by decide) (fun hc95 => ?_) (fun hc95 => ?_)
    · (first | rw [bI_0, Bool.not_eq_false] at hc95 | rw [bI_0] at hc95 | rw [show (0 : Int32) = nI 0 from rfl, nI_eq (by omega) (by omega)] at hc95 | skip)
      refine v_iinc_6 (v := 1) rfl dX12_plan_152 (by decide) ?_
      rw [show nI p + 1 = nI (p + 1) from nI_1 p]
      refine v_goto (tgt := 88) dX12_plan_155 (by decide) ?_
      exact ih (p + 1) (by omega)
    · (first | rw [bI_0, Bool.not_eq_false] at hc95 | rw [bI_0] at hc95 | rw [show (0 : Int32) = nI 0 from rfl, nI_eq (by omega) (by omega)] at hc95 | skip)
      refine v_aload_0 dX12_plan_98 ?_
      refine u_getR dX12_plan_99 gf_X12_20 (by first | assumption | rfl | exact led_1 (by assumption) | exact led_2 (by assumption) | exact bk_m (by assumption) (by first | assumption | omega) | exact bk_p (by assumption) (by first | assumption | omega) | exact bk_o (by assumption) (by first | assumption | omega) | exact bk_s (by assumption) (by first | assumption | omega) | exact bk_1 (by assumption) | exact bk_2 (by assumption) | exact bk_3 (by assumption) | exact bk_4 (by assumption) | exact bk_5 (by assumption) | exact bk_6 (by assumption) | exact bk_7 (by assumption) | exact bk_8 (by assumption) | exact sh_ring _ (by first | assumption | omega) | exact sh_imgs _ (by first | assumption | omega)) (ro_X12_15 (by assumption)) ?_
      refine v_iload_5 dX12_plan_102 ?_
      refine v_iload_6 dX12_plan_104 ?_
      refine u_callS_3 dX12_plan_106 ml_X12_296 ms_X12_doesFit (by decide) (Nat.le_of_ble_eq_true rfl) (c_X12_doesFit (p := p) hr.1.1 hO hm (by omega) ?_)
      refine v_if_eq (tgt := 152) dX12_plan_109 (by decide) (fun hc109 => ?_) (fun hc109 => ?_)
      · (first | rw [bI_0, Bool.not_eq_false] at hc109 | rw [bI_0] at hc109 | rw [show (0 : Int32) = nI 0 from rfl, nI_eq (by omega) (by omega)] at hc109 | skip)
        refine v_iinc_6 (v := 1) rfl dX12_plan_152 (by decide) ?_
        rw [show nI p + 1 = nI (p + 1) from nI_1 p]
        refine v_goto (tgt := 88) dX12_plan_155 (by decide) ?_
        exact ih (p + 1) (by omega)
      · (first | rw [bI_0, Bool.not_eq_false] at hc109 | rw [bI_0] at hc109 | rw [show (0 : Int32) = nI 0 from rfl, nI_eq (by omega) (by omega)] at hc109 | skip)
        refine v_aload_0 dX12_plan_112 ?_
        refine u_getR dX12_plan_113 gf_X12_47 (by first | assumption | rfl | exact led_1 (by assumption) | exact led_2 (by assumption) | exact bk_m (by assumption) (by first | assumption | omega) | exact bk_p (by assumption) (by first | assumption | omega) | exact bk_o (by assumption) (by first | assumption | omega) | exact bk_s (by assumption) (by first | assumption | omega) | exact bk_1 (by assumption) | exact bk_2 (by assumption) | exact bk_3 (by assumption) | exact bk_4 (by assumption) | exact bk_5 (by assumption) | exact bk_6 (by assumption) | exact bk_7 (by assumption) | exact bk_8 (by assumption) | exact sh_ring _ (by first | assumption | omega) | exact sh_imgs _ (by first | assumption | omega)) (ro_X12_27 (by assumption)) ?_
        refine v_bipush (v := nI 7) dX12_plan_116 (by decide) ?_
        refine v_iload_5 dX12_plan_118 ?_
        refine v_imul dX12_plan_120 ?_
        refine v_iload_6 dX12_plan_121 ?_
        refine v_iadd dX12_plan_123 ?_
        refine v_iconst (v := nI 1) dX12_plan_124 (by decide) ?_
        refine v_iadd dX12_plan_125 ?_
        refine u_iald dX12_plan_126 (by first | assumption | rfl | exact led_1 (by assumption) | exact led_2 (by assumption) | exact bk_m (by assumption) (by first | assumption | omega) | exact bk_p (by assumption) (by first | assumption | omega) | exact bk_o (by assumption) (by first | assumption | omega) | exact bk_s (by assumption) (by first | assumption | omega) | exact bk_1 (by assumption) | exact bk_2 (by assumption) | exact bk_3 (by assumption) | exact bk_4 (by assumption) | exact bk_5 (by assumption) | exact bk_6 (by assumption) | exact bk_7 (by assumption) | exact bk_8 (by assumption) | exact sh_ring _ (by first | assumption | omega) | exact sh_imgs _ (by first | assumption | omega)) (by first | with_reducible rfl | (simp only [nlit, nI_add, pk_mul]; with_reducible rfl) | rfl) (by first | assumption | omega) (by first | assumption | decide) ?_
        rw [show J 169 (7 * m + p + 1) = zI (balz F m (some p) d) from hw m hm (p + 1) (by omega) (Or.inl hm)]
        refine v_aload_0 dX12_plan_127 ?_
        refine u_getR dX12_plan_128 gf_X12_44 (by first | assumption | rfl | exact led_1 (by assumption) | exact led_2 (by assumption) | exact bk_m (by assumption) (by first | assumption | omega) | exact bk_p (by assumption) (by first | assumption | omega) | exact bk_o (by assumption) (by first | assumption | omega) | exact bk_s (by assumption) (by first | assumption | omega) | exact bk_1 (by assumption) | exact bk_2 (by assumption) | exact bk_3 (by assumption) | exact bk_4 (by assumption) | exact bk_5 (by assumption) | exact bk_6 (by assumption) | exact bk_7 (by assumption) | exact bk_8 (by assumption) | exact sh_ring _ (by first | assumption | omega) | exact sh_imgs _ (by first | assumption | omega)) (ro_X12_26 (by assumption)) ?_
        refine v_bipush (v := nI 64) dX12_plan_131 (by decide) ?_
        refine v_iload_5 dX12_plan_133 ?_
        refine v_iconst (v := nI 1) dX12_plan_135 (by decide) ?_
        refine v_iadd dX12_plan_136 ?_
        refine v_imul dX12_plan_137 ?_
        refine v_iload_4 dX12_plan_138 ?_
        refine v_iconst (v := nI 1) dX12_plan_140 (by decide) ?_
        refine v_iload_6 dX12_plan_141 ?_
        refine v_ishl dX12_plan_143 ?_
        rw [one_shl (by omega)]
        refine v_ior dX12_plan_144 ?_
        rw [nx_or]
        refine v_iadd dX12_plan_145 ?_
        refine u_iald dX12_plan_146 (by first | assumption | rfl | exact led_1 (by assumption) | exact led_2 (by assumption) | exact bk_m (by assumption) (by first | assumption | omega) | exact bk_p (by assumption) (by first | assumption | omega) | exact bk_o (by assumption) (by first | assumption | omega) | exact bk_s (by assumption) (by first | assumption | omega) | exact bk_1 (by assumption) | exact bk_2 (by assumption) | exact bk_3 (by assumption) | exact bk_4 (by assumption) | exact bk_5 (by assumption) | exact bk_6 (by assumption) | exact bk_7 (by assumption) | exact bk_8 (by assumption) | exact sh_ring _ (by first | assumption | omega) | exact sh_imgs _ (by first | assumption | omega)) (by first | with_reducible rfl | (simp only [nlit, nI_add, pk_mul]; with_reducible rfl) | rfl) (by first | assumption | omega) (by first | assumption | decide) ?_
        rw [hb (m + 1) (by omega) (z ||| 2 ^ p) (by omega)]
        refine v_iadd dX12_plan_147 ?_
        rw [zI_add]
        refine v_iload_3 dX12_plan_148 ?_
        refine v_icmp_eq (tgt := 158) dX12_plan_149 (by decide) (fun hc149 => ?_) (fun hc149 => ?_)
        · (rw [zI_eq (by omega) (by omega) (by omega) (by omega)] at hc149; simp only [hc95, hc109, decide_eq_true hc149] at h3; exact absurd h3 (by decide))
        · rw [zI_eq (by omega) (by omega) (by omega) (by omega)] at hc149
          refine v_iinc_6 (v := 1) rfl dX12_plan_152 (by decide) ?_
          rw [show nI p + 1 = nI (p + 1) from nI_1 p]
          refine v_goto (tgt := 88) dX12_plan_155 (by decide) ?_
          exact ih (p + 1) (by omega)
theorem l_plL {d y : Nat} (hR : RO R) (hr : RfI J F s) (hd : d < 2 ^ 30) (hw : PwP J F d (F 2) 0) (hb : ∀ m, m ≤ F 2 → ∀ q, q < 64 → J 168 (64 * m + q) = zI (bzc F d (F 2 - m) q)) (hy : y < F 2) (hQ : Q (some (.int (eP (chz F d 0 (y + 1) 0 none)))) SH J L R) : ∀ (k m z : Nat) (c : Option Nat) (x6 : Option Value), m + k = y → z < 64 → chz F d m (k + 1) z c = chz F d 0 (y + 1) 0 none → VV yX12_plan cX12_plan 7 (some .int) 8 Q b ad 45 [some (.ref (b + 157)), some (.int (nI d)), some (.int (nI y)), some (.int (zI (bzc F d (F 2 - m) z))), some (.int (nI z)), some (.int (nI m)), x6] [] J L R := by
  have hO := hr.1.2.2.1
  have o2 := hO.2.2.1
  have o3 := hO.2.2.2.1
  have o5 := hO.2.2.2.2.2.1
  have o0 := hO.1
  have hF := hr.1.1.2
  have hS := hr.2.1
  have hK := hr.2.2
  have hF := hr.1.1.2
  intro k
  have look : ∀ (m z : Nat) (x6 : Option Value), m ≤ y → z < 64 → VV yX12_plan cX12_plan 7 (some .int) 8 Q b ad 158 [some (.ref (b + 157)), some (.int (nI d)), some (.int (nI y)), some (.int (zI (bzc F d (F 2 - m) z))), some (.int (nI z)), some (.int (nI m)), some (.int (eP (fbz F d m z)))] [] J L R → VV yX12_plan cX12_plan 7 (some .int) 8 Q b ad 45 [some (.ref (b + 157)), some (.int (nI d)), some (.int (nI y)), some (.int (zI (bzc F d (F 2 - m) z))), some (.int (nI z)), some (.int (nI m)), x6] [] J L R := by
    intro m z x6 hm hz next
    have hm2 : m < F 2 := by omega
    have c1 := bzc_b hO d (F 2 - m) z
    have c2 : ((F 2 - m : Nat) : Int) ≤ 6 := by omega
    have b1 := bzc_b hO d (F 2 - (m + 1)) z
    have b2 := balz_b hO m none d
    have b3 : ((F 2 - (m + 1) : Nat) : Int) ≤ 6 := by omega
    by_cases e : balz F m none d + bzc F d (F 2 - (m + 1)) z = bzc F d (F 2 - m) z
    · rw [show fbz F d m z = none by unfold fbz; rw [if_pos e]] at next
      refine v_iload_5 dX12_plan_45 ?_
      refine v_iload_2 dX12_plan_47 ?_
      refine v_icmp_gt (tgt := 222) dX12_plan_48 (by decide) (fun hc48 => ?_) (fun hc48 => ?_)
      · exact absurd ((nI_ltI (by omega) (by omega)).mp hc48) (by omega)
      · skip
        refine v_bipush (v := -2) dX12_plan_51 (by decide) ?_
        refine v_istore_6 rfl dX12_plan_53 ?_
        refine v_aload_0 dX12_plan_55 ?_
        refine u_getR dX12_plan_56 gf_X12_47 (by first | assumption | rfl | exact led_1 (by assumption) | exact led_2 (by assumption) | exact bk_m (by assumption) (by first | assumption | omega) | exact bk_p (by assumption) (by first | assumption | omega) | exact bk_o (by assumption) (by first | assumption | omega) | exact bk_s (by assumption) (by first | assumption | omega) | exact bk_1 (by assumption) | exact bk_2 (by assumption) | exact bk_3 (by assumption) | exact bk_4 (by assumption) | exact bk_5 (by assumption) | exact bk_6 (by assumption) | exact bk_7 (by assumption) | exact bk_8 (by assumption) | exact sh_ring _ (by first | assumption | omega) | exact sh_imgs _ (by first | assumption | omega)) (ro_X12_27 (by assumption)) ?_
        refine v_bipush (v := nI 7) dX12_plan_59 (by decide) ?_
        refine v_iload_5 dX12_plan_61 ?_
        refine v_imul dX12_plan_63 ?_
        refine u_iald dX12_plan_64 (by first | assumption | rfl | exact led_1 (by assumption) | exact led_2 (by assumption) | exact bk_m (by assumption) (by first | assumption | omega) | exact bk_p (by assumption) (by first | assumption | omega) | exact bk_o (by assumption) (by first | assumption | omega) | exact bk_s (by assumption) (by first | assumption | omega) | exact bk_1 (by assumption) | exact bk_2 (by assumption) | exact bk_3 (by assumption) | exact bk_4 (by assumption) | exact bk_5 (by assumption) | exact bk_6 (by assumption) | exact bk_7 (by assumption) | exact bk_8 (by assumption) | exact sh_ring _ (by first | assumption | omega) | exact sh_imgs _ (by first | assumption | omega)) (by first | with_reducible rfl | (simp only [nlit, nI_add, pk_mul]; with_reducible rfl) | rfl) (by first | assumption | omega) (by first | assumption | decide) ?_
        rw [show J 169 (7 * m) = zI (balz F m none d) from hw m hm2 0 (by omega) (Or.inl hm2)]
        refine v_aload_0 dX12_plan_65 ?_
        refine u_getR dX12_plan_66 gf_X12_44 (by first | assumption | rfl | exact led_1 (by assumption) | exact led_2 (by assumption) | exact bk_m (by assumption) (by first | assumption | omega) | exact bk_p (by assumption) (by first | assumption | omega) | exact bk_o (by assumption) (by first | assumption | omega) | exact bk_s (by assumption) (by first | assumption | omega) | exact bk_1 (by assumption) | exact bk_2 (by assumption) | exact bk_3 (by assumption) | exact bk_4 (by assumption) | exact bk_5 (by assumption) | exact bk_6 (by assumption) | exact bk_7 (by assumption) | exact bk_8 (by assumption) | exact sh_ring _ (by first | assumption | omega) | exact sh_imgs _ (by first | assumption | omega)) (ro_X12_26 (by assumption)) ?_
        refine v_bipush (v := nI 64) dX12_plan_69 (by decide) ?_
        refine v_iload_5 dX12_plan_71 ?_
        refine v_iconst (v := nI 1) dX12_plan_73 (by decide) ?_
        refine v_iadd dX12_plan_74 ?_
        refine v_imul dX12_plan_75 ?_
        refine v_iload_4 dX12_plan_76 ?_
        refine v_iadd dX12_plan_78 ?_
        refine u_iald dX12_plan_79 (by first | assumption | rfl | exact led_1 (by assumption) | exact led_2 (by assumption) | exact bk_m (by assumption) (by first | assumption | omega) | exact bk_p (by assumption) (by first | assumption | omega) | exact bk_o (by assumption) (by first | assumption | omega) | exact bk_s (by assumption) (by first | assumption | omega) | exact bk_1 (by assumption) | exact bk_2 (by assumption) | exact bk_3 (by assumption) | exact bk_4 (by assumption) | exact bk_5 (by assumption) | exact bk_6 (by assumption) | exact bk_7 (by assumption) | exact bk_8 (by assumption) | exact sh_ring _ (by first | assumption | omega) | exact sh_imgs _ (by first | assumption | omega)) (by first | with_reducible rfl | (simp only [nlit, nI_add, pk_mul]; with_reducible rfl) | rfl) (by first | assumption | omega) (by first | assumption | decide) ?_
        rw [hb (m + 1) (by omega) z (by omega)]
        refine v_iadd dX12_plan_80 ?_
        rw [zI_add]
        refine v_iload_3 dX12_plan_81 ?_
        refine v_icmp_eq (tgt := 158) dX12_plan_82 (by decide) (fun hc82 => ?_) (fun hc82 => ?_)
        · rw [zI_eq (by omega) (by omega) (by omega) (by omega)] at hc82
          exact next
        · exact absurd (by rw [e]) hc82
    · obtain ⟨p0, q1, q2, q3, q4⟩ := fbz_ex hm2 e
      rw [q1] at next
      refine v_iload_5 dX12_plan_45 ?_
      refine v_iload_2 dX12_plan_47 ?_
      refine v_icmp_gt (tgt := 222) dX12_plan_48 (by decide) (fun hc48 => ?_) (fun hc48 => ?_)
      · exact absurd ((nI_ltI (by omega) (by omega)).mp hc48) (by omega)
      · skip
        refine v_bipush (v := -2) dX12_plan_51 (by decide) ?_
        refine v_istore_6 rfl dX12_plan_53 ?_
        refine v_aload_0 dX12_plan_55 ?_
        refine u_getR dX12_plan_56 gf_X12_47 (by first | assumption | rfl | exact led_1 (by assumption) | exact led_2 (by assumption) | exact bk_m (by assumption) (by first | assumption | omega) | exact bk_p (by assumption) (by first | assumption | omega) | exact bk_o (by assumption) (by first | assumption | omega) | exact bk_s (by assumption) (by first | assumption | omega) | exact bk_1 (by assumption) | exact bk_2 (by assumption) | exact bk_3 (by assumption) | exact bk_4 (by assumption) | exact bk_5 (by assumption) | exact bk_6 (by assumption) | exact bk_7 (by assumption) | exact bk_8 (by assumption) | exact sh_ring _ (by first | assumption | omega) | exact sh_imgs _ (by first | assumption | omega)) (ro_X12_27 (by assumption)) ?_
        refine v_bipush (v := nI 7) dX12_plan_59 (by decide) ?_
        refine v_iload_5 dX12_plan_61 ?_
        refine v_imul dX12_plan_63 ?_
        refine u_iald dX12_plan_64 (by first | assumption | rfl | exact led_1 (by assumption) | exact led_2 (by assumption) | exact bk_m (by assumption) (by first | assumption | omega) | exact bk_p (by assumption) (by first | assumption | omega) | exact bk_o (by assumption) (by first | assumption | omega) | exact bk_s (by assumption) (by first | assumption | omega) | exact bk_1 (by assumption) | exact bk_2 (by assumption) | exact bk_3 (by assumption) | exact bk_4 (by assumption) | exact bk_5 (by assumption) | exact bk_6 (by assumption) | exact bk_7 (by assumption) | exact bk_8 (by assumption) | exact sh_ring _ (by first | assumption | omega) | exact sh_imgs _ (by first | assumption | omega)) (by first | with_reducible rfl | (simp only [nlit, nI_add, pk_mul]; with_reducible rfl) | rfl) (by first | assumption | omega) (by first | assumption | decide) ?_
        rw [show J 169 (7 * m) = zI (balz F m none d) from hw m hm2 0 (by omega) (Or.inl hm2)]
        refine v_aload_0 dX12_plan_65 ?_
        refine u_getR dX12_plan_66 gf_X12_44 (by first | assumption | rfl | exact led_1 (by assumption) | exact led_2 (by assumption) | exact bk_m (by assumption) (by first | assumption | omega) | exact bk_p (by assumption) (by first | assumption | omega) | exact bk_o (by assumption) (by first | assumption | omega) | exact bk_s (by assumption) (by first | assumption | omega) | exact bk_1 (by assumption) | exact bk_2 (by assumption) | exact bk_3 (by assumption) | exact bk_4 (by assumption) | exact bk_5 (by assumption) | exact bk_6 (by assumption) | exact bk_7 (by assumption) | exact bk_8 (by assumption) | exact sh_ring _ (by first | assumption | omega) | exact sh_imgs _ (by first | assumption | omega)) (ro_X12_26 (by assumption)) ?_
        refine v_bipush (v := nI 64) dX12_plan_69 (by decide) ?_
        refine v_iload_5 dX12_plan_71 ?_
        refine v_iconst (v := nI 1) dX12_plan_73 (by decide) ?_
        refine v_iadd dX12_plan_74 ?_
        refine v_imul dX12_plan_75 ?_
        refine v_iload_4 dX12_plan_76 ?_
        refine v_iadd dX12_plan_78 ?_
        refine u_iald dX12_plan_79 (by first | assumption | rfl | exact led_1 (by assumption) | exact led_2 (by assumption) | exact bk_m (by assumption) (by first | assumption | omega) | exact bk_p (by assumption) (by first | assumption | omega) | exact bk_o (by assumption) (by first | assumption | omega) | exact bk_s (by assumption) (by first | assumption | omega) | exact bk_1 (by assumption) | exact bk_2 (by assumption) | exact bk_3 (by assumption) | exact bk_4 (by assumption) | exact bk_5 (by assumption) | exact bk_6 (by assumption) | exact bk_7 (by assumption) | exact bk_8 (by assumption) | exact sh_ring _ (by first | assumption | omega) | exact sh_imgs _ (by first | assumption | omega)) (by first | with_reducible rfl | (simp only [nlit, nI_add, pk_mul]; with_reducible rfl) | rfl) (by first | assumption | omega) (by first | assumption | decide) ?_
        rw [hb (m + 1) (by omega) z (by omega)]
        refine v_iadd dX12_plan_80 ?_
        rw [zI_add]
        refine v_iload_3 dX12_plan_81 ?_
        refine v_icmp_eq (tgt := 158) dX12_plan_82 (by decide) (fun hc82 => ?_) (fun hc82 => ?_)
        · (rw [zI_eq (by omega) (by omega) (by omega) (by omega)] at hc82; exact absurd hc82 e)
        · rw [zI_eq (by omega) (by omega) (by omega) (by omega)] at hc82
          refine v_iconst (v := nI 0) dX12_plan_85 (by decide) ?_
          refine v_istore_6 rfl dX12_plan_86 ?_
          exact l_plS hR hr hd hw hb hm2 hz q2 q3 q4 next p0 0 (by omega)
  induction k with
  | zero =>
    intro m z c x6 hm hz he
    have em : m = y := by omega
    subst em
    refine look m z x6 (Nat.le_refl _) hz ?_
    have he : fbz F d m z = _ := he
    rw [← he] at hQ
    refine v_iload_5 dX12_plan_158 ?_
    refine v_iload_2 dX12_plan_160 ?_
    refine v_icmp_ne (tgt := 167) dX12_plan_161 (by decide) (fun hc161 => ?_) (fun hc161 => ?_)
    · exact absurd rfl hc161
    · (try rw [nI_eq (by omega) (by omega)] at hc161)
      refine v_iload_6 dX12_plan_164 ?_
      refine v_iret dX12_plan_166 rfl rfl rfl rfl ?_
      exact hQ
  | succ k ih =>
    intro m z c x6 hm hz he
    have hm2 : m < F 2 := by omega
    refine look m z x6 (by omega) hz ?_
    have he : chz F d (m + 1) (k + 1) (match fbz F d m z with | none => z | some p => z ||| 2 ^ p) (fbz F d m z) = _ := he
    have e1 : balz F m none d + bzc F d (F 2 - (m + 1)) z = bzc F d (F 2 - m) z → zI (bzc F d (F 2 - m) z) - zI (balz F m none d) = zI (bzc F d (F 2 - (m + 1)) z) := fun e => by rw [← e, zI_sub]; congr 1; omega
    by_cases e : balz F m none d + bzc F d (F 2 - (m + 1)) z = bzc F d (F 2 - m) z
    · rw [show fbz F d m z = none by unfold fbz; rw [if_pos e]] at he ⊢
      show VV _ _ _ _ _ _ _ _ _ [some (.ref (b + 157)), some (.int (nI d)), some (.int (nI y)), some (.int (zI (bzc F d (F 2 - m) z))), some (.int (nI z)), some (.int (nI m)), some (.int (-2))] _ _ _ _
      refine v_iload_5 dX12_plan_158 ?_
      refine v_iload_2 dX12_plan_160 ?_
      refine v_icmp_ne (tgt := 167) dX12_plan_161 (by decide) (fun hc161 => ?_) (fun hc161 => ?_)
      · (try rw [nI_eq (by omega) (by omega)] at hc161)
        refine v_iload_3 dX12_plan_167 ?_
        refine v_aload_0 dX12_plan_168 ?_
        refine u_getR dX12_plan_169 gf_X12_47 (by first | assumption | rfl | exact led_1 (by assumption) | exact led_2 (by assumption) | exact bk_m (by assumption) (by first | assumption | omega) | exact bk_p (by assumption) (by first | assumption | omega) | exact bk_o (by assumption) (by first | assumption | omega) | exact bk_s (by assumption) (by first | assumption | omega) | exact bk_1 (by assumption) | exact bk_2 (by assumption) | exact bk_3 (by assumption) | exact bk_4 (by assumption) | exact bk_5 (by assumption) | exact bk_6 (by assumption) | exact bk_7 (by assumption) | exact bk_8 (by assumption) | exact sh_ring _ (by first | assumption | omega) | exact sh_imgs _ (by first | assumption | omega)) (ro_X12_27 (by assumption)) ?_
        refine v_bipush (v := nI 7) dX12_plan_172 (by decide) ?_
        refine v_iload_5 dX12_plan_174 ?_
        refine v_imul dX12_plan_176 ?_
        refine v_iload_6 dX12_plan_177 ?_
        refine v_bipush (v := -2) dX12_plan_179 (by decide) ?_
        refine v_icmp_ne (tgt := 188) dX12_plan_181 (by decide) (fun hc181 => ?_) (fun hc181 => ?_)
        · exact absurd rfl hc181
        · (try rw [nI_eq (by omega) (by omega)] at hc181)
          refine v_iconst (v := nI 0) dX12_plan_184 (by decide) ?_
          refine v_goto (tgt := 192) dX12_plan_185 (by decide) ?_
          refine v_iadd dX12_plan_192 ?_
          refine u_iald dX12_plan_193 (by first | assumption | rfl | exact led_1 (by assumption) | exact led_2 (by assumption) | exact bk_m (by assumption) (by first | assumption | omega) | exact bk_p (by assumption) (by first | assumption | omega) | exact bk_o (by assumption) (by first | assumption | omega) | exact bk_s (by assumption) (by first | assumption | omega) | exact bk_1 (by assumption) | exact bk_2 (by assumption) | exact bk_3 (by assumption) | exact bk_4 (by assumption) | exact bk_5 (by assumption) | exact bk_6 (by assumption) | exact bk_7 (by assumption) | exact bk_8 (by assumption) | exact sh_ring _ (by first | assumption | omega) | exact sh_imgs _ (by first | assumption | omega)) (by first | with_reducible rfl | (simp only [nlit, nI_add, pk_mul]; with_reducible rfl) | rfl) (by first | assumption | omega) (by first | assumption | decide) ?_
          rw [show J 169 (7 * m + 0) = zI (balz F m none d) from hw m hm2 0 (by omega) (Or.inl hm2)]
          refine v_isub dX12_plan_194 ?_
          rw [e1 e]
          refine v_istore_3 rfl dX12_plan_195 ?_
          refine v_iload_4 dX12_plan_196 ?_
          refine v_iload_6 dX12_plan_198 ?_
          refine v_bipush (v := -2) dX12_plan_200 (by decide) ?_
          refine v_icmp_ne (tgt := 209) dX12_plan_202 (by decide) (fun hc202 => ?_) (fun hc202 => ?_)
          · exact absurd rfl hc202
          · (try rw [nI_eq (by omega) (by omega)] at hc202)
            refine v_iconst (v := nI 0) dX12_plan_205 (by decide) ?_
            refine v_goto (tgt := 213) dX12_plan_206 (by decide) ?_
            refine v_ior dX12_plan_213 ?_
            rw [nx_or, Nat.or_zero]
            refine v_istore_4 rfl dX12_plan_214 ?_
            refine v_iinc_5 (v := 1) rfl dX12_plan_216 (by decide) ?_
            rw [show nI m + 1 = nI (m + 1) from nI_1 m]
            refine v_goto (tgt := 45) dX12_plan_219 (by decide) ?_
            exact ih (m + 1) z none _ (by omega) hz he
      · exact absurd ((nI_eq (by omega) (by omega)).mp hc161) (by omega)
    · obtain ⟨p, q1, q2, q3, q4⟩ := fbz_ex hm2 e
      rw [q1] at he ⊢
      have h2p : 2 ^ p < 2 ^ 6 := Nat.pow_lt_pow_right (by decide) (by omega)
      have hzp : z ||| 2 ^ p < 2 ^ 6 := Nat.or_lt_two_pow (by omega) h2p
      unfold pkr at q3
      rw [Bool.and_eq_true, decide_eq_true_eq] at q3
      have e2 : zI (bzc F d (F 2 - m) z) - zI (balz F m (some p) d) = zI (bzc F d (F 2 - (m + 1)) (z ||| 2 ^ p)) := by rw [← q3.2, zI_sub]; congr 1; omega
      show VV _ _ _ _ _ _ _ _ _ [some (.ref (b + 157)), some (.int (nI d)), some (.int (nI y)), some (.int (zI (bzc F d (F 2 - m) z))), some (.int (nI z)), some (.int (nI m)), some (.int (nI p))] _ _ _ _
      refine v_iload_5 dX12_plan_158 ?_
      refine v_iload_2 dX12_plan_160 ?_
      refine v_icmp_ne (tgt := 167) dX12_plan_161 (by decide) (fun hc161 => ?_) (fun hc161 => ?_)
      · (try rw [nI_eq (by omega) (by omega)] at hc161)
        refine v_iload_3 dX12_plan_167 ?_
        refine v_aload_0 dX12_plan_168 ?_
        refine u_getR dX12_plan_169 gf_X12_47 (by first | assumption | rfl | exact led_1 (by assumption) | exact led_2 (by assumption) | exact bk_m (by assumption) (by first | assumption | omega) | exact bk_p (by assumption) (by first | assumption | omega) | exact bk_o (by assumption) (by first | assumption | omega) | exact bk_s (by assumption) (by first | assumption | omega) | exact bk_1 (by assumption) | exact bk_2 (by assumption) | exact bk_3 (by assumption) | exact bk_4 (by assumption) | exact bk_5 (by assumption) | exact bk_6 (by assumption) | exact bk_7 (by assumption) | exact bk_8 (by assumption) | exact sh_ring _ (by first | assumption | omega) | exact sh_imgs _ (by first | assumption | omega)) (ro_X12_27 (by assumption)) ?_
        refine v_bipush (v := nI 7) dX12_plan_172 (by decide) ?_
        refine v_iload_5 dX12_plan_174 ?_
        refine v_imul dX12_plan_176 ?_
        refine v_iload_6 dX12_plan_177 ?_
        refine v_bipush (v := -2) dX12_plan_179 (by decide) ?_
        refine v_icmp_ne (tgt := 188) dX12_plan_181 (by decide) (fun hc181 => ?_) (fun hc181 => ?_)
        · (try rw [nI_eq (by omega) (by omega)] at hc181)
          refine v_iload_6 dX12_plan_188 ?_
          refine v_iconst (v := nI 1) dX12_plan_190 (by decide) ?_
          refine v_iadd dX12_plan_191 ?_
          refine v_iadd dX12_plan_192 ?_
          refine u_iald dX12_plan_193 (by first | assumption | rfl | exact led_1 (by assumption) | exact led_2 (by assumption) | exact bk_m (by assumption) (by first | assumption | omega) | exact bk_p (by assumption) (by first | assumption | omega) | exact bk_o (by assumption) (by first | assumption | omega) | exact bk_s (by assumption) (by first | assumption | omega) | exact bk_1 (by assumption) | exact bk_2 (by assumption) | exact bk_3 (by assumption) | exact bk_4 (by assumption) | exact bk_5 (by assumption) | exact bk_6 (by assumption) | exact bk_7 (by assumption) | exact bk_8 (by assumption) | exact sh_ring _ (by first | assumption | omega) | exact sh_imgs _ (by first | assumption | omega)) (by first | with_reducible rfl | (simp only [nlit, nI_add, pk_mul]; with_reducible rfl) | rfl) (by first | assumption | omega) (by first | assumption | decide) ?_
          rw [show J 169 (7 * m + (p + 1)) = zI (balz F m (some p) d) from hw m hm2 (p + 1) (by omega) (Or.inl hm2)]
          refine v_isub dX12_plan_194 ?_
          rw [e2]
          refine v_istore_3 rfl dX12_plan_195 ?_
          refine v_iload_4 dX12_plan_196 ?_
          refine v_iload_6 dX12_plan_198 ?_
          refine v_bipush (v := -2) dX12_plan_200 (by decide) ?_
          refine v_icmp_ne (tgt := 209) dX12_plan_202 (by decide) (fun hc202 => ?_) (fun hc202 => ?_)
          · (try rw [nI_eq (by omega) (by omega)] at hc202)
            refine v_iconst (v := nI 1) dX12_plan_209 (by decide) ?_
            refine v_iload_6 dX12_plan_210 ?_
            refine v_ishl dX12_plan_212 ?_
            rw [one_shl (by omega)]
            refine v_ior dX12_plan_213 ?_
            rw [nx_or]
            refine v_istore_4 rfl dX12_plan_214 ?_
            refine v_iinc_5 (v := 1) rfl dX12_plan_216 (by decide) ?_
            rw [show nI m + 1 = nI (m + 1) from nI_1 m]
            refine v_goto (tgt := 45) dX12_plan_219 (by decide) ?_
            exact ih (m + 1) (z ||| 2 ^ p) (some p) _ (by omega) hzp he
          · exact absurd hc202 (nIm2 (by omega))
        · exact absurd hc181 (nIm2 (by omega))
      · exact absurd ((nI_eq (by omega) (by omega)).mp hc161) (by omega)
end
section
variable {b : Nat} {ad : Nat → Nat} {I J : HI} {L M : HL} {R : HR} {Q : QT} {tp : Nat → Nat} {nt tr fa pl : Nat} {F : bkF} {S : Nat → LSt} {u r : Nat} {im : Nat → LSt} {ic : Nat}
theorem rf_pl (h : RefB I tp nt tr fa pl F S u r im ic) (jx : ∀ c, c ≠ 168 → c ≠ 169 → J c = I c) : RefB J tp nt tr fa pl F S u r im ic :=
  rf_fr h h.2.1.2.2.2 id (by rw [jx 157 (by decide) (by decide)]; exact h.2.1.1) (fun j hj => by rw [jx 157 (by decide) (by decide)]) (fun x hx => jx x (by omega) (by omega))
theorem r_value {x : Int32} (hR : RO R) (h : RefB I tp nt tr fa pl F S u r im ic) (hQ : YQ I L R tp nt (t_value F (S 0) x) fa pl F S u r im ic (a_value F (S 0) x) Q) : KK 8 mX12_value b ad [.ref (b + 157), .int x] I L R Q := by
  have hO := h.2.2.1.1.2.2.1
  have o0 := hO.1
  have o1 := hO.2.1
  have o2 := hO.2.2.1
  have o3 := hO.2.2.2.1
  have o4 := hO.2.2.2.2.1
  have o5 := hO.2.2.2.2.2.1
  have o6 := hO.2.2.2.2.2.2.1
  have hK := h.2.2.1.2.2
  have hn20 := hK.1
  have hok : ∀ i, i < (S 0).1 → ok4 ((S 0).2.1 i) := fun i hi => (hK.2.1 i hi).1
  refine K.of (M := mX12_value) (lv := [some (.ref (b + 157)), some (.int x), none]) (by decide) (Nat.le_of_ble_eq_true rfl) rfl ?_
  refine v_aload_0 dX12_value_0 ?_
  refine u_callV_0 dX12_value_1 ml_X12_173 mv_X12_good (by first | assumption | rfl | exact led_1 (by assumption) | exact led_2 (by assumption) | exact bk_m (by assumption) (by first | assumption | omega) | exact bk_p (by assumption) (by first | assumption | omega) | exact bk_o (by assumption) (by first | assumption | omega) | exact bk_s (by assumption) (by first | assumption | omega) | exact bk_1 (by assumption) | exact bk_2 (by assumption) | exact bk_3 (by assumption) | exact bk_4 (by assumption) | exact bk_5 (by assumption) | exact bk_6 (by assumption) | exact bk_7 (by assumption) | exact bk_8 (by assumption) | exact sh_ring _ (by first | assumption | omega) | exact sh_imgs _ (by first | assumption | omega)) (by decide) rfl (by decide) (Nat.le_of_ble_eq_true rfl) (c_X12_good ?_)
  have h := rf_good h
  have hr : RfI _ F (S 0) := h.2.2.1
  have hS := hr.2.1
  have htr := trc_3 (decide (0 < F 0)) (ind x (F 0))
  refine v_aload_0 dX12_value_4 ?_
  refine v_iload_1 dX12_value_5 ?_
  refine u_callV_1 dX12_value_6 ml_X12_350 mv_X12_planWhy (by first | assumption | rfl | exact led_1 (by assumption) | exact led_2 (by assumption) | exact bk_m (by assumption) (by first | assumption | omega) | exact bk_p (by assumption) (by first | assumption | omega) | exact bk_o (by assumption) (by first | assumption | omega) | exact bk_s (by assumption) (by first | assumption | omega) | exact bk_1 (by assumption) | exact bk_2 (by assumption) | exact bk_3 (by assumption) | exact bk_4 (by assumption) | exact bk_5 (by assumption) | exact bk_6 (by assumption) | exact bk_7 (by assumption) | exact bk_8 (by assumption) | exact sh_ring _ (by first | assumption | omega) | exact sh_imgs _ (by first | assumption | omega)) (by decide) rfl (by decide) (Nat.le_of_ble_eq_true rfl) (c_X12_planWhy hR hr.1 ?_)
  refine v_istore_2 rfl dX12_value_9 ?_
  refine v_iload_2 dX12_value_10 ?_
  refine v_if_eq (tgt := 25) dX12_value_11 (by decide) (fun hc11 => ?_) (fun hc11 => ?_)
  · (first | rw [bI_0, Bool.not_eq_false] at hc11 | rw [bI_0] at hc11 | rw [show (0 : Int32) = nI 0 from rfl, nI_eq (by omega) (by omega)] at hc11 | skip)
    have hq : ((decide (0 < F 0)) && ind x (F 0)) = true := by
      cases hA : (decide (0 < F 0)) <;> cases hB : ind x (F 0)
      · rw [hA, hB] at hc11; cases hc11
      · rw [hA, hB] at hc11; cases hc11
      · rw [hA, hB] at hc11; cases hc11
      · rfl
    have hq2 := hq
    rw [Bool.and_eq_true] at hq2
    obtain ⟨d, rfl, hd1, hd⟩ := ind_ex (by omega) hq2.2
    have ed : tN (nI d) = d := tN_nI (by omega)
    refine v_aload_0 dX12_value_25 ?_
    refine v_iload_1 dX12_value_26 ?_
    refine v_iconst (v := -1) dX12_value_27 (by decide) ?_
    refine u_callV_2 dX12_value_28 ml_X12_353 mv_X12_layPlan (by first | assumption | rfl | exact led_1 (by assumption) | exact led_2 (by assumption) | exact bk_m (by assumption) (by first | assumption | omega) | exact bk_p (by assumption) (by first | assumption | omega) | exact bk_o (by assumption) (by first | assumption | omega) | exact bk_s (by assumption) (by first | assumption | omega) | exact bk_1 (by assumption) | exact bk_2 (by assumption) | exact bk_3 (by assumption) | exact bk_4 (by assumption) | exact bk_5 (by assumption) | exact bk_6 (by assumption) | exact bk_7 (by assumption) | exact bk_8 (by assumption) | exact sh_ring _ (by first | assumption | omega) | exact sh_imgs _ (by first | assumption | omega)) (by decide) rfl (by decide) (Nat.le_of_ble_eq_true rfl) (c_X12_layPlan (s := S 0) (d := d) (x := none) hR hr (by omega) (fun z e => by cases e) (fun J jx hw hb => ?_))
    refine v_iret dX12_value_31 rfl rfl rfl rfl ?_
    first
      | exact hQ.fin (rf_tr h ⟨by omega, by omega⟩) (fun x hx => by simp only [ui_ne (show x ≠ 157 by omega)]) (fun _ _ => rfl) rfl (by simp only [a_value]; rw [if_neg]; intro q; rw [Bool.and_eq_true] at q; simp [trc, q.1, q.2] at hc11)
      | exact hQ.fin (rf_pl h jx) (fun x hx => by rw [jx x (by omega) (by omega)]; simp only [ui_ne (show x ≠ 157 by omega)]) (fun _ _ => rfl) hc11.symm (by rw [a_value, if_pos hq, ed, bzr_none])
  · (first | rw [bI_0, Bool.not_eq_false] at hc11 | rw [bI_0] at hc11 | rw [show (0 : Int32) = nI 0 from rfl, nI_eq (by omega) (by omega)] at hc11 | skip)
    refine v_aload_0 dX12_value_14 ?_
    refine v_iload_2 dX12_value_15 ?_
    refine v_sipush (v := -10000) dX12_value_16 (by decide) ?_
    refine u_callV_2 dX12_value_19 ml_X12_343 mv_X12_less (by first | assumption | rfl | exact led_1 (by assumption) | exact led_2 (by assumption) | exact bk_m (by assumption) (by first | assumption | omega) | exact bk_p (by assumption) (by first | assumption | omega) | exact bk_o (by assumption) (by first | assumption | omega) | exact bk_s (by assumption) (by first | assumption | omega) | exact bk_1 (by assumption) | exact bk_2 (by assumption) | exact bk_3 (by assumption) | exact bk_4 (by assumption) | exact bk_5 (by assumption) | exact bk_6 (by assumption) | exact bk_7 (by assumption) | exact bk_8 (by assumption) | exact sh_ring _ (by first | assumption | omega) | exact sh_imgs _ (by first | assumption | omega)) (by decide) rfl (by decide) (Nat.le_of_ble_eq_true rfl) (c_X12_less ?_)
    refine v_goto (tgt := 31) dX12_value_22 (by decide) ?_
    refine v_iret dX12_value_31 rfl rfl rfl rfl ?_
    first
      | exact hQ.fin (rf_tr h ⟨by omega, by omega⟩) (fun x hx => by simp only [ui_ne (show x ≠ 157 by omega)]) (fun _ _ => rfl) rfl (by simp only [a_value]; rw [if_neg]; intro q; rw [Bool.and_eq_true] at q; simp [trc, q.1, q.2] at hc11)
      | exact hQ.fin (rf_pl h jx) (fun x hx => by rw [jx x (by omega) (by omega)]; simp only [ui_ne (show x ≠ 157 by omega)]) (fun _ _ => rfl) hc11.symm (by rw [a_value, if_pos hq, ed, bzr_none])
theorem r_needed {x : Int32} {y : Int32} (hR : RO R) (h : RefB I tp nt tr fa pl F S u r im ic) (hQ : YQ I L R tp nt (t_needed F (S 0) x y) fa pl F S u r im ic (a_needed F (S 0) x y) Q) : KK 8 mX12_needed b ad [.ref (b + 157), .int x, .int y] I L R Q := by
  have hO := h.2.2.1.1.2.2.1
  have o0 := hO.1
  have o1 := hO.2.1
  have o2 := hO.2.2.1
  have o3 := hO.2.2.2.1
  have o4 := hO.2.2.2.2.1
  have o5 := hO.2.2.2.2.2.1
  have o6 := hO.2.2.2.2.2.2.1
  have hK := h.2.2.1.2.2
  have hn20 := hK.1
  have hok : ∀ i, i < (S 0).1 → ok4 ((S 0).2.1 i) := fun i hi => (hK.2.1 i hi).1
  refine K.of (M := mX12_needed) (lv := [some (.ref (b + 157)), some (.int x), some (.int y)]) (by decide) (Nat.le_of_ble_eq_true rfl) rfl ?_
  refine v_aload_0 dX12_needed_0 ?_
  refine u_callV_0 dX12_needed_1 ml_X12_173 mv_X12_good (by first | assumption | rfl | exact led_1 (by assumption) | exact led_2 (by assumption) | exact bk_m (by assumption) (by first | assumption | omega) | exact bk_p (by assumption) (by first | assumption | omega) | exact bk_o (by assumption) (by first | assumption | omega) | exact bk_s (by assumption) (by first | assumption | omega) | exact bk_1 (by assumption) | exact bk_2 (by assumption) | exact bk_3 (by assumption) | exact bk_4 (by assumption) | exact bk_5 (by assumption) | exact bk_6 (by assumption) | exact bk_7 (by assumption) | exact bk_8 (by assumption) | exact sh_ring _ (by first | assumption | omega) | exact sh_imgs _ (by first | assumption | omega)) (by decide) rfl (by decide) (Nat.le_of_ble_eq_true rfl) (c_X12_good ?_)
  have h := rf_good h
  have hr : RfI _ F (S 0) := h.2.2.1
  have hS := hr.2.1
  refine v_aload_0 dX12_needed_4 ?_
  refine v_iload_2 dX12_needed_5 ?_
  refine u_callV_1 dX12_needed_6 ml_X12_310 mv_X12_isPerson (by first | assumption | rfl | exact led_1 (by assumption) | exact led_2 (by assumption) | exact bk_m (by assumption) (by first | assumption | omega) | exact bk_p (by assumption) (by first | assumption | omega) | exact bk_o (by assumption) (by first | assumption | omega) | exact bk_s (by assumption) (by first | assumption | omega) | exact bk_1 (by assumption) | exact bk_2 (by assumption) | exact bk_3 (by assumption) | exact bk_4 (by assumption) | exact bk_5 (by assumption) | exact bk_6 (by assumption) | exact bk_7 (by assumption) | exact bk_8 (by assumption) | exact sh_ring _ (by first | assumption | omega) | exact sh_imgs _ (by first | assumption | omega)) (by decide) rfl (by decide) (Nat.le_of_ble_eq_true rfl) (c_X12_isPerson hR hr.1 ?_)
  refine v_if_ne (tgt := 18) dX12_needed_9 (by decide) (fun hc9 => ?_) (fun hc9 => ?_)
  · (first | rw [bI_0, Bool.not_eq_false] at hc9 | rw [bI_0] at hc9 | rw [show (0 : Int32) = nI 0 from rfl, nI_eq (by omega) (by omega)] at hc9 | skip)
    refine v_aload_0 dX12_needed_18 ?_
    refine v_iload_1 dX12_needed_19 ?_
    refine u_callV_1 dX12_needed_20 ml_X12_313 mv_X12_isDay (by first | assumption | rfl | exact led_1 (by assumption) | exact led_2 (by assumption) | exact bk_m (by assumption) (by first | assumption | omega) | exact bk_p (by assumption) (by first | assumption | omega) | exact bk_o (by assumption) (by first | assumption | omega) | exact bk_s (by assumption) (by first | assumption | omega) | exact bk_1 (by assumption) | exact bk_2 (by assumption) | exact bk_3 (by assumption) | exact bk_4 (by assumption) | exact bk_5 (by assumption) | exact bk_6 (by assumption) | exact bk_7 (by assumption) | exact bk_8 (by assumption) | exact sh_ring _ (by first | assumption | omega) | exact sh_imgs _ (by first | assumption | omega)) (by decide) rfl (by decide) (Nat.le_of_ble_eq_true rfl) (c_X12_isDay hR hr.1 ?_)
    refine v_if_ne (tgt := 32) dX12_needed_23 (by decide) (fun hc23 => ?_) (fun hc23 => ?_)
    · (first | rw [bI_0, Bool.not_eq_false] at hc23 | rw [bI_0] at hc23 | rw [show (0 : Int32) = nI 0 from rfl, nI_eq (by omega) (by omega)] at hc23 | skip)
      obtain ⟨p, rfl, hp⟩ := inb_ex (by omega) hc9
      have ep : tN (nI p) = p := tN_nI (by omega)
      obtain ⟨d, rfl, hd1, hd⟩ := ind_ex (by omega) hc23
      have ed : tN (nI d) = d := tN_nI (by omega)
      refine v_aload_0 dX12_needed_32 ?_
      refine v_iload_1 dX12_needed_33 ?_
      refine v_iconst (v := -1) dX12_needed_34 (by decide) ?_
      refine u_callV_2 dX12_needed_35 ml_X12_353 mv_X12_layPlan (by first | assumption | rfl | exact led_1 (by assumption) | exact led_2 (by assumption) | exact bk_m (by assumption) (by first | assumption | omega) | exact bk_p (by assumption) (by first | assumption | omega) | exact bk_o (by assumption) (by first | assumption | omega) | exact bk_s (by assumption) (by first | assumption | omega) | exact bk_1 (by assumption) | exact bk_2 (by assumption) | exact bk_3 (by assumption) | exact bk_4 (by assumption) | exact bk_5 (by assumption) | exact bk_6 (by assumption) | exact bk_7 (by assumption) | exact bk_8 (by assumption) | exact sh_ring _ (by first | assumption | omega) | exact sh_imgs _ (by first | assumption | omega)) (by decide) rfl (by decide) (Nat.le_of_ble_eq_true rfl) (c_X12_layPlan (s := S 0) (d := d) (x := none) hR hr (by omega) (fun z e => by cases e) (fun J jx hw hb => ?_))
      refine v_aload_0 dX12_needed_38 ?_
      refine v_iload_1 dX12_needed_39 ?_
      refine v_iload_2 dX12_needed_40 ?_
      refine u_callV_2 dX12_needed_41 ml_X12_353 mv_X12_layPlan (by first | assumption | rfl | exact led_1 (by assumption) | exact led_2 (by assumption) | exact bk_m (by assumption) (by first | assumption | omega) | exact bk_p (by assumption) (by first | assumption | omega) | exact bk_o (by assumption) (by first | assumption | omega) | exact bk_s (by assumption) (by first | assumption | omega) | exact bk_1 (by assumption) | exact bk_2 (by assumption) | exact bk_3 (by assumption) | exact bk_4 (by assumption) | exact bk_5 (by assumption) | exact bk_6 (by assumption) | exact bk_7 (by assumption) | exact bk_8 (by assumption) | exact sh_ring _ (by first | assumption | omega) | exact sh_imgs _ (by first | assumption | omega)) (by decide) rfl (by decide) (Nat.le_of_ble_eq_true rfl) (c_X12_layPlan (s := S 0) (d := d) (x := some p) hR (rf_pl h jx).2.2.1 (by omega) (fun z e => by cases e; omega) (fun J2 jx2 hw2 hb2 => ?_))
      refine v_isub dX12_needed_44 ?_
      refine v_iret dX12_needed_45 rfl rfl rfl rfl ?_
      exact hQ.fin (rf_pl (rf_pl h jx) jx2) (fun x hx => by rw [jx2 x (by omega) (by omega), jx x (by omega) (by omega)]; simp only [ui_ne (show x ≠ 157 by omega)]) (fun _ _ => rfl) (by simp only [t_needed, hc9, hc23]; rfl) (by simp only [a_needed, hc9, hc23, ep, ed, bzr_none, bzr_some, Nat.zero_or]; rfl)
    · (first | rw [bI_0, Bool.not_eq_false] at hc23 | rw [bI_0] at hc23 | rw [show (0 : Int32) = nI 0 from rfl, nI_eq (by omega) (by omega)] at hc23 | skip)
      refine v_aload_0 dX12_needed_26 ?_
      refine v_iconst (v := nI 2) dX12_needed_27 (by decide) ?_
      refine u_callV_1 dX12_needed_28 ml_X12_176 mv_X12_no (by first | assumption | rfl | exact led_1 (by assumption) | exact led_2 (by assumption) | exact bk_m (by assumption) (by first | assumption | omega) | exact bk_p (by assumption) (by first | assumption | omega) | exact bk_o (by assumption) (by first | assumption | omega) | exact bk_s (by assumption) (by first | assumption | omega) | exact bk_1 (by assumption) | exact bk_2 (by assumption) | exact bk_3 (by assumption) | exact bk_4 (by assumption) | exact bk_5 (by assumption) | exact bk_6 (by assumption) | exact bk_7 (by assumption) | exact bk_8 (by assumption) | exact sh_ring _ (by first | assumption | omega) | exact sh_imgs _ (by first | assumption | omega)) (by decide) rfl (by decide) (Nat.le_of_ble_eq_true rfl) (c_X12_no (k := 2) ?_)
      refine v_iret dX12_needed_31 rfl rfl rfl rfl ?_
      exact hQ.fin (rf_tr h (by decide)) (fun x hx => by simp only [ui_ne (show x ≠ 157 by omega)]) (fun _ _ => rfl) (by simp only [t_needed, hc9, hc23]; rfl) (by simp only [a_needed, hc9, hc23]; rfl)
  · (first | rw [bI_0, Bool.not_eq_false] at hc9 | rw [bI_0] at hc9 | rw [show (0 : Int32) = nI 0 from rfl, nI_eq (by omega) (by omega)] at hc9 | skip)
    refine v_aload_0 dX12_needed_12 ?_
    refine v_iconst (v := nI 1) dX12_needed_13 (by decide) ?_
    refine u_callV_1 dX12_needed_14 ml_X12_176 mv_X12_no (by first | assumption | rfl | exact led_1 (by assumption) | exact led_2 (by assumption) | exact bk_m (by assumption) (by first | assumption | omega) | exact bk_p (by assumption) (by first | assumption | omega) | exact bk_o (by assumption) (by first | assumption | omega) | exact bk_s (by assumption) (by first | assumption | omega) | exact bk_1 (by assumption) | exact bk_2 (by assumption) | exact bk_3 (by assumption) | exact bk_4 (by assumption) | exact bk_5 (by assumption) | exact bk_6 (by assumption) | exact bk_7 (by assumption) | exact bk_8 (by assumption) | exact sh_ring _ (by first | assumption | omega) | exact sh_imgs _ (by first | assumption | omega)) (by decide) rfl (by decide) (Nat.le_of_ble_eq_true rfl) (c_X12_no (k := 1) ?_)
    refine v_iret dX12_needed_17 rfl rfl rfl rfl ?_
    exact hQ.fin (rf_tr h (by decide)) (fun x hx => by simp only [ui_ne (show x ≠ 157 by omega)]) (fun _ _ => rfl) (by simp only [t_needed, hc9]; rfl) (by simp only [a_needed, hc9]; rfl)
theorem r_plan {x : Int32} {y : Int32} (hR : RO R) (h : RefB I tp nt tr fa pl F S u r im ic) (hQ : YQ I L R tp nt (t_plan F (S 0) x y) fa pl F S u r im ic (a_plan F (S 0) x y) Q) : KK 8 mX12_plan b ad [.ref (b + 157), .int x, .int y] I L R Q := by
  have hO := h.2.2.1.1.2.2.1
  have o0 := hO.1
  have o1 := hO.2.1
  have o2 := hO.2.2.1
  have o3 := hO.2.2.2.1
  have o4 := hO.2.2.2.2.1
  have o5 := hO.2.2.2.2.2.1
  have o6 := hO.2.2.2.2.2.2.1
  have hK := h.2.2.1.2.2
  have hn20 := hK.1
  have hok : ∀ i, i < (S 0).1 → ok4 ((S 0).2.1 i) := fun i hi => (hK.2.1 i hi).1
  refine K.of (M := mX12_plan) (lv := [some (.ref (b + 157)), some (.int x), some (.int y), none, none, none, none]) (by decide) (Nat.le_of_ble_eq_true rfl) rfl ?_
  refine v_aload_0 dX12_plan_0 ?_
  refine u_callV_0 dX12_plan_1 ml_X12_173 mv_X12_good (by first | assumption | rfl | exact led_1 (by assumption) | exact led_2 (by assumption) | exact bk_m (by assumption) (by first | assumption | omega) | exact bk_p (by assumption) (by first | assumption | omega) | exact bk_o (by assumption) (by first | assumption | omega) | exact bk_s (by assumption) (by first | assumption | omega) | exact bk_1 (by assumption) | exact bk_2 (by assumption) | exact bk_3 (by assumption) | exact bk_4 (by assumption) | exact bk_5 (by assumption) | exact bk_6 (by assumption) | exact bk_7 (by assumption) | exact bk_8 (by assumption) | exact sh_ring _ (by first | assumption | omega) | exact sh_imgs _ (by first | assumption | omega)) (by decide) rfl (by decide) (Nat.le_of_ble_eq_true rfl) (c_X12_good ?_)
  have h := rf_good h
  have hr : RfI _ F (S 0) := h.2.2.1
  have hS := hr.2.1
  refine v_aload_0 dX12_plan_4 ?_
  refine v_iload_2 dX12_plan_5 ?_
  refine u_callV_1 dX12_plan_6 ml_X12_307 mv_X12_isMask (by first | assumption | rfl | exact led_1 (by assumption) | exact led_2 (by assumption) | exact bk_m (by assumption) (by first | assumption | omega) | exact bk_p (by assumption) (by first | assumption | omega) | exact bk_o (by assumption) (by first | assumption | omega) | exact bk_s (by assumption) (by first | assumption | omega) | exact bk_1 (by assumption) | exact bk_2 (by assumption) | exact bk_3 (by assumption) | exact bk_4 (by assumption) | exact bk_5 (by assumption) | exact bk_6 (by assumption) | exact bk_7 (by assumption) | exact bk_8 (by assumption) | exact sh_ring _ (by first | assumption | omega) | exact sh_imgs _ (by first | assumption | omega)) (by decide) rfl (by decide) (Nat.le_of_ble_eq_true rfl) (c_X12_isMask hR hr.1 ?_)
  refine v_if_ne (tgt := 18) dX12_plan_9 (by decide) (fun hc9 => ?_) (fun hc9 => ?_)
  · (first | rw [bI_0, Bool.not_eq_false] at hc9 | rw [bI_0] at hc9 | rw [show (0 : Int32) = nI 0 from rfl, nI_eq (by omega) (by omega)] at hc9 | skip)
    refine v_aload_0 dX12_plan_18 ?_
    refine v_iload_1 dX12_plan_19 ?_
    refine u_callV_1 dX12_plan_20 ml_X12_313 mv_X12_isDay (by first | assumption | rfl | exact led_1 (by assumption) | exact led_2 (by assumption) | exact bk_m (by assumption) (by first | assumption | omega) | exact bk_p (by assumption) (by first | assumption | omega) | exact bk_o (by assumption) (by first | assumption | omega) | exact bk_s (by assumption) (by first | assumption | omega) | exact bk_1 (by assumption) | exact bk_2 (by assumption) | exact bk_3 (by assumption) | exact bk_4 (by assumption) | exact bk_5 (by assumption) | exact bk_6 (by assumption) | exact bk_7 (by assumption) | exact bk_8 (by assumption) | exact sh_ring _ (by first | assumption | omega) | exact sh_imgs _ (by first | assumption | omega)) (by decide) rfl (by decide) (Nat.le_of_ble_eq_true rfl) (c_X12_isDay hR hr.1 ?_)
    refine v_if_ne (tgt := 32) dX12_plan_23 (by decide) (fun hc23 => ?_) (fun hc23 => ?_)
    · (first | rw [bI_0, Bool.not_eq_false] at hc23 | rw [bI_0] at hc23 | rw [show (0 : Int32) = nI 0 from rfl, nI_eq (by omega) (by omega)] at hc23 | skip)
      obtain ⟨m, rfl, hm⟩ := inb_ex (by omega) hc9
      have em : tN (nI m) = m := tN_nI (by omega)
      obtain ⟨d, rfl, hd1, hd⟩ := ind_ex (by omega) hc23
      have ed : tN (nI d) = d := tN_nI (by omega)
      refine v_aload_0 dX12_plan_32 ?_
      refine v_iload_1 dX12_plan_33 ?_
      refine v_iconst (v := -1) dX12_plan_34 (by decide) ?_
      refine u_callV_2 dX12_plan_35 ml_X12_353 mv_X12_layPlan (by first | assumption | rfl | exact led_1 (by assumption) | exact led_2 (by assumption) | exact bk_m (by assumption) (by first | assumption | omega) | exact bk_p (by assumption) (by first | assumption | omega) | exact bk_o (by assumption) (by first | assumption | omega) | exact bk_s (by assumption) (by first | assumption | omega) | exact bk_1 (by assumption) | exact bk_2 (by assumption) | exact bk_3 (by assumption) | exact bk_4 (by assumption) | exact bk_5 (by assumption) | exact bk_6 (by assumption) | exact bk_7 (by assumption) | exact bk_8 (by assumption) | exact sh_ring _ (by first | assumption | omega) | exact sh_imgs _ (by first | assumption | omega)) (by decide) rfl (by decide) (Nat.le_of_ble_eq_true rfl) (c_X12_layPlan (s := S 0) (d := d) (x := none) hR hr (by omega) (fun z e => by cases e) (fun J jx hw hb => ?_))
      rw [bzr_none]
      refine v_istore_3 rfl dX12_plan_38 ?_
      refine v_iconst (v := nI 0) dX12_plan_39 (by decide) ?_
      refine v_istore_4 rfl dX12_plan_40 ?_
      refine v_iconst (v := nI 0) dX12_plan_42 (by decide) ?_
      refine v_istore_5 rfl dX12_plan_43 ?_
      refine l_plL hR (rf_pl h jx).2.2.1 (by omega) hw (fun m hm q hq => by rw [hb m hm q hq, bzr_none]) hm ?_ m 0 0 none none (by omega) (by decide) rfl
      exact hQ.fin (rf_pl h jx) (fun x hx => by rw [jx x (by omega) (by omega)]; simp only [ui_ne (show x ≠ 157 by omega)]) (fun _ _ => rfl) (by simp only [t_plan, hc9, hc23]; rfl) (by simp only [a_plan, hc9, hc23, em, ed]; rfl)
    · (first | rw [bI_0, Bool.not_eq_false] at hc23 | rw [bI_0] at hc23 | rw [show (0 : Int32) = nI 0 from rfl, nI_eq (by omega) (by omega)] at hc23 | skip)
      refine v_aload_0 dX12_plan_26 ?_
      refine v_iconst (v := nI 2) dX12_plan_27 (by decide) ?_
      refine u_callV_1 dX12_plan_28 ml_X12_176 mv_X12_no (by first | assumption | rfl | exact led_1 (by assumption) | exact led_2 (by assumption) | exact bk_m (by assumption) (by first | assumption | omega) | exact bk_p (by assumption) (by first | assumption | omega) | exact bk_o (by assumption) (by first | assumption | omega) | exact bk_s (by assumption) (by first | assumption | omega) | exact bk_1 (by assumption) | exact bk_2 (by assumption) | exact bk_3 (by assumption) | exact bk_4 (by assumption) | exact bk_5 (by assumption) | exact bk_6 (by assumption) | exact bk_7 (by assumption) | exact bk_8 (by assumption) | exact sh_ring _ (by first | assumption | omega) | exact sh_imgs _ (by first | assumption | omega)) (by decide) rfl (by decide) (Nat.le_of_ble_eq_true rfl) (c_X12_no (k := 2) ?_)
      refine v_iret dX12_plan_31 rfl rfl rfl rfl ?_
      exact hQ.fin (rf_tr h (by decide)) (fun x hx => by simp only [ui_ne (show x ≠ 157 by omega)]) (fun _ _ => rfl) (by simp only [t_plan, hc9, hc23]; rfl) (by simp only [a_plan, hc9, hc23]; rfl)
  · (first | rw [bI_0, Bool.not_eq_false] at hc9 | rw [bI_0] at hc9 | rw [show (0 : Int32) = nI 0 from rfl, nI_eq (by omega) (by omega)] at hc9 | skip)
    refine v_aload_0 dX12_plan_12 ?_
    refine v_iconst (v := nI 1) dX12_plan_13 (by decide) ?_
    refine u_callV_1 dX12_plan_14 ml_X12_176 mv_X12_no (by first | assumption | rfl | exact led_1 (by assumption) | exact led_2 (by assumption) | exact bk_m (by assumption) (by first | assumption | omega) | exact bk_p (by assumption) (by first | assumption | omega) | exact bk_o (by assumption) (by first | assumption | omega) | exact bk_s (by assumption) (by first | assumption | omega) | exact bk_1 (by assumption) | exact bk_2 (by assumption) | exact bk_3 (by assumption) | exact bk_4 (by assumption) | exact bk_5 (by assumption) | exact bk_6 (by assumption) | exact bk_7 (by assumption) | exact bk_8 (by assumption) | exact sh_ring _ (by first | assumption | omega) | exact sh_imgs _ (by first | assumption | omega)) (by decide) rfl (by decide) (Nat.le_of_ble_eq_true rfl) (c_X12_no (k := 1) ?_)
    refine v_iret dX12_plan_17 rfl rfl rfl rfl ?_
    exact hQ.fin (rf_tr h (by decide)) (fun x hx => by simp only [ui_ne (show x ≠ 157 by omega)]) (fun _ _ => rfl) (by simp only [t_plan, hc9]; rfl) (by simp only [a_plan, hc9]; rfl)
theorem r_worth  (hR : RO R) (h : RefB I tp nt tr fa pl F S u r im ic) (hQ : YQ I L R tp nt (t_worth F (S 0) ) fa pl F S u r im ic (a_worth F (S 0) ) Q) : KK 8 mX12_worth b ad [.ref (b + 157)] I L R Q := by
  have hO := h.2.2.1.1.2.2.1
  have o0 := hO.1
  have o1 := hO.2.1
  have o2 := hO.2.2.1
  have o3 := hO.2.2.2.1
  have o4 := hO.2.2.2.2.1
  have o5 := hO.2.2.2.2.2.1
  have o6 := hO.2.2.2.2.2.2.1
  have hK := h.2.2.1.2.2
  have hn20 := hK.1
  have hok : ∀ i, i < (S 0).1 → ok4 ((S 0).2.1 i) := fun i hi => (hK.2.1 i hi).1
  have loop : ∀ (j d : Nat) (acc : Int32) (J : HI) (tr' : Nat), 0 < F 0 → d + j = F 0 + 1 → tr' = 0 → RefB J tp nt tr' fa pl F S u r im ic → (∀ x, x < 157 → J x = I x) → sui (fun d => zI (bzc F d (F 2) 0)) d j acc = sui (fun d => zI (bzc F d (F 2) 0)) 1 (F 0) 0 → VV yX12_worth cX12_worth 3 (some .int) 8 Q b ad 24 [some (.ref (b + 157)), some (.int acc), some (.int (nI d))] [] J L R := by
    intro j
    induction j with
    | zero =>
      intro d acc J tr' hF0 hj et h jx he
      have hF := h.2.2.1.1.1.2
      have he : acc = _ := he
      have e1 : (decide (0 < F 0)) = true := decide_eq_true hF0
      refine v_iload_2 dX12_worth_24 ?_
      refine v_aload_0 dX12_worth_25 ?_
      refine u_getR dX12_worth_26 gf_X12_20 (by first | assumption | rfl | exact led_1 (by assumption) | exact led_2 (by assumption) | exact bk_m (by assumption) (by first | assumption | omega) | exact bk_p (by assumption) (by first | assumption | omega) | exact bk_o (by assumption) (by first | assumption | omega) | exact bk_s (by assumption) (by first | assumption | omega) | exact bk_1 (by assumption) | exact bk_2 (by assumption) | exact bk_3 (by assumption) | exact bk_4 (by assumption) | exact bk_5 (by assumption) | exact bk_6 (by assumption) | exact bk_7 (by assumption) | exact bk_8 (by assumption) | exact sh_ring _ (by first | assumption | omega) | exact sh_imgs _ (by first | assumption | omega)) (ro_X12_15 (by assumption)) ?_
      refine v_iconst (v := nI 0) dX12_worth_29 (by decide) ?_
      refine u_iald dX12_worth_30 (by first | assumption | rfl | exact led_1 (by assumption) | exact led_2 (by assumption) | exact bk_m (by assumption) (by first | assumption | omega) | exact bk_p (by assumption) (by first | assumption | omega) | exact bk_o (by assumption) (by first | assumption | omega) | exact bk_s (by assumption) (by first | assumption | omega) | exact bk_1 (by assumption) | exact bk_2 (by assumption) | exact bk_3 (by assumption) | exact bk_4 (by assumption) | exact bk_5 (by assumption) | exact bk_6 (by assumption) | exact bk_7 (by assumption) | exact bk_8 (by assumption) | exact sh_ring _ (by first | assumption | omega) | exact sh_imgs _ (by first | assumption | omega)) (by first | with_reducible rfl | (simp only [nlit, nI_add, pk_mul]; with_reducible rfl) | rfl) (by first | assumption | omega) (by first | assumption | decide) ?_
      rw [hF 0 (by decide)]
      refine v_icmp_gt (tgt := 49) dX12_worth_31 (by decide) (fun hc31 => ?_) (fun hc31 => ?_)
      · skip
        refine v_iload_1 dX12_worth_49 ?_
        refine v_iret dX12_worth_50 rfl rfl rfl rfl ?_
        exact hQ.fin h jx (fun _ _ => rfl) (by rw [et]; simp only [t_worth, e1]; rfl) (by rw [he]; simp only [a_worth, e1]; rfl)
      · exact absurd ((nI_ltI (by omega) (by omega)).mpr (by omega)) hc31
    | succ j ih =>
      intro d acc J tr' hF0 hj et h jx he
      have hF := h.2.2.1.1.1.2
      refine v_iload_2 dX12_worth_24 ?_
      refine v_aload_0 dX12_worth_25 ?_
      refine u_getR dX12_worth_26 gf_X12_20 (by first | assumption | rfl | exact led_1 (by assumption) | exact led_2 (by assumption) | exact bk_m (by assumption) (by first | assumption | omega) | exact bk_p (by assumption) (by first | assumption | omega) | exact bk_o (by assumption) (by first | assumption | omega) | exact bk_s (by assumption) (by first | assumption | omega) | exact bk_1 (by assumption) | exact bk_2 (by assumption) | exact bk_3 (by assumption) | exact bk_4 (by assumption) | exact bk_5 (by assumption) | exact bk_6 (by assumption) | exact bk_7 (by assumption) | exact bk_8 (by assumption) | exact sh_ring _ (by first | assumption | omega) | exact sh_imgs _ (by first | assumption | omega)) (ro_X12_15 (by assumption)) ?_
      refine v_iconst (v := nI 0) dX12_worth_29 (by decide) ?_
      refine u_iald dX12_worth_30 (by first | assumption | rfl | exact led_1 (by assumption) | exact led_2 (by assumption) | exact bk_m (by assumption) (by first | assumption | omega) | exact bk_p (by assumption) (by first | assumption | omega) | exact bk_o (by assumption) (by first | assumption | omega) | exact bk_s (by assumption) (by first | assumption | omega) | exact bk_1 (by assumption) | exact bk_2 (by assumption) | exact bk_3 (by assumption) | exact bk_4 (by assumption) | exact bk_5 (by assumption) | exact bk_6 (by assumption) | exact bk_7 (by assumption) | exact bk_8 (by assumption) | exact sh_ring _ (by first | assumption | omega) | exact sh_imgs _ (by first | assumption | omega)) (by first | with_reducible rfl | (simp only [nlit, nI_add, pk_mul]; with_reducible rfl) | rfl) (by first | assumption | omega) (by first | assumption | decide) ?_
      rw [hF 0 (by decide)]
      refine v_icmp_gt (tgt := 49) dX12_worth_31 (by decide) (fun hc31 => ?_) (fun hc31 => ?_)
      · exact absurd ((nI_ltI (by omega) (by omega)).mp hc31) (by omega)
      · skip
        refine v_iload_1 dX12_worth_34 ?_
        refine v_aload_0 dX12_worth_35 ?_
        refine v_iload_2 dX12_worth_36 ?_
        refine v_iconst (v := -1) dX12_worth_37 (by decide) ?_
        refine u_callV_2 dX12_worth_38 ml_X12_353 mv_X12_layPlan (by first | assumption | rfl | exact led_1 (by assumption) | exact led_2 (by assumption) | exact bk_m (by assumption) (by first | assumption | omega) | exact bk_p (by assumption) (by first | assumption | omega) | exact bk_o (by assumption) (by first | assumption | omega) | exact bk_s (by assumption) (by first | assumption | omega) | exact bk_1 (by assumption) | exact bk_2 (by assumption) | exact bk_3 (by assumption) | exact bk_4 (by assumption) | exact bk_5 (by assumption) | exact bk_6 (by assumption) | exact bk_7 (by assumption) | exact bk_8 (by assumption) | exact sh_ring _ (by first | assumption | omega) | exact sh_imgs _ (by first | assumption | omega)) (by decide) rfl (by decide) (Nat.le_of_ble_eq_true rfl) (c_X12_layPlan (s := S 0) (d := d) (x := none) hR h.2.2.1 (by omega) (fun z e => by cases e) (fun J1 jx1 hw hb => ?_))
        rw [bzr_none]
        refine v_iadd dX12_worth_41 ?_
        refine v_istore_1 rfl dX12_worth_42 ?_
        refine v_iinc_2 (v := 1) rfl dX12_worth_43 (by decide) ?_
        rw [show nI d + 1 = nI (d + 1) from nI_1 d]
        refine v_goto (tgt := 24) dX12_worth_46 (by decide) ?_
        exact ih (d + 1) _ _ tr' hF0 (by omega) et (rf_pl h jx1) (fun x hx => by rw [jx1 x (by omega) (by omega)]; exact jx x hx) (by rw [← he]; rfl)
  refine K.of (M := mX12_worth) (lv := [some (.ref (b + 157)), none, none]) (by decide) (Nat.le_of_ble_eq_true rfl) rfl ?_
  refine v_aload_0 dX12_worth_0 ?_
  refine u_callV_0 dX12_worth_1 ml_X12_173 mv_X12_good (by first | assumption | rfl | exact led_1 (by assumption) | exact led_2 (by assumption) | exact bk_m (by assumption) (by first | assumption | omega) | exact bk_p (by assumption) (by first | assumption | omega) | exact bk_o (by assumption) (by first | assumption | omega) | exact bk_s (by assumption) (by first | assumption | omega) | exact bk_1 (by assumption) | exact bk_2 (by assumption) | exact bk_3 (by assumption) | exact bk_4 (by assumption) | exact bk_5 (by assumption) | exact bk_6 (by assumption) | exact bk_7 (by assumption) | exact bk_8 (by assumption) | exact sh_ring _ (by first | assumption | omega) | exact sh_imgs _ (by first | assumption | omega)) (by decide) rfl (by decide) (Nat.le_of_ble_eq_true rfl) (c_X12_good ?_)
  have h := rf_good h
  have hr : RfI _ F (S 0) := h.2.2.1
  have hS := hr.2.1
  refine v_aload_0 dX12_worth_4 ?_
  refine u_getI dX12_worth_5 gf_X12_186 (by first | assumption | rfl | exact led_1 (by assumption) | exact led_2 (by assumption) | exact bk_m (by assumption) (by first | assumption | omega) | exact bk_p (by assumption) (by first | assumption | omega) | exact bk_o (by assumption) (by first | assumption | omega) | exact bk_s (by assumption) (by first | assumption | omega) | exact bk_1 (by assumption) | exact bk_2 (by assumption) | exact bk_3 (by assumption) | exact bk_4 (by assumption) | exact bk_5 (by assumption) | exact bk_6 (by assumption) | exact bk_7 (by assumption) | exact bk_8 (by assumption) | exact sh_ring _ (by first | assumption | omega) | exact sh_imgs _ (by first | assumption | omega)) ?_
  rw [hr.1.2.1]
  refine v_if_ne (tgt := 20) dX12_worth_8 (by decide) (fun hc8 => ?_) (fun hc8 => ?_)
  · (first | rw [bI_0, Bool.not_eq_false] at hc8 | rw [bI_0] at hc8 | rw [show (0 : Int32) = nI 0 from rfl, nI_eq (by omega) (by omega)] at hc8 | skip)
    refine v_iconst (v := nI 0) dX12_worth_20 (by decide) ?_
    refine v_istore_1 rfl dX12_worth_21 ?_
    refine v_iconst (v := nI 1) dX12_worth_22 (by decide) ?_
    refine v_istore_2 rfl dX12_worth_23 ?_
    exact loop (F 0) 1 0 _ 0 (of_decide_eq_true hc8) (by omega) rfl h (fun x hx => by simp only [ui_ne (show x ≠ 157 by omega)]) rfl
  · (first | rw [bI_0, Bool.not_eq_false] at hc8 | rw [bI_0] at hc8 | rw [show (0 : Int32) = nI 0 from rfl, nI_eq (by omega) (by omega)] at hc8 | skip)
    refine v_aload_0 dX12_worth_11 ?_
    refine v_iconst (v := nI 1) dX12_worth_12 (by decide) ?_
    refine v_ldcw (v := -100000) dX12_worth_13 (uu (i := 1842) (by decide +kernel) rfl) ?_
    refine u_callV_2 dX12_worth_16 ml_X12_343 mv_X12_less (by first | assumption | rfl | exact led_1 (by assumption) | exact led_2 (by assumption) | exact bk_m (by assumption) (by first | assumption | omega) | exact bk_p (by assumption) (by first | assumption | omega) | exact bk_o (by assumption) (by first | assumption | omega) | exact bk_s (by assumption) (by first | assumption | omega) | exact bk_1 (by assumption) | exact bk_2 (by assumption) | exact bk_3 (by assumption) | exact bk_4 (by assumption) | exact bk_5 (by assumption) | exact bk_6 (by assumption) | exact bk_7 (by assumption) | exact bk_8 (by assumption) | exact sh_ring _ (by first | assumption | omega) | exact sh_imgs _ (by first | assumption | omega)) (by decide) rfl (by decide) (Nat.le_of_ble_eq_true rfl) (c_X12_less (k := 1) ?_)
    refine v_iret dX12_worth_19 rfl rfl rfl rfl ?_
    exact hQ.fin (rf_tr h (by decide)) (fun x hx => by simp only [ui_ne (show x ≠ 157 by omega)]) (fun _ _ => rfl) (by simp only [t_worth, hc8]; rfl) (by simp only [a_worth, hc8]; rfl)
end
