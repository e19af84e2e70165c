section
variable {b : Nat} {ad : Nat → Nat} {I : HI} {L : HL} {R : HR} {Q : QT} {a : Nat}
theorem c_X3_suits {p kind s ps hn ch hb wk : Nat} (ha : SH a = .inl 3) (hp : SH p = .inl 4) (hm : MkI I a kind s) (hpp : PsI I p ps hn ch hb wk) (hQ : Q (some (.int (bI (fitv kind s ps hn ch)))) SH I L R) : KK 1 mX3_suits b ad [.ref (b + a), .ref (b + p)] I L R Q := by
  obtain ⟨m0, m1, m2, m3⟩ := hm
  obtain ⟨p0, p1, p2, p3, p4, p5, p6, p7, p8, p9⟩ := hpp
  have hk : kind = 0 ∨ kind = 1 ∨ kind = 2 ∨ kind = 3 ∨ kind = 4 := by omega
  have hadf : adf s ps < 10 := by unfold adf; split <;> omega
  refine K.of (M := mX3_suits) (lv := [some (.ref (b + a)), some (.ref (b + p)), none]) (by decide) (Nat.le_of_ble_eq_true rfl) rfl ?_
  refine v_aload_0 dX3_suits_0 ?_
  refine u_getI dX3_suits_1 gf_X3_9 (by first | assumption | exact led_1 (by assumption) | exact led_2 (by assumption) | exact bk_m (by assumption) (by first | assumption | omega) | exact bk_p (by assumption) (by first | assumption | omega) | exact bk_o (by assumption) (by first | assumption | omega) | exact bk_s (by assumption) (by first | assumption | omega) | exact bk_1 (by assumption) | exact bk_2 (by assumption) | exact bk_3 (by assumption) | exact bk_4 (by assumption) | exact bk_5 (by assumption) | exact bk_6 (by assumption) | exact bk_7 (by assumption) | exact bk_8 (by assumption) | rfl) ?_
  (first | (rw [bm1 hF]; rotate_left; (first | assumption | omega)) | skip)
  rw [m1]
  refine v_aload_1 dX3_suits_4 ?_
  refine u_getI dX3_suits_5 gf_X3_15 (by first | assumption | exact led_1 (by assumption) | exact led_2 (by assumption) | exact bk_m (by assumption) (by first | assumption | omega) | exact bk_p (by assumption) (by first | assumption | omega) | exact bk_o (by assumption) (by first | assumption | omega) | exact bk_s (by assumption) (by first | assumption | omega) | exact bk_1 (by assumption) | exact bk_2 (by assumption) | exact bk_3 (by assumption) | exact bk_4 (by assumption) | exact bk_5 (by assumption) | exact bk_6 (by assumption) | exact bk_7 (by assumption) | exact bk_8 (by assumption) | rfl) ?_
  (first | (rw [bp0 hF]; rotate_left; (first | assumption | omega)) | skip)
  rw [p0]
  refine v_isub dX3_suits_8 ?_
  refine u_mabsd (s := s) (p := ps) (by omega) (by omega) dX3_suits_9 ml_X3_18 (by decide) (Nat.le_of_ble_eq_true rfl) ?_
  refine v_istore_2 rfl dX3_suits_12 ?_
  rcases hk with rfl | rfl | rfl | rfl | rfl
  · skip
    refine v_aload_0 dX3_suits_13 ?_
    refine u_getI dX3_suits_14 gf_X3_24 (by first | assumption | exact led_1 (by assumption) | exact led_2 (by assumption) | exact bk_m (by assumption) (by first | assumption | omega) | exact bk_p (by assumption) (by first | assumption | omega) | exact bk_o (by assumption) (by first | assumption | omega) | exact bk_s (by assumption) (by first | assumption | omega) | exact bk_1 (by assumption) | exact bk_2 (by assumption) | exact bk_3 (by assumption) | exact bk_4 (by assumption) | exact bk_5 (by assumption) | exact bk_6 (by assumption) | exact bk_7 (by assumption) | exact bk_8 (by assumption) | rfl) ?_
    (first | (rw [bm0 hF]; rotate_left; (first | assumption | omega)) | skip)
    rw [m0]
    refine v_tableIn (off := 31) (tgt := 48) dX3_suits_17 (by decide) (by decide) rfl (by decide) ?_
    refine v_iload_2 dX3_suits_48 ?_
    refine v_iconst (v := nI 1) dX3_suits_49 (by decide) ?_
    refine v_icmp_gt (tgt := 57) dX3_suits_50 (by decide) (fun hc50 => ?_) (fun hc50 => ?_)
    · (try rw [nI_ltI (by omega) (by omega)] at hc50)
      refine v_iconst (v := nI 0) dX3_suits_57 (by decide) ?_
      refine v_zret dX3_suits_58 (by first | rfl | exact bI_n _) rfl rfl rfl rfl ?_
      first | (rw [bI_t (by simp [fitv] <;> omega)] at hQ; exact hQ) | (rw [bI_f (by simp [fitv] <;> omega)] at hQ; exact hQ)
    · (try rw [nI_ltI (by omega) (by omega)] at hc50)
      refine v_iconst (v := nI 1) dX3_suits_53 (by decide) ?_
      refine v_goto (tgt := 58) dX3_suits_54 (by decide) ?_
      refine v_zret dX3_suits_58 (by first | rfl | exact bI_n _) rfl rfl rfl rfl ?_
      first | (rw [bI_t (by simp [fitv] <;> omega)] at hQ; exact hQ) | (rw [bI_f (by simp [fitv] <;> omega)] at hQ; exact hQ)
  · skip
    refine v_aload_0 dX3_suits_13 ?_
    refine u_getI dX3_suits_14 gf_X3_24 (by first | assumption | exact led_1 (by assumption) | exact led_2 (by assumption) | exact bk_m (by assumption) (by first | assumption | omega) | exact bk_p (by assumption) (by first | assumption | omega) | exact bk_o (by assumption) (by first | assumption | omega) | exact bk_s (by assumption) (by first | assumption | omega) | exact bk_1 (by assumption) | exact bk_2 (by assumption) | exact bk_3 (by assumption) | exact bk_4 (by assumption) | exact bk_5 (by assumption) | exact bk_6 (by assumption) | exact bk_7 (by assumption) | exact bk_8 (by assumption) | rfl) ?_
    (first | (rw [bm0 hF]; rotate_left; (first | assumption | omega)) | skip)
    rw [m0]
    refine v_tableIn (off := 42) (tgt := 59) dX3_suits_17 (by decide) (by decide) rfl (by decide) ?_
    refine v_iload_2 dX3_suits_59 ?_
    refine v_iconst (v := nI 1) dX3_suits_60 (by decide) ?_
    refine v_icmp_gt (tgt := 75) dX3_suits_61 (by decide) (fun hc61 => ?_) (fun hc61 => ?_)
    · (try rw [nI_ltI (by omega) (by omega)] at hc61)
      refine v_iconst (v := nI 0) dX3_suits_75 (by decide) ?_
      refine v_zret dX3_suits_76 (by first | rfl | exact bI_n _) rfl rfl rfl rfl ?_
      first | (rw [bI_t (by simp [fitv] <;> omega)] at hQ; exact hQ) | (rw [bI_f (by simp [fitv] <;> omega)] at hQ; exact hQ)
    · (try rw [nI_ltI (by omega) (by omega)] at hc61)
      refine v_aload_1 dX3_suits_64 ?_
      refine u_getI dX3_suits_65 gf_X3_27 (by first | assumption | exact led_1 (by assumption) | exact led_2 (by assumption) | exact bk_m (by assumption) (by first | assumption | omega) | exact bk_p (by assumption) (by first | assumption | omega) | exact bk_o (by assumption) (by first | assumption | omega) | exact bk_s (by assumption) (by first | assumption | omega) | exact bk_1 (by assumption) | exact bk_2 (by assumption) | exact bk_3 (by assumption) | exact bk_4 (by assumption) | exact bk_5 (by assumption) | exact bk_6 (by assumption) | exact bk_7 (by assumption) | exact bk_8 (by assumption) | rfl) ?_
      (first | (rw [bp2 hF]; rotate_left; (first | assumption | omega)) | skip)
      rw [p2]
      refine v_if_eq (tgt := 75) dX3_suits_68 (by decide) (fun hc68 => ?_) (fun hc68 => ?_)
      · (first | rw [bI_0, Bool.not_eq_false] at hc68 | rw [bI_0] at hc68 | rw [show (0 : Int32) = nI 0 from rfl, nI_eq (by omega) (by omega)] at hc68 | skip)
        refine v_iconst (v := nI 0) dX3_suits_75 (by decide) ?_
        refine v_zret dX3_suits_76 (by first | rfl | exact bI_n _) rfl rfl rfl rfl ?_
        first | (rw [bI_t (by simp [fitv] <;> omega)] at hQ; exact hQ) | (rw [bI_f (by simp [fitv] <;> omega)] at hQ; exact hQ)
      · (first | rw [bI_0, Bool.not_eq_false] at hc68 | rw [bI_0] at hc68 | rw [show (0 : Int32) = nI 0 from rfl, nI_eq (by omega) (by omega)] at hc68 | skip)
        refine v_iconst (v := nI 1) dX3_suits_71 (by decide) ?_
        refine v_goto (tgt := 76) dX3_suits_72 (by decide) ?_
        refine v_zret dX3_suits_76 (by first | rfl | exact bI_n _) rfl rfl rfl rfl ?_
        first | (rw [bI_t (by simp [fitv] <;> omega)] at hQ; exact hQ) | (rw [bI_f (by simp [fitv] <;> omega)] at hQ; exact hQ)
  · skip
    refine v_aload_0 dX3_suits_13 ?_
    refine u_getI dX3_suits_14 gf_X3_24 (by first | assumption | exact led_1 (by assumption) | exact led_2 (by assumption) | exact bk_m (by assumption) (by first | assumption | omega) | exact bk_p (by assumption) (by first | assumption | omega) | exact bk_o (by assumption) (by first | assumption | omega) | exact bk_s (by assumption) (by first | assumption | omega) | exact bk_1 (by assumption) | exact bk_2 (by assumption) | exact bk_3 (by assumption) | exact bk_4 (by assumption) | exact bk_5 (by assumption) | exact bk_6 (by assumption) | exact bk_7 (by assumption) | exact bk_8 (by assumption) | rfl) ?_
    (first | (rw [bm0 hF]; rotate_left; (first | assumption | omega)) | skip)
    rw [m0]
    refine v_tableIn (off := 60) (tgt := 77) dX3_suits_17 (by decide) (by decide) rfl (by decide) ?_
    refine v_iconst (v := nI 1) dX3_suits_77 (by decide) ?_
    refine v_zret dX3_suits_78 (by first | rfl | exact bI_n _) rfl rfl rfl rfl ?_
    first | (rw [bI_t (by simp [fitv] <;> omega)] at hQ; exact hQ) | (rw [bI_f (by simp [fitv] <;> omega)] at hQ; exact hQ)
  · skip
    refine v_aload_0 dX3_suits_13 ?_
    refine u_getI dX3_suits_14 gf_X3_24 (by first | assumption | exact led_1 (by assumption) | exact led_2 (by assumption) | exact bk_m (by assumption) (by first | assumption | omega) | exact bk_p (by assumption) (by first | assumption | omega) | exact bk_o (by assumption) (by first | assumption | omega) | exact bk_s (by assumption) (by first | assumption | omega) | exact bk_1 (by assumption) | exact bk_2 (by assumption) | exact bk_3 (by assumption) | exact bk_4 (by assumption) | exact bk_5 (by assumption) | exact bk_6 (by assumption) | exact bk_7 (by assumption) | exact bk_8 (by assumption) | rfl) ?_
    (first | (rw [bm0 hF]; rotate_left; (first | assumption | omega)) | skip)
    rw [m0]
    refine v_tableIn (off := 62) (tgt := 79) dX3_suits_17 (by decide) (by decide) rfl (by decide) ?_
    refine v_iload_2 dX3_suits_79 ?_
    refine v_if_ne (tgt := 87) dX3_suits_80 (by decide) (fun hc80 => ?_) (fun hc80 => ?_)
    · (first | rw [bI_0, Bool.not_eq_false] at hc80 | rw [bI_0] at hc80 | rw [show (0 : Int32) = nI 0 from rfl, nI_eq (by omega) (by omega)] at hc80 | skip)
      refine v_iconst (v := nI 0) dX3_suits_87 (by decide) ?_
      refine v_zret dX3_suits_88 (by first | rfl | exact bI_n _) rfl rfl rfl rfl ?_
      first | (rw [bI_t (by simp [fitv] <;> omega)] at hQ; exact hQ) | (rw [bI_f (by simp [fitv] <;> omega)] at hQ; exact hQ)
    · (first | rw [bI_0, Bool.not_eq_false] at hc80 | rw [bI_0] at hc80 | rw [show (0 : Int32) = nI 0 from rfl, nI_eq (by omega) (by omega)] at hc80 | skip)
      refine v_iconst (v := nI 1) dX3_suits_83 (by decide) ?_
      refine v_goto (tgt := 88) dX3_suits_84 (by decide) ?_
      refine v_zret dX3_suits_88 (by first | rfl | exact bI_n _) rfl rfl rfl rfl ?_
      first | (rw [bI_t (by simp [fitv] <;> omega)] at hQ; exact hQ) | (rw [bI_f (by simp [fitv] <;> omega)] at hQ; exact hQ)
  · skip
    refine v_aload_0 dX3_suits_13 ?_
    refine u_getI dX3_suits_14 gf_X3_24 (by first | assumption | exact led_1 (by assumption) | exact led_2 (by assumption) | exact bk_m (by assumption) (by first | assumption | omega) | exact bk_p (by assumption) (by first | assumption | omega) | exact bk_o (by assumption) (by first | assumption | omega) | exact bk_s (by assumption) (by first | assumption | omega) | exact bk_1 (by assumption) | exact bk_2 (by assumption) | exact bk_3 (by assumption) | exact bk_4 (by assumption) | exact bk_5 (by assumption) | exact bk_6 (by assumption) | exact bk_7 (by assumption) | exact bk_8 (by assumption) | rfl) ?_
    (first | (rw [bm0 hF]; rotate_left; (first | assumption | omega)) | skip)
    rw [m0]
    refine v_tableOut (tgt := 89) dX3_suits_17 (by decide) (by decide) ?_
    refine v_iload_2 dX3_suits_89 ?_
    refine v_iconst (v := nI 1) dX3_suits_90 (by decide) ?_
    refine v_icmp_gt (tgt := 107) dX3_suits_91 (by decide) (fun hc91 => ?_) (fun hc91 => ?_)
    · (try rw [nI_ltI (by omega) (by omega)] at hc91)
      refine v_iconst (v := nI 0) dX3_suits_107 (by decide) ?_
      refine v_zret dX3_suits_108 (by first | rfl | exact bI_n _) rfl rfl rfl rfl ?_
      first | (rw [bI_t (by simp [fitv] <;> omega)] at hQ; exact hQ) | (rw [bI_f (by simp [fitv] <;> omega)] at hQ; exact hQ)
    · (try rw [nI_ltI (by omega) (by omega)] at hc91)
      refine v_aload_1 dX3_suits_94 ?_
      refine u_getI dX3_suits_95 gf_X3_31 (by first | assumption | exact led_1 (by assumption) | exact led_2 (by assumption) | exact bk_m (by assumption) (by first | assumption | omega) | exact bk_p (by assumption) (by first | assumption | omega) | exact bk_o (by assumption) (by first | assumption | omega) | exact bk_s (by assumption) (by first | assumption | omega) | exact bk_1 (by assumption) | exact bk_2 (by assumption) | exact bk_3 (by assumption) | exact bk_4 (by assumption) | exact bk_5 (by assumption) | exact bk_6 (by assumption) | exact bk_7 (by assumption) | exact bk_8 (by assumption) | rfl) ?_
      (first | (rw [bp1 hF]; rotate_left; (first | assumption | omega)) | skip)
      rw [p1]
      refine v_bipush (v := nI 60) dX3_suits_98 (by decide) ?_
      refine v_icmp_lt (tgt := 107) dX3_suits_100 (by decide) (fun hc100 => ?_) (fun hc100 => ?_)
      · (try rw [nI_ltI (by omega) (by omega)] at hc100)
        refine v_iconst (v := nI 0) dX3_suits_107 (by decide) ?_
        refine v_zret dX3_suits_108 (by first | rfl | exact bI_n _) rfl rfl rfl rfl ?_
        first | (rw [bI_t (by simp [fitv] <;> omega)] at hQ; exact hQ) | (rw [bI_f (by simp [fitv] <;> omega)] at hQ; exact hQ)
      · (try rw [nI_ltI (by omega) (by omega)] at hc100)
        refine v_iconst (v := nI 1) dX3_suits_103 (by decide) ?_
        refine v_goto (tgt := 108) dX3_suits_104 (by decide) ?_
        refine v_zret dX3_suits_108 (by first | rfl | exact bI_n _) rfl rfl rfl rfl ?_
        first | (rw [bI_t (by simp [fitv] <;> omega)] at hQ; exact hQ) | (rw [bI_f (by simp [fitv] <;> omega)] at hQ; exact hQ)
end
