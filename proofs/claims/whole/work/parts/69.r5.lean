theorem dX7_readPerson_0 : decode cX7_readPerson 0 = .ok (.aload_n 0, 1) := by decide +kernel
theorem dX7_readPerson_1 : decode cX7_readPerson 1 = .ok (.getfield 73, 3) := by decide +kernel
theorem dX7_readPerson_4 : decode cX7_readPerson 4 = .ok (.getfield 112, 3) := by decide +kernel
theorem dX7_readPerson_7 : decode cX7_readPerson 7 = .ok (.bipush 6, 2) := by decide +kernel
theorem dX7_readPerson_9 : decode cX7_readPerson 9 = .ok (.if_icmp .lt 9, 3) := by decide +kernel
theorem dX7_readPerson_12 : decode cX7_readPerson 12 = .ok (.aload_n 0, 1) := by decide +kernel
theorem dX7_readPerson_13 : decode cX7_readPerson 13 = .ok (.iconst 5, 1) := by decide +kernel
theorem dX7_readPerson_14 : decode cX7_readPerson 14 = .ok (.invokevirtual 146, 3) := by decide +kernel
theorem dX7_readPerson_17 : decode cX7_readPerson 17 = .ok (.ireturn, 1) := by decide +kernel
theorem dX7_readPerson_18 : decode cX7_readPerson 18 = .ok (.aload_n 0, 1) := by decide +kernel
theorem dX7_readPerson_19 : decode cX7_readPerson 19 = .ok (.getfield 73, 3) := by decide +kernel
theorem dX7_readPerson_22 : decode cX7_readPerson 22 = .ok (.getfield 185, 3) := by decide +kernel
theorem dX7_readPerson_25 : decode cX7_readPerson 25 = .ok (.aload_n 0, 1) := by decide +kernel
theorem dX7_readPerson_26 : decode cX7_readPerson 26 = .ok (.getfield 73, 3) := by decide +kernel
theorem dX7_readPerson_29 : decode cX7_readPerson 29 = .ok (.getfield 112, 3) := by decide +kernel
theorem dX7_readPerson_32 : decode cX7_readPerson 32 = .ok (.aaload, 1) := by decide +kernel
theorem dX7_readPerson_33 : decode cX7_readPerson 33 = .ok (.astore_n 1, 1) := by decide +kernel
theorem dX7_readPerson_34 : decode cX7_readPerson 34 = .ok (.aload_n 0, 1) := by decide +kernel
theorem dX7_readPerson_35 : decode cX7_readPerson 35 = .ok (.iconst 2, 1) := by decide +kernel
theorem dX7_readPerson_36 : decode cX7_readPerson 36 = .ok (.aload_n 0, 1) := by decide +kernel
theorem dX7_readPerson_37 : decode cX7_readPerson 37 = .ok (.getfield 73, 3) := by decide +kernel
theorem dX7_readPerson_40 : decode cX7_readPerson 40 = .ok (.getfield 112, 3) := by decide +kernel
theorem dX7_readPerson_43 : decode cX7_readPerson 43 = .ok (.invokevirtual 160, 3) := by decide +kernel
theorem dX7_readPerson_46 : decode cX7_readPerson 46 = .ok (.ifCond .eq 15, 3) := by decide +kernel
theorem dX7_readPerson_49 : decode cX7_readPerson 49 = .ok (.aload_n 0, 1) := by decide +kernel
theorem dX7_readPerson_50 : decode cX7_readPerson 50 = .ok (.ldc 57, 2) := by decide +kernel
theorem dX7_readPerson_52 : decode cX7_readPerson 52 = .ok (.iconst 1, 1) := by decide +kernel
theorem dX7_readPerson_53 : decode cX7_readPerson 53 = .ok (.bipush 9, 2) := by decide +kernel
theorem dX7_readPerson_55 : decode cX7_readPerson 55 = .ok (.invokevirtual 150, 3) := by decide +kernel
theorem dX7_readPerson_58 : decode cX7_readPerson 58 = .ok (.ifCond .ne 5, 3) := by decide +kernel
theorem dX7_readPerson_61 : decode cX7_readPerson 61 = .ok (.iconst 0, 1) := by decide +kernel
theorem dX7_readPerson_62 : decode cX7_readPerson 62 = .ok (.ireturn, 1) := by decide +kernel
theorem dX7_readPerson_63 : decode cX7_readPerson 63 = .ok (.aload_n 1, 1) := by decide +kernel
theorem dX7_readPerson_64 : decode cX7_readPerson 64 = .ok (.aload_n 0, 1) := by decide +kernel
theorem dX7_readPerson_65 : decode cX7_readPerson 65 = .ok (.getfield 154, 3) := by decide +kernel
theorem dX7_readPerson_68 : decode cX7_readPerson 68 = .ok (.putfield 189, 3) := by decide +kernel
theorem dX7_readPerson_71 : decode cX7_readPerson 71 = .ok (.aload_n 0, 1) := by decide +kernel
theorem dX7_readPerson_72 : decode cX7_readPerson 72 = .ok (.ldc 192, 2) := by decide +kernel
theorem dX7_readPerson_74 : decode cX7_readPerson 74 = .ok (.iconst 0, 1) := by decide +kernel
theorem dX7_readPerson_75 : decode cX7_readPerson 75 = .ok (.bipush 99, 2) := by decide +kernel
theorem dX7_readPerson_77 : decode cX7_readPerson 77 = .ok (.invokevirtual 150, 3) := by decide +kernel
theorem dX7_readPerson_80 : decode cX7_readPerson 80 = .ok (.ifCond .ne 5, 3) := by decide +kernel
theorem dX7_readPerson_83 : decode cX7_readPerson 83 = .ok (.iconst 0, 1) := by decide +kernel
theorem dX7_readPerson_84 : decode cX7_readPerson 84 = .ok (.ireturn, 1) := by decide +kernel
theorem dX7_readPerson_85 : decode cX7_readPerson 85 = .ok (.aload_n 1, 1) := by decide +kernel
theorem dX7_readPerson_86 : decode cX7_readPerson 86 = .ok (.aload_n 0, 1) := by decide +kernel
theorem dX7_readPerson_87 : decode cX7_readPerson 87 = .ok (.getfield 154, 3) := by decide +kernel
theorem dX7_readPerson_90 : decode cX7_readPerson 90 = .ok (.putfield 194, 3) := by decide +kernel
theorem dX7_readPerson_93 : decode cX7_readPerson 93 = .ok (.aload_n 1, 1) := by decide +kernel
theorem dX7_readPerson_94 : decode cX7_readPerson 94 = .ok (.aload_n 0, 1) := by decide +kernel
theorem dX7_readPerson_95 : decode cX7_readPerson 95 = .ok (.ldc 51, 2) := by decide +kernel
theorem dX7_readPerson_97 : decode cX7_readPerson 97 = .ok (.invokevirtual 115, 3) := by decide +kernel
theorem dX7_readPerson_100 : decode cX7_readPerson 100 = .ok (.putfield 196, 3) := by decide +kernel
theorem dX7_readPerson_103 : decode cX7_readPerson 103 = .ok (.aload_n 0, 1) := by decide +kernel
theorem dX7_readPerson_104 : decode cX7_readPerson 104 = .ok (.iconst 0, 1) := by decide +kernel
theorem dX7_readPerson_105 : decode cX7_readPerson 105 = .ok (.putfield 154, 3) := by decide +kernel
theorem dX7_readPerson_108 : decode cX7_readPerson 108 = .ok (.aload_n 0, 1) := by decide +kernel
theorem dX7_readPerson_109 : decode cX7_readPerson 109 = .ok (.getfield 14, 3) := by decide +kernel
theorem dX7_readPerson_112 : decode cX7_readPerson 112 = .ok (.ldc 53, 2) := by decide +kernel
theorem dX7_readPerson_114 : decode cX7_readPerson 114 = .ok (.invokevirtual 199, 3) := by decide +kernel
theorem dX7_readPerson_117 : decode cX7_readPerson 117 = .ok (.ifCond .eq 16, 3) := by decide +kernel
theorem dX7_readPerson_120 : decode cX7_readPerson 120 = .ok (.aload_n 0, 1) := by decide +kernel
theorem dX7_readPerson_121 : decode cX7_readPerson 121 = .ok (.ldc 53, 2) := by decide +kernel
theorem dX7_readPerson_123 : decode cX7_readPerson 123 = .ok (.iconst 1, 1) := by decide +kernel
theorem dX7_readPerson_124 : decode cX7_readPerson 124 = .ok (.iconst 4, 1) := by decide +kernel
theorem dX7_readPerson_125 : decode cX7_readPerson 125 = .ok (.invokevirtual 150, 3) := by decide +kernel
theorem dX7_readPerson_128 : decode cX7_readPerson 128 = .ok (.ifCond .ne 5, 3) := by decide +kernel
theorem dX7_readPerson_131 : decode cX7_readPerson 131 = .ok (.iconst 0, 1) := by decide +kernel
theorem dX7_readPerson_132 : decode cX7_readPerson 132 = .ok (.ireturn, 1) := by decide +kernel
theorem dX7_readPerson_133 : decode cX7_readPerson 133 = .ok (.aload_n 1, 1) := by decide +kernel
theorem dX7_readPerson_134 : decode cX7_readPerson 134 = .ok (.aload_n 0, 1) := by decide +kernel
theorem dX7_readPerson_135 : decode cX7_readPerson 135 = .ok (.getfield 154, 3) := by decide +kernel
theorem dX7_readPerson_138 : decode cX7_readPerson 138 = .ok (.putfield 202, 3) := by decide +kernel
theorem dX7_readPerson_141 : decode cX7_readPerson 141 = .ok (.aload_n 1, 1) := by decide +kernel
theorem dX7_readPerson_142 : decode cX7_readPerson 142 = .ok (.iconst 0, 1) := by decide +kernel
theorem dX7_readPerson_143 : decode cX7_readPerson 143 = .ok (.putfield 204, 3) := by decide +kernel
theorem dX7_readPerson_146 : decode cX7_readPerson 146 = .ok (.aload_n 0, 1) := by decide +kernel
theorem dX7_readPerson_147 : decode cX7_readPerson 147 = .ok (.ldc 55, 2) := by decide +kernel
theorem dX7_readPerson_149 : decode cX7_readPerson 149 = .ok (.invokevirtual 115, 3) := by decide +kernel
theorem dX7_readPerson_152 : decode cX7_readPerson 152 = .ok (.ifCond .eq 13, 3) := by decide +kernel
theorem dX7_readPerson_155 : decode cX7_readPerson 155 = .ok (.aload_n 0, 1) := by decide +kernel
theorem dX7_readPerson_156 : decode cX7_readPerson 156 = .ok (.aload_n 1, 1) := by decide +kernel
theorem dX7_readPerson_157 : decode cX7_readPerson 157 = .ok (.invokevirtual 207, 3) := by decide +kernel
theorem dX7_readPerson_160 : decode cX7_readPerson 160 = .ok (.ifCond .ne 5, 3) := by decide +kernel
theorem dX7_readPerson_163 : decode cX7_readPerson 163 = .ok (.iconst 0, 1) := by decide +kernel
theorem dX7_readPerson_164 : decode cX7_readPerson 164 = .ok (.ireturn, 1) := by decide +kernel
theorem dX7_readPerson_165 : decode cX7_readPerson 165 = .ok (.aload_n 0, 1) := by decide +kernel
theorem dX7_readPerson_166 : decode cX7_readPerson 166 = .ok (.getfield 73, 3) := by decide +kernel
theorem dX7_readPerson_169 : decode cX7_readPerson 169 = .ok (.dup, 1) := by decide +kernel
theorem dX7_readPerson_170 : decode cX7_readPerson 170 = .ok (.getfield 112, 3) := by decide +kernel
theorem dX7_readPerson_173 : decode cX7_readPerson 173 = .ok (.iconst 1, 1) := by decide +kernel
theorem dX7_readPerson_174 : decode cX7_readPerson 174 = .ok (.iadd, 1) := by decide +kernel
theorem dX7_readPerson_175 : decode cX7_readPerson 175 = .ok (.putfield 112, 3) := by decide +kernel
theorem dX7_readPerson_178 : decode cX7_readPerson 178 = .ok (.iconst 1, 1) := by decide +kernel
theorem dX7_readPerson_179 : decode cX7_readPerson 179 = .ok (.ireturn, 1) := by decide +kernel
theorem dX7_readPersonsWorks_0 : decode cX7_readPersonsWorks 0 = .ok (.iconst 0, 1) := by decide +kernel
theorem dX7_readPersonsWorks_1 : decode cX7_readPersonsWorks 1 = .ok (.istore_n 2, 1) := by decide +kernel
theorem dX7_readPersonsWorks_2 : decode cX7_readPersonsWorks 2 = .ok (.iload_n 2, 1) := by decide +kernel
theorem dX7_readPersonsWorks_3 : decode cX7_readPersonsWorks 3 = .ok (.iconst 5, 1) := by decide +kernel
theorem dX7_readPersonsWorks_4 : decode cX7_readPersonsWorks 4 = .ok (.if_icmp .gt 60, 3) := by decide +kernel
theorem dX7_readPersonsWorks_7 : decode cX7_readPersonsWorks 7 = .ok (.aload_n 0, 1) := by decide +kernel
theorem dX7_readPersonsWorks_8 : decode cX7_readPersonsWorks 8 = .ok (.iconst 0, 1) := by decide +kernel
theorem dX7_readPersonsWorks_9 : decode cX7_readPersonsWorks 9 = .ok (.invokevirtual 211, 3) := by decide +kernel
theorem dX7_readPersonsWorks_12 : decode cX7_readPersonsWorks 12 = .ok (.ifCond .ne 5, 3) := by decide +kernel
theorem dX7_readPersonsWorks_15 : decode cX7_readPersonsWorks 15 = .ok (.iconst 0, 1) := by decide +kernel
theorem dX7_readPersonsWorks_16 : decode cX7_readPersonsWorks 16 = .ok (.ireturn, 1) := by decide +kernel
theorem dX7_readPersonsWorks_17 : decode cX7_readPersonsWorks 17 = .ok (.aload_n 1, 1) := by decide +kernel
theorem dX7_readPersonsWorks_18 : decode cX7_readPersonsWorks 18 = .ok (.aload_n 0, 1) := by decide +kernel
theorem dX7_readPersonsWorks_19 : decode cX7_readPersonsWorks 19 = .ok (.getfield 154, 3) := by decide +kernel
theorem dX7_readPersonsWorks_22 : decode cX7_readPersonsWorks 22 = .ok (.invokevirtual 214, 3) := by decide +kernel
theorem dX7_readPersonsWorks_25 : decode cX7_readPersonsWorks 25 = .ok (.ifCond .eq 9, 3) := by decide +kernel
theorem dX7_readPersonsWorks_28 : decode cX7_readPersonsWorks 28 = .ok (.aload_n 0, 1) := by decide +kernel
theorem dX7_readPersonsWorks_29 : decode cX7_readPersonsWorks 29 = .ok (.iconst 3, 1) := by decide +kernel
theorem dX7_readPersonsWorks_30 : decode cX7_readPersonsWorks 30 = .ok (.invokevirtual 146, 3) := by decide +kernel
theorem dX7_readPersonsWorks_33 : decode cX7_readPersonsWorks 33 = .ok (.ireturn, 1) := by decide +kernel
theorem dX7_readPersonsWorks_34 : decode cX7_readPersonsWorks 34 = .ok (.aload_n 1, 1) := by decide +kernel
theorem dX7_readPersonsWorks_35 : decode cX7_readPersonsWorks 35 = .ok (.dup, 1) := by decide +kernel
theorem dX7_readPersonsWorks_36 : decode cX7_readPersonsWorks 36 = .ok (.getfield 204, 3) := by decide +kernel
theorem dX7_readPersonsWorks_39 : decode cX7_readPersonsWorks 39 = .ok (.iconst 1, 1) := by decide +kernel
theorem dX7_readPersonsWorks_40 : decode cX7_readPersonsWorks 40 = .ok (.aload_n 0, 1) := by decide +kernel
theorem dX7_readPersonsWorks_41 : decode cX7_readPersonsWorks 41 = .ok (.getfield 154, 3) := by decide +kernel
theorem dX7_readPersonsWorks_44 : decode cX7_readPersonsWorks 44 = .ok (.ishl, 1) := by decide +kernel
theorem dX7_readPersonsWorks_45 : decode cX7_readPersonsWorks 45 = .ok (.ior, 1) := by decide +kernel
theorem dX7_readPersonsWorks_46 : decode cX7_readPersonsWorks 46 = .ok (.putfield 204, 3) := by decide +kernel
theorem dX7_readPersonsWorks_49 : decode cX7_readPersonsWorks 49 = .ok (.aload_n 0, 1) := by decide +kernel
theorem dX7_readPersonsWorks_50 : decode cX7_readPersonsWorks 50 = .ok (.invokevirtual 164, 3) := by decide +kernel
theorem dX7_readPersonsWorks_53 : decode cX7_readPersonsWorks 53 = .ok (.ifCond .ne 5, 3) := by decide +kernel
theorem dX7_readPersonsWorks_56 : decode cX7_readPersonsWorks 56 = .ok (.iconst 1, 1) := by decide +kernel
theorem dX7_readPersonsWorks_57 : decode cX7_readPersonsWorks 57 = .ok (.ireturn, 1) := by decide +kernel
theorem dX7_readPersonsWorks_58 : decode cX7_readPersonsWorks 58 = .ok (.iinc 2 1, 3) := by decide +kernel
theorem dX7_readPersonsWorks_61 : decode cX7_readPersonsWorks 61 = .ok (.goto (-59), 3) := by decide +kernel
theorem dX7_readPersonsWorks_64 : decode cX7_readPersonsWorks 64 = .ok (.iconst 1, 1) := by decide +kernel
theorem dX7_readPersonsWorks_65 : decode cX7_readPersonsWorks 65 = .ok (.ireturn, 1) := by decide +kernel
section
variable {b : Nat} {ad : Nat → Nat} {I J : HI} {L M : HL} {R : HR} {Q : QT} {tp : Nat → Nat} {sz k e bf B : Nat} {s : PS} {F : bkF} {cnt : Nat} {sl : Nat → Nat}
theorem RdC.nx (h : RdC I L R B tp sz s bf) (h2 : Fr9 true I J L M) (ht : TkI J M R tp sz (tE tp sz s.1) (tA tp sz s.1)) : RdC J M R B tp sz (nx tp sz s) (tA tp sz s.1) := by
  obtain ⟨hM, hPI, cnt, sl, hN, hC⟩ := h
  exact ⟨hM.fr9 hPI.2.1 h2 ht, hPI.ad (ad_nx ht.by hPI.1), cnt, sl, hN.fr9 h2, hC⟩
theorem rd_work {n1 : Nat} (hM : Md I L R B tp sz (tE tp sz s.1) bf s.2.1 s.2.2) (hby : ∀ i, i < sz → tp i < 256) (hPI : PInv sz s) (h5 : s.2.1 1 < 5) (hq : qNew tp sz s = .inr s) (hN : NmT I L (keepF tp sz s.2.1 s.1 (s.2.1 1)) (cnt + 1) (fun i => if i = cnt then s.2.1 1 else sl i)) (h17 : ∀ i, i < cnt → sl i < 17) (hC : TnC s.2.1 cnt sl) (hn : n1 = s.2.1 1 + 1) : RdC (ui I B 1 (nI n1)) L R B tp sz (wkS tp sz s) bf := by
  subst hn
  obtain ⟨-, hk, hf⟩ := qNew_i hq
  have hI := (inv_wk hby hPI h5 hk hf).1
  obtain ⟨a1, a2, a3, a4, a5, a6, a7⟩ := hM
  have hbb := shB a3
  have hO := hPI.2.1
  have o2 := hO.2.2.1
  have o3 := hO.2.2.2.1
  have ge : ∀ x, x ≠ 1 → setF (keepF tp sz s.2.1 s.1 (s.2.1 1)) 1 (s.2.1 1 + 1) x = keepF tp sz s.2.1 s.1 (s.2.1 1) x := fun x hx => setF_n hx
  have g1 : setF (keepF tp sz s.2.1 s.1 (s.2.1 1)) 1 (s.2.1 1 + 1) 1 = s.2.1 1 + 1 := setF_s _ _ _
  have hw : wkS tp sz s = (tE tp sz s.1, setF (keepF tp sz s.2.1 s.1 (s.2.1 1)) 1 (s.2.1 1 + 1), s.2.2) := rfl
  rw [hw] at hI ⊢
  generalize setF (keepF tp sz s.2.1 s.1 (s.2.1 1)) 1 (s.2.1 1 + 1) = G at hI ge g1 ⊢
  have ge2 : ∀ x, x < 192 → x ≠ 1 → G x = s.2.1 x := fun x h1 h2 => by rw [ge x h2, keepF_lo h1]
  refine ⟨⟨a1, a2, a3, a4.fr (ui_ne (by omega)) (ui_ne (by omega)) rfl, ?_, a6.same (ui_ne (by omega)) (ui_ne (by omega)) (ui_ne (by omega)), ?_⟩, hI, cnt + 1, _, (hN.up (Or.inl (by omega))).cong (fun x hx => ge x (by omega)), hC.new (n := s.2.1 1) (fun x hx => ?_) (by omega) h17 ?_⟩
  · exact bk_work a5 hO h5 g1 ge2 (ui_s _ _ _ _) (fun j hj => ui_o hj) (fun x h1 _ _ => ui_ne h1)
  · rw [ui_ne (by omega)]
    show _ = nI (G 7) ∧ _
    rw [ge2 7 (by decide) (by decide)]; exact a7
  · show tn G x ↔ _
    unfold tn; rw [g1, ge2 2 (by decide) (by decide), ge2 3 (by decide) (by decide)]; omega
  · show G 1 + G 2 + G 3 = _
    rw [g1, ge2 2 (by decide) (by decide), ge2 3 (by decide) (by decide)]; omega
theorem c_X7_readWorks (h : RdC I L R B tp sz s bf) (hQ : LQ I L R B tp sz (lWork tp sz (6 - s.2.1 1) s) Q) : KK 7 mX7_readWorks b ad [.ref (b + 88)] I L R Q := by
  have loop : ∀ (n i : Nat) (s : PS) (J0 : HI) (M0 : HL) (bf : Nat), n = 6 - s.2.1 1 → i ≤ s.2.1 1 → RdC J0 M0 R B tp sz s bf → FrB B I J0 L M0 → LQ I L R B tp sz (lWork tp sz n s) Q → VV yX7_readWorks cX7_readWorks 2 (some .boolean) 7 Q b ad 2 [some (.ref (b + 88)), some (.int (nI i))] [] J0 M0 R := by
    intro n
    induction n with
    | zero => intro i s J0 M0 bf hn _ h; have := h.2.1.2.1.2.1; omega
    | succ n ih =>
      intro i s J0 M0 bf hn hi h hfr hQ
      obtain ⟨hM, hPI, cnt, sl, hN, hC⟩ := h
      have hR := hM.1
      have hb2 := hM.2.1
      have hB := hM.2.2.1
      have hT := hM.2.2.2.1
      have hF := hM.2.2.2.2.1
      have hby := hT.by
      have hO := hPI.2.1
      have hK := hPI.2.2.2.2.2.2.1
      have h7 := hPI.2.2.1
      have o0 := hO.1
      have o1 := hO.2.1
      have o2 := hO.2.2.1
      have o3 := hO.2.2.2.1
      have o4 := hO.2.2.2.2.1
      have o5 := hO.2.2.2.2.2.1
      have o6 := hO.2.2.2.2.2.2.1
      have hbb := shB hB
      refine v_iload_1 dX7_readWorks_2 ?_
      refine v_iconst (v := nI 5) dX7_readWorks_3 (by decide) ?_
      refine v_icmp_gt (tgt := 69) dX7_readWorks_4 (by decide) (fun hc4 => ?_) (fun hc4 => ?_)
      · exact absurd hc4 (nI_nlt (by omega) (by omega))
      · (try rw [nI_ltI (by omega) (by omega)] at hc4)
        refine v_aload_0 dX7_readWorks_7 ?_
        refine v_iconst (v := nI 0) dX7_readWorks_8 (by decide) ?_
        refine v_aload_0 dX7_readWorks_9 ?_
        refine u_getR dX7_readWorks_10 gf_X7_73 (by first | assumption | rfl | exact led_1 (by assumption) | exact led_2 (by assumption) | exact bk_m (by assumption) (by first | assumption | omega) | exact bk_p (by assumption) (by first | assumption | omega) | exact bk_o (by assumption) (by first | assumption | omega) | exact bk_s (by assumption) (by first | assumption | omega) | exact bk_1 (by assumption) | exact bk_2 (by assumption) | exact bk_3 (by assumption) | exact bk_4 (by assumption) | exact bk_5 (by assumption) | exact bk_6 (by assumption) | exact bk_7 (by assumption) | exact bk_8 (by assumption) | exact sh_ring _ (by first | assumption | omega) | exact sh_imgs _ (by first | assumption | omega)) (by assumption) ?_
        refine u_getI dX7_readWorks_13 gf_X7_157 (by first | assumption | rfl | exact led_1 (by assumption) | exact led_2 (by assumption) | exact bk_m (by assumption) (by first | assumption | omega) | exact bk_p (by assumption) (by first | assumption | omega) | exact bk_o (by assumption) (by first | assumption | omega) | exact bk_s (by assumption) (by first | assumption | omega) | exact bk_1 (by assumption) | exact bk_2 (by assumption) | exact bk_3 (by assumption) | exact bk_4 (by assumption) | exact bk_5 (by assumption) | exact bk_6 (by assumption) | exact bk_7 (by assumption) | exact bk_8 (by assumption) | exact sh_ring _ (by first | assumption | omega) | exact sh_imgs _ (by first | assumption | omega)) ?_
        (try rw [bx1 hF])
        refine u_callV_2 dX7_readWorks_16 ml_X7_160 mv_X7_needNewName (by first | assumption | rfl | exact led_1 (by assumption) | exact led_2 (by assumption) | exact bk_m (by assumption) (by first | assumption | omega) | exact bk_p (by assumption) (by first | assumption | omega) | exact bk_o (by assumption) (by first | assumption | omega) | exact bk_s (by assumption) (by first | assumption | omega) | exact bk_1 (by assumption) | exact bk_2 (by assumption) | exact bk_3 (by assumption) | exact bk_4 (by assumption) | exact bk_5 (by assumption) | exact bk_6 (by assumption) | exact bk_7 (by assumption) | exact bk_8 (by assumption) | exact sh_ring _ (by first | assumption | omega) | exact sh_imgs _ (by first | assumption | omega)) (by decide) rfl (by decide) (Nat.le_of_ble_eq_true rfl) (c_X7_needNewName (t := 0) (m := s.2.1 1) (s := s) (by decide) (Or.inr (Or.inr rfl)) (by omega) hR hN hC hK hT (fun f p q J M p1 p2 p3 => ?_) (fun q1 J1 M1 r1 f1 hN1 => ?_))
        · refine v_if_ne (tgt := 24) dX7_readWorks_19 (by decide) (fun hc19 => ?_) (fun hc19 => ?_)
          · exact absurd rfl hc19
          · (first | rw [bI_0, Bool.not_eq_false] at hc19 | rw [bI_0] at hc19 | rw [show (0 : Int32) = nI 0 from rfl, nI_eq (by omega) (by omega)] at hc19 | skip)
            refine v_iconst (v := nI 0) dX7_readWorks_22 (by decide) ?_
            refine v_zret dX7_readWorks_23 (by first | rfl | exact bI_n _) rfl rfl rfl rfl ?_
            exact hQ.1 f p (by rw [lWork, bnd_l q]) _ _ p1 p2 (hfr.fr9 p3)
        · have hM := hM.fr7 hO f1 r1
          have h17 := hN.2.2.2
          have hfr := hfr.fr7 f1
          have hT := hM.2.2.2.1
          have hF := hM.2.2.2.2.1
          refine v_if_ne (tgt := 24) dX7_readWorks_19 (by decide) (fun hc19 => ?_) (fun hc19 => ?_)
          · (first | rw [bI_0, Bool.not_eq_false] at hc19 | rw [bI_0] at hc19 | rw [show (0 : Int32) = nI 0 from rfl, nI_eq (by omega) (by omega)] at hc19 | skip)
            refine v_aload_0 dX7_readWorks_24 ?_
            refine u_getR dX7_readWorks_25 gf_X7_73 (by first | assumption | rfl | exact led_1 (by assumption) | exact led_2 (by assumption) | exact bk_m (by assumption) (by first | assumption | omega) | exact bk_p (by assumption) (by first | assumption | omega) | exact bk_o (by assumption) (by first | assumption | omega) | exact bk_s (by assumption) (by first | assumption | omega) | exact bk_1 (by assumption) | exact bk_2 (by assumption) | exact bk_3 (by assumption) | exact bk_4 (by assumption) | exact bk_5 (by assumption) | exact bk_6 (by assumption) | exact bk_7 (by assumption) | exact bk_8 (by assumption) | exact sh_ring _ (by first | assumption | omega) | exact sh_imgs _ (by first | assumption | omega)) (by assumption) ?_
            refine u_getI dX7_readWorks_28 gf_X7_157 (by first | assumption | rfl | exact led_1 (by assumption) | exact led_2 (by assumption) | exact bk_m (by assumption) (by first | assumption | omega) | exact bk_p (by assumption) (by first | assumption | omega) | exact bk_o (by assumption) (by first | assumption | omega) | exact bk_s (by assumption) (by first | assumption | omega) | exact bk_1 (by assumption) | exact bk_2 (by assumption) | exact bk_3 (by assumption) | exact bk_4 (by assumption) | exact bk_5 (by assumption) | exact bk_6 (by assumption) | exact bk_7 (by assumption) | exact bk_8 (by assumption) | exact sh_ring _ (by first | assumption | omega) | exact sh_imgs _ (by first | assumption | omega)) ?_
            (try rw [bx1 hF])
            refine v_iconst (v := nI 5) dX7_readWorks_31 (by decide) ?_
            refine v_icmp_lt (tgt := 41) dX7_readWorks_32 (by decide) (fun hc32 => ?_) (fun hc32 => ?_)
            · (try rw [nI_ltI (by omega) (by omega)] at hc32)
              refine v_aload_0 dX7_readWorks_41 ?_
              refine u_getR dX7_readWorks_42 gf_X7_73 (by first | assumption | rfl | exact led_1 (by assumption) | exact led_2 (by assumption) | exact bk_m (by assumption) (by first | assumption | omega) | exact bk_p (by assumption) (by first | assumption | omega) | exact bk_o (by assumption) (by first | assumption | omega) | exact bk_s (by assumption) (by first | assumption | omega) | exact bk_1 (by assumption) | exact bk_2 (by assumption) | exact bk_3 (by assumption) | exact bk_4 (by assumption) | exact bk_5 (by assumption) | exact bk_6 (by assumption) | exact bk_7 (by assumption) | exact bk_8 (by assumption) | exact sh_ring _ (by first | assumption | omega) | exact sh_imgs _ (by first | assumption | omega)) (by assumption) ?_
              refine v_dup dX7_readWorks_45 rfl ?_
              refine u_getI dX7_readWorks_46 gf_X7_157 (by first | assumption | rfl | exact led_1 (by assumption) | exact led_2 (by assumption) | exact bk_m (by assumption) (by first | assumption | omega) | exact bk_p (by assumption) (by first | assumption | omega) | exact bk_o (by assumption) (by first | assumption | omega) | exact bk_s (by assumption) (by first | assumption | omega) | exact bk_1 (by assumption) | exact bk_2 (by assumption) | exact bk_3 (by assumption) | exact bk_4 (by assumption) | exact bk_5 (by assumption) | exact bk_6 (by assumption) | exact bk_7 (by assumption) | exact bk_8 (by assumption) | exact sh_ring _ (by first | assumption | omega) | exact sh_imgs _ (by first | assumption | omega)) ?_
              (try rw [bx1 hF])
              refine v_iconst (v := nI 1) dX7_readWorks_49 (by decide) ?_
              refine v_iadd dX7_readWorks_50 ?_
              rw [nI_add]
              refine u_putI dX7_readWorks_51 gf_X7_157 (by first | assumption | rfl | exact led_1 (by assumption) | exact led_2 (by assumption) | exact bk_m (by assumption) (by first | assumption | omega) | exact bk_p (by assumption) (by first | assumption | omega) | exact bk_o (by assumption) (by first | assumption | omega) | exact bk_s (by assumption) (by first | assumption | omega) | exact bk_1 (by assumption) | exact bk_2 (by assumption) | exact bk_3 (by assumption) | exact bk_4 (by assumption) | exact bk_5 (by assumption) | exact bk_6 (by assumption) | exact bk_7 (by assumption) | exact bk_8 (by assumption) | exact sh_ring _ (by first | assumption | omega) | exact sh_imgs _ (by first | assumption | omega)) rfl rfl rfl ?_
              have hN2 : NmT J1 M1 (keepF tp sz s.2.1 s.1 (s.2.1 1)) (cnt + 1) (fun i => if i = cnt then s.2.1 1 else sl i) := by
                have q := hN1 (by simpa [rom] using hc32) (by have := hC.2.2; omega) (by unfold tn; simp only [bas, if_true]; omega)
                simp only [bas, if_true, Nat.zero_add] at q
                exact q
              have hRd := rd_work (n1 := s.2.1 1 + 1) hM hby hPI hc32 q1 hN2 (fun i hi => (h17 i hi).1) hC rfl
              have hfr := hfr.up (x := B) (j := 1) (v := nI (s.2.1 1 + 1)) (Or.inl ⟨by omega, by omega⟩) hB
              have hT := hRd.1.2.2.2.1
              refine v_aload_0 dX7_readWorks_54 ?_
              refine u_callV_0 dX7_readWorks_55 ml_X7_164 mv_X7_passComma (by first | assumption | rfl | exact led_1 (by assumption) | exact led_2 (by assumption) | exact bk_m (by assumption) (by first | assumption | omega) | exact bk_p (by assumption) (by first | assumption | omega) | exact bk_o (by assumption) (by first | assumption | omega) | exact bk_s (by assumption) (by first | assumption | omega) | exact bk_1 (by assumption) | exact bk_2 (by assumption) | exact bk_3 (by assumption) | exact bk_4 (by assumption) | exact bk_5 (by assumption) | exact bk_6 (by assumption) | exact bk_7 (by assumption) | exact bk_8 (by assumption) | exact sh_ring _ (by first | assumption | omega) | exact sh_imgs _ (by first | assumption | omega)) (by decide) rfl (by decide) (Nat.le_of_ble_eq_true rfl) (c_X7_passComma hR hT (fun q2 => ?_) (fun q2 J2 M2 r2 f2 => ?_))
              · refine v_if_ne (tgt := 63) dX7_readWorks_58 (by decide) (fun hc58 => ?_) (fun hc58 => ?_)
                · exact absurd rfl hc58
                · (first | rw [bI_0, Bool.not_eq_false] at hc58 | rw [bI_0] at hc58 | rw [show (0 : Int32) = nI 0 from rfl, nI_eq (by omega) (by omega)] at hc58 | skip)
                  refine v_iconst (v := nI 1) dX7_readWorks_61 (by decide) ?_
                  refine v_zret dX7_readWorks_62 (by first | rfl | exact bI_n _) rfl rfl rfl rfl ?_
                  exact hQ.2 _ (by rw [lWork, bnd_r q1, if_neg (by omega), if_neg q2]) _ _ _ hRd hfr
              · refine v_if_ne (tgt := 63) dX7_readWorks_58 (by decide) (fun hc58 => ?_) (fun hc58 => ?_)
                · (first | rw [bI_0, Bool.not_eq_false] at hc58 | rw [bI_0] at hc58 | rw [show (0 : Int32) = nI 0 from rfl, nI_eq (by omega) (by omega)] at hc58 | skip)
                  refine v_iinc_1 (v := 1) rfl dX7_readWorks_63 (by decide) ?_
                  rw [show nI i + 1 = nI (i + 1) from nI_1 i]
                  refine v_goto (tgt := 2) dX7_readWorks_66 (by decide) ?_
                  have hw1 : (wkS tp sz s).2.1 1 = s.2.1 1 + 1 := by exact setF_s (keepF tp sz s.2.1 s.1 (s.2.1 1)) 1 (s.2.1 1 + 1)
                  refine ih (i + 1) _ _ _ _ ?_ ?_ (hRd.nx f2 r2) (hfr.fr9 f2) ?_
                  · show n = 6 - (wkS tp sz s).2.1 1; omega
                  · show i + 1 ≤ (wkS tp sz s).2.1 1; omega
                  · rw [lWork, bnd_r q1, if_neg (by omega), if_pos q2] at hQ; exact hQ
                · exact absurd hc58 (by decide)
            · (try rw [nI_ltI (by omega) (by omega)] at hc32)
              refine v_aload_0 dX7_readWorks_35 ?_
              refine v_iconst (v := nI 5) dX7_readWorks_36 (by decide) ?_
              refine u_callV_1 dX7_readWorks_37 ml_X7_146 mv_X7_failBefore (by first | assumption | rfl | exact led_1 (by assumption) | exact led_2 (by assumption) | exact bk_m (by assumption) (by first | assumption | omega) | exact bk_p (by assumption) (by first | assumption | omega) | exact bk_o (by assumption) (by first | assumption | omega) | exact bk_s (by assumption) (by first | assumption | omega) | exact bk_1 (by assumption) | exact bk_2 (by assumption) | exact bk_3 (by assumption) | exact bk_4 (by assumption) | exact bk_5 (by assumption) | exact bk_6 (by assumption) | exact bk_7 (by assumption) | exact bk_8 (by assumption) | exact sh_ring _ (by first | assumption | omega) | exact sh_imgs _ (by first | assumption | omega)) (by decide) rfl (by decide) (Nat.le_of_ble_eq_true rfl) (c_X7_failBefore hR hT (fun J p1 p2 p3 p4 => ?_))
              refine v_zret dX7_readWorks_40 (by first | rfl | exact bI_n _) rfl rfl rfl rfl ?_
              exact hQ.1 5 _ (by rw [lWork, bnd_r q1, if_pos (by omega)]) _ _ p1 p2 (hfr.fr9 p3)
          · exact absurd hc19 (by decide)
  refine K.of (M := mX7_readWorks) (lv := [some (.ref (b + 88)), none]) (by decide) (Nat.le_of_ble_eq_true rfl) rfl ?_
  refine v_iconst (v := nI 0) dX7_readWorks_0 (by decide) ?_
  refine v_istore_1 rfl dX7_readWorks_1 ?_
  exact loop (6 - s.2.1 1) 0 s I L bf rfl (Nat.zero_le _) h FrB.refl hQ
theorem fup_cg {p p' : Nat → Bool} : ∀ (j i : Nat), (∀ k, i ≤ k → k < i + j → p k = p' k) → fup p i j = fup p' i j
  | 0, i, _ => rfl
  | j + 1, i, h => by
    by_cases hp : p i = true
    · rw [fup_t hp, fup_t (by rw [← h i (Nat.le_refl _) (by omega)]; exact hp)]
    · have hp : p i = false := by simpa using hp
      rw [fup_f hp, fup_f (by rw [← h i (Nat.le_refl _) (by omega)]; exact hp)]
      exact fup_cg j (i + 1) (fun k a c => h k (by omega) (by omega))
theorem fnd_cong {F F' : bkF} (e' : ∀ x, 192 ≤ x → F' x = F x) : fnd tp sz F' e = fnd tp sz F e := by
  unfold fnd
  have key : ∀ n, n < 17 → (decide (0 < F' (192 + n)) && decide (nmF F' n = tL tp sz e)) = (decide (0 < F (192 + n)) && decide (nmF F n = tL tp sz e)) := fun n hn => by rw [e' _ (by omega), nmF_same n hn e']
  exact fup_cg 17 0 (fun k _ hk => key k (by omega))
theorem c_needToldF {t : Nat} {F' : bkF} (ht : t < 3) (hR : RO R) (hF' : ∀ x, 192 ≤ x → F' x = s.2.1 x) (hN : NmT I L F' cnt sl) (hC : TnC F' cnt sl) (hK : NmK F') (hT : TkI I L R tp sz s.1 bf) (hQ0 : ∀ f p, qTold tp sz t 0 s = .inl (f, p) → ∀ (J : HI) (M : HL), J 88 0 = nI f → J 88 1 = nI p → Fr9 false I J L M → Q (some (.int 0)) SH J M R) (hQ1 : ∀ v u, qTold tp sz t 0 s = .inr (v, u) → u = nx tp sz s → v < 6 → ∀ (J : HI) (M : HL), TkI J M R tp sz u.1 (tA tp sz s.1) → J 88 9 = nI v → Fr9 true I J L M → Q (some (.int 1)) SH J M R) : KK 2 mX7_needTold b ad [.ref (b + 88), .int (nI t)] I L R Q := by
  have hf : fnd tp sz F' s.1 = fnd tp sz s.2.1 s.1 := fnd_cong hF'
  refine c_X7_needTold (s := (s.1, F', s.2.2)) ht hR hN hC hK hT (fun f p q => hQ0 f p ?_) (fun v u q e0 hv J M r n f => hQ1 v (nx tp sz s) ?_ rfl hv J M (by rw [e0] at r; exact r) n f)
  · unfold qTold at q ⊢
    rw [← hf]
    split at q
    · next h1 =>
      rw [if_pos h1]
      split at q
      · next h2 =>
        have h2 : fnd tp sz F' s.1 = none := h2
        rw [h2]; exact q
      · next m h2 =>
        have h2 : fnd tp sz F' s.1 = some m := h2
        rw [h2]
        simp only
        split at q
        · next h3 =>
          rw [if_pos h3]
          split at q
          · next h4 => rw [if_pos h4]; exact q
          · cases q
        · next h3 => rw [if_neg h3]; exact q
    · next h1 => rw [if_neg h1]; exact q
  · obtain ⟨-, a2, a3, a4, a5⟩ := qTold_i q
    have a3 : fnd tp sz F' s.1 = some (bas t + v) := a3
    unfold qTold
    rw [← hf, if_pos a2, a3]
    simp only
    rw [if_pos ⟨by omega, by have : v < rom t := a4; omega⟩, show bas t + v - bas t = v by omega, if_neg (by rw [Nat.zero_testBit]; decide)]
theorem qTold_but {t but v : Nat} {u : PS} (h : qTold tp sz t 0 s = .inr (v, u)) : qTold tp sz t but s = if but.testBit v = true then .inl (3, tA tp sz s.1) else .inr (v, u) := by
  obtain ⟨a1, a2, a3, a4, a5⟩ := qTold_i h
  unfold qTold
  rw [if_pos a2, a3]
  simp only
  rw [if_pos ⟨by omega, by omega⟩, show bas t + v - bas t = v by omega]
  have a1 : u = nx tp sz s := a1
  rw [a1]
theorem qTold_butl {t but f p : Nat} (h : qTold tp sz t 0 s = .inl (f, p)) : qTold tp sz t but s = .inl (f, p) := by
  unfold qTold at h ⊢
  split at h
  · next h1 =>
    rw [if_pos h1]
    split at h
    · next h2 => first | exact h | (rw [h2]; exact h)
    · next m h2 =>
      try rw [h2]
      try simp only
      split at h
      · next h3 => rw [if_neg (by rw [Nat.zero_testBit]; decide)] at h; cases h
      · next h3 => rw [if_neg h3]; exact h
  · next h1 => rw [if_neg h1]; exact h
theorem c_X7_readPersonsWorks {X : Nat} (hR : RO R) (hX : SH X = .inl 4) (hX88 : X < 88) (hT : TkI I L R tp sz s.1 bf) (hF' : ∀ x, 192 ≤ x → F x = s.2.1 x) (hN : NmT I L F cnt sl) (hC : TnC F cnt sl) (hK : NmK F) (hw : I X 4 = nI 0) (hQ0 : ∀ f p, lDoes tp sz 6 0 s = .inl (f, p) → ∀ (J : HI) (M : HL), J 88 0 = nI f → J 88 1 = nI p → (∀ x, x ≠ 88 → x ≠ 89 → x ≠ X → J x = I x) → (∀ j, 2 ≤ j → j ≠ 9 → J 88 j = I 88 j) → (∀ x, x ≠ 89 → M x = L x) → Q (some (.int 0)) SH J M R) (hQ1 : ∀ v u, lDoes tp sz 6 0 s = .inr (v, u) → ∀ (J : HI) (M : HL) (bf : Nat), TkI J M R tp sz u.1 bf → (∀ x, x ≠ 88 → x ≠ 89 → x ≠ X → J x = I x) → (∀ j, 2 ≤ j → j ≠ 9 → J 88 j = I 88 j) → (∀ x, x ≠ 89 → M x = L x) → J X = upd (I X) 4 (nI v) → J 88 0 = I 88 0 → Q (some (.int 1)) SH J M R) : KK 3 mX7_readPersonsWorks b ad [.ref (b + 88), .ref (b + X)] I L R Q := by
  have hX1 : X ≠ 1 := fun q => by subst q; cases hX
  have loop : ∀ (n i set : Nat) (t : PS) (J0 : HI) (M0 : HL) (bf : Nat), n + i = 6 → set < 32 → t.2 = s.2 → TkI J0 M0 R tp sz t.1 bf → (∀ x, x ≠ 88 → x ≠ 89 → x ≠ X → J0 x = I x) → (∀ j, 2 ≤ j → j ≠ 9 → J0 88 j = I 88 j) → (∀ x, x ≠ 89 → M0 x = L x) → J0 X = upd (I X) 4 (nI set) → J0 88 0 = I 88 0 → lDoes tp sz n set t = lDoes tp sz 6 0 s → VV yX7_readPersonsWorks cX7_readPersonsWorks 3 (some .boolean) 3 Q b ad 2 [some (.ref (b + 88)), some (.ref (b + X)), some (.int (nI i))] [] J0 M0 R := by
    intro n
    induction n with
    | zero =>
      intro i set t J0 M0 bf hni hs hts hT g1 g2 g3 g4 g5 hl
      refine v_iload_2 dX7_readPersonsWorks_2 ?_
      refine v_iconst (v := nI 5) dX7_readPersonsWorks_3 (by decide) ?_
      refine v_icmp_gt (tgt := 64) dX7_readPersonsWorks_4 (by decide) (fun hc4 => ?_) (fun hc4 => ?_)
      · (try rw [nI_ltI (by omega) (by omega)] at hc4)
        refine v_iconst (v := nI 1) dX7_readPersonsWorks_64 (by decide) ?_
        refine v_zret dX7_readPersonsWorks_65 (by first | rfl | exact bI_n _) rfl rfl rfl rfl ?_
        exact hQ1 _ _ hl.symm _ _ _ hT g1 g2 g3 g4 g5
      · exact absurd (nI_lt (by omega) (by omega)) hc4
    | succ n ih =>
      intro i set t J0 M0 bf hni hs hts hT g1 g2 g3 g4 g5 hl
      have hsF : t.2.1 = s.2.1 := congrArg Prod.fst hts
      have hQ0 := fun f p (q : lDoes tp sz (n + 1) set t = .inl (f, p)) => hQ0 f p (hl ▸ q)
      have hQ1 := fun v u (q : lDoes tp sz (n + 1) set t = .inr (v, u)) => hQ1 v u (hl ▸ q)
      refine v_iload_2 dX7_readPersonsWorks_2 ?_
      refine v_iconst (v := nI 5) dX7_readPersonsWorks_3 (by decide) ?_
      refine v_icmp_gt (tgt := 64) dX7_readPersonsWorks_4 (by decide) (fun hc4 => ?_) (fun hc4 => ?_)
      · exact absurd hc4 (nI_nlt (by omega) (by omega))
      · (try rw [nI_ltI (by omega) (by omega)] at hc4)
        refine v_aload_0 dX7_readPersonsWorks_7 ?_
        refine v_iconst (v := nI 0) dX7_readPersonsWorks_8 (by decide) ?_
        refine u_callV_1 dX7_readPersonsWorks_9 ml_X7_211 mv_X7_needTold (by first | assumption | rfl | exact led_1 (by assumption) | exact led_2 (by assumption) | exact bk_m (by assumption) (by first | assumption | omega) | exact bk_p (by assumption) (by first | assumption | omega) | exact bk_o (by assumption) (by first | assumption | omega) | exact bk_s (by assumption) (by first | assumption | omega) | exact bk_1 (by assumption) | exact bk_2 (by assumption) | exact bk_3 (by assumption) | exact bk_4 (by assumption) | exact bk_5 (by assumption) | exact bk_6 (by assumption) | exact bk_7 (by assumption) | exact bk_8 (by assumption) | exact sh_ring _ (by first | assumption | omega) | exact sh_imgs _ (by first | assumption | omega)) (by decide) rfl (by decide) (Nat.le_of_ble_eq_true rfl) (c_needToldF (t := 0) (s := t) (F' := F) (by decide) hR (fun x hx => by rw [hsF]; exact hF' x hx) (hN.fr (g2 7 (by decide) (by decide)) (g1 92 (by decide) (by decide) (by omega)) (g1 93 (by decide) (by decide) (by omega)) (g3 91 (by decide))) hC hK hT (fun f p q J M p1 p2 p3 => ?_) (fun v1 u1 q1 e1 l1 J1 M1 r1 n1 f1 => ?_))
        · refine v_if_ne (tgt := 17) dX7_readPersonsWorks_12 (by decide) (fun hc12 => ?_) (fun hc12 => ?_)
          · exact absurd rfl hc12
          · (first | rw [bI_0, Bool.not_eq_false] at hc12 | rw [bI_0] at hc12 | rw [show (0 : Int32) = nI 0 from rfl, nI_eq (by omega) (by omega)] at hc12 | skip)
            refine v_iconst (v := nI 0) dX7_readPersonsWorks_15 (by decide) ?_
            refine v_zret dX7_readPersonsWorks_16 (by first | rfl | exact bI_n _) rfl rfl rfl rfl ?_
            exact hQ0 f p (by rw [lDoes, bnd_l (qTold_butl q)]) _ _ p1 p2 (fun x a c d => (p3.1 x a c).trans (g1 x a c d)) (fun j a c => (p3.2.1 j a c).trans (g2 j a c)) (fun x a => (p3.2.2.1 x a).trans (g3 x a))
        · have w1 : J1 X 4 = nI set := by rw [f1.1 X (by omega) (by omega), g4, upd_s]
          have hB := qTold_but (but := set) q1
          have hv5 : v1 < 5 := by have := (qTold_i q1).2.2.2.1; simpa [rom] using this
          refine v_if_ne (tgt := 17) dX7_readPersonsWorks_12 (by decide) (fun hc12 => ?_) (fun hc12 => ?_)
          · (first | rw [bI_0, Bool.not_eq_false] at hc12 | rw [bI_0] at hc12 | rw [show (0 : Int32) = nI 0 from rfl, nI_eq (by omega) (by omega)] at hc12 | skip)
            refine v_aload_1 dX7_readPersonsWorks_17 ?_
            refine v_aload_0 dX7_readPersonsWorks_18 ?_
            refine u_getI dX7_readPersonsWorks_19 gf_X7_154 (by first | assumption | rfl | exact led_1 (by assumption) | exact led_2 (by assumption) | exact bk_m (by assumption) (by first | assumption | omega) | exact bk_p (by assumption) (by first | assumption | omega) | exact bk_o (by assumption) (by first | assumption | omega) | exact bk_s (by assumption) (by first | assumption | omega) | exact bk_1 (by assumption) | exact bk_2 (by assumption) | exact bk_3 (by assumption) | exact bk_4 (by assumption) | exact bk_5 (by assumption) | exact bk_6 (by assumption) | exact bk_7 (by assumption) | exact bk_8 (by assumption) | exact sh_ring _ (by first | assumption | omega) | exact sh_imgs _ (by first | assumption | omega)) ?_
            rw [n1]
            refine u_callV_1 dX7_readPersonsWorks_22 ml_X7_214 mv_X4_knows (by first | assumption | rfl | exact led_1 (by assumption) | exact led_2 (by assumption) | exact bk_m (by assumption) (by first | assumption | omega) | exact bk_p (by assumption) (by first | assumption | omega) | exact bk_o (by assumption) (by first | assumption | omega) | exact bk_s (by assumption) (by first | assumption | omega) | exact bk_1 (by assumption) | exact bk_2 (by assumption) | exact bk_3 (by assumption) | exact bk_4 (by assumption) | exact bk_5 (by assumption) | exact bk_6 (by assumption) | exact bk_7 (by assumption) | exact bk_8 (by assumption) | exact sh_ring _ (by first | assumption | omega) | exact sh_imgs _ (by first | assumption | omega)) (by decide) rfl (by decide) (Nat.le_of_ble_eq_true rfl) (c_X4_knows hX w1 hs (by omega) ?_)
            refine v_if_eq (tgt := 34) dX7_readPersonsWorks_25 (by decide) (fun hc25 => ?_) (fun hc25 => ?_)
            · (first | rw [bI_0, Bool.not_eq_false] at hc25 | rw [bI_0] at hc25 | rw [show (0 : Int32) = nI 0 from rfl, nI_eq (by omega) (by omega)] at hc25 | skip)
              rw [if_neg (by rw [hc25]; decide)] at hB
              refine v_aload_1 dX7_readPersonsWorks_34 ?_
              refine v_dup dX7_readPersonsWorks_35 rfl ?_
              refine u_getI dX7_readPersonsWorks_36 gf_X7_204 (by first | assumption | rfl | exact led_1 (by assumption) | exact led_2 (by assumption) | exact bk_m (by assumption) (by first | assumption | omega) | exact bk_p (by assumption) (by first | assumption | omega) | exact bk_o (by assumption) (by first | assumption | omega) | exact bk_s (by assumption) (by first | assumption | omega) | exact bk_1 (by assumption) | exact bk_2 (by assumption) | exact bk_3 (by assumption) | exact bk_4 (by assumption) | exact bk_5 (by assumption) | exact bk_6 (by assumption) | exact bk_7 (by assumption) | exact bk_8 (by assumption) | exact sh_ring _ (by first | assumption | omega) | exact sh_imgs _ (by first | assumption | omega)) ?_
              (first | (rw [bp4 hF]; rotate_left; (first | assumption | omega)) | skip)
              rw [w1]
              refine v_iconst (v := nI 1) dX7_readPersonsWorks_39 (by decide) ?_
              refine v_aload_0 dX7_readPersonsWorks_40 ?_
              refine u_getI dX7_readPersonsWorks_41 gf_X7_154 (by first | assumption | rfl | exact led_1 (by assumption) | exact led_2 (by assumption) | exact bk_m (by assumption) (by first | assumption | omega) | exact bk_p (by assumption) (by first | assumption | omega) | exact bk_o (by assumption) (by first | assumption | omega) | exact bk_s (by assumption) (by first | assumption | omega) | exact bk_1 (by assumption) | exact bk_2 (by assumption) | exact bk_3 (by assumption) | exact bk_4 (by assumption) | exact bk_5 (by assumption) | exact bk_6 (by assumption) | exact bk_7 (by assumption) | exact bk_8 (by assumption) | exact sh_ring _ (by first | assumption | omega) | exact sh_imgs _ (by first | assumption | omega)) ?_
              rw [n1]
              refine v_ishl dX7_readPersonsWorks_44 ?_
              rw [one_shl (by omega)]
              refine v_ior dX7_readPersonsWorks_45 ?_
              rw [nx_or]
              refine u_putI dX7_readPersonsWorks_46 gf_X7_204 (by first | assumption | rfl | exact led_1 (by assumption) | exact led_2 (by assumption) | exact bk_m (by assumption) (by first | assumption | omega) | exact bk_p (by assumption) (by first | assumption | omega) | exact bk_o (by assumption) (by first | assumption | omega) | exact bk_s (by assumption) (by first | assumption | omega) | exact bk_1 (by assumption) | exact bk_2 (by assumption) | exact bk_3 (by assumption) | exact bk_4 (by assumption) | exact bk_5 (by assumption) | exact bk_6 (by assumption) | exact bk_7 (by assumption) | exact bk_8 (by assumption) | exact sh_ring _ (by first | assumption | omega) | exact sh_imgs _ (by first | assumption | omega)) rfl rfl rfl ?_
              have k1 : ∀ x, x ≠ 88 → x ≠ 89 → x ≠ X → ui J1 X 4 (nI (set ||| 2 ^ v1)) x = I x := fun x a c d => by rw [ui_ne d, f1.1 x a c]; exact g1 x a c d
              have k2 : ∀ j, 2 ≤ j → j ≠ 9 → ui J1 X 4 (nI (set ||| 2 ^ v1)) 88 j = I 88 j := fun j a c => by rw [ui_ne (by omega), f1.2.1 j a c]; exact g2 j a c
              have k3 : ∀ x, x ≠ 89 → M1 x = L x := fun x a => (f1.2.2.1 x a).trans (g3 x a)
              have k4 : ui J1 X 4 (nI (set ||| 2 ^ v1)) X = upd (I X) 4 (nI (set ||| 2 ^ v1)) := by rw [ui_row (f1.1 X (by omega) (by omega)), g4]; funext z; by_cases hz : z = 4 <;> simp [upd, hz]
              have k5 : ui J1 X 4 (nI (set ||| 2 ^ v1)) 88 0 = I 88 0 := by rw [ui_ne (by omega), f1.2.2.2 rfl]; exact g5
              have hT2 : TkI (ui J1 X 4 (nI (set ||| 2 ^ v1))) M1 R tp sz u1.1 (tA tp sz t.1) := r1.fr (ui_ne (by omega)) (ui_ne (by omega)) rfl
              refine v_aload_0 dX7_readPersonsWorks_49 ?_
              refine u_callV_0 dX7_readPersonsWorks_50 ml_X7_164 mv_X7_passComma (by first | assumption | rfl | exact led_1 (by assumption) | exact led_2 (by assumption) | exact bk_m (by assumption) (by first | assumption | omega) | exact bk_p (by assumption) (by first | assumption | omega) | exact bk_o (by assumption) (by first | assumption | omega) | exact bk_s (by assumption) (by first | assumption | omega) | exact bk_1 (by assumption) | exact bk_2 (by assumption) | exact bk_3 (by assumption) | exact bk_4 (by assumption) | exact bk_5 (by assumption) | exact bk_6 (by assumption) | exact bk_7 (by assumption) | exact bk_8 (by assumption) | exact sh_ring _ (by first | assumption | omega) | exact sh_imgs _ (by first | assumption | omega)) (by decide) rfl (by decide) (Nat.le_of_ble_eq_true rfl) (c_X7_passComma hR hT2 (fun q2 => ?_) (fun q2 J2 M2 r2 f2 => ?_))
              · refine v_if_ne (tgt := 58) dX7_readPersonsWorks_53 (by decide) (fun hc53 => ?_) (fun hc53 => ?_)
                · exact absurd rfl hc53
                · (first | rw [bI_0, Bool.not_eq_false] at hc53 | rw [bI_0] at hc53 | rw [show (0 : Int32) = nI 0 from rfl, nI_eq (by omega) (by omega)] at hc53 | skip)
                  refine v_iconst (v := nI 1) dX7_readPersonsWorks_56 (by decide) ?_
                  refine v_zret dX7_readPersonsWorks_57 (by first | rfl | exact bI_n _) rfl rfl rfl rfl ?_
                  exact hQ1 _ _ (by rw [lDoes, bnd_r hB, if_neg q2]) _ _ _ hT2 k1 k2 k3 k4 k5
              · refine v_if_ne (tgt := 58) dX7_readPersonsWorks_53 (by decide) (fun hc53 => ?_) (fun hc53 => ?_)
                · (first | rw [bI_0, Bool.not_eq_false] at hc53 | rw [bI_0] at hc53 | rw [show (0 : Int32) = nI 0 from rfl, nI_eq (by omega) (by omega)] at hc53 | skip)
                  refine v_iinc_2 (v := 1) rfl dX7_readPersonsWorks_58 (by decide) ?_
                  rw [show nI i + 1 = nI (i + 1) from nI_1 i]
                  refine v_goto (tgt := 2) dX7_readPersonsWorks_61 (by decide) ?_
                  refine ih (i + 1) (set ||| 2 ^ v1) (nx tp sz u1) J2 M2 _ (by omega) (bit5 set hs v1 hv5) (by rw [e1]; exact hts) r2 (fun x a c d => (f2.1 x a c).trans (k1 x a c d)) (fun j a c => (f2.2.1 j a c).trans (k2 j a c)) (fun x a => (f2.2.2.1 x a).trans (k3 x a)) ((f2.1 X (by omega) (by omega)).trans k4) ((f2.2.2.2 rfl).trans k5) ?_
                  rw [← hl, lDoes, bnd_r hB, if_pos q2]
                · exact absurd hc53 (by decide)
            · (first | rw [bI_0, Bool.not_eq_false] at hc25 | rw [bI_0] at hc25 | rw [show (0 : Int32) = nI 0 from rfl, nI_eq (by omega) (by omega)] at hc25 | skip)
              refine v_aload_0 dX7_readPersonsWorks_28 ?_
              refine v_iconst (v := nI 3) dX7_readPersonsWorks_29 (by decide) ?_
              refine u_callV_1 dX7_readPersonsWorks_30 ml_X7_146 mv_X7_failBefore (by first | assumption | rfl | exact led_1 (by assumption) | exact led_2 (by assumption) | exact bk_m (by assumption) (by first | assumption | omega) | exact bk_p (by assumption) (by first | assumption | omega) | exact bk_o (by assumption) (by first | assumption | omega) | exact bk_s (by assumption) (by first | assumption | omega) | exact bk_1 (by assumption) | exact bk_2 (by assumption) | exact bk_3 (by assumption) | exact bk_4 (by assumption) | exact bk_5 (by assumption) | exact bk_6 (by assumption) | exact bk_7 (by assumption) | exact bk_8 (by assumption) | exact sh_ring _ (by first | assumption | omega) | exact sh_imgs _ (by first | assumption | omega)) (by decide) rfl (by decide) (Nat.le_of_ble_eq_true rfl) (c_X7_failBefore hR r1 (fun J p1 p2 p3 p4 => ?_))
              refine v_zret dX7_readPersonsWorks_33 (by first | rfl | exact bI_n _) rfl rfl rfl rfl ?_
              rw [if_pos hc25] at hB
              exact hQ0 3 _ (by rw [lDoes, bnd_l hB]) _ _ p1 p2 (fun x a c d => (p3.1 x a c).trans ((f1.1 x a c).trans (g1 x a c d))) (fun j a c => (p3.2.1 j a c).trans ((f1.2.1 j a c).trans (g2 j a c))) (fun x a => (p3.2.2.1 x a).trans ((f1.2.2.1 x a).trans (g3 x a)))
          · exact absurd hc12 (by decide)
  refine K.of (M := mX7_readPersonsWorks) (lv := [some (.ref (b + 88)), some (.ref (b + X)), none]) (by decide) (Nat.le_of_ble_eq_true rfl) rfl ?_
  refine v_iconst (v := nI 0) dX7_readPersonsWorks_0 (by decide) ?_
  refine v_istore_2 rfl dX7_readPersonsWorks_1 ?_
  exact loop 6 0 0 s I L bf rfl (by decide) rfl hT (fun _ _ _ _ => rfl) (fun _ _ _ => rfl) (fun _ _ => rfl) (by funext z; by_cases hz : z = 4 <;> simp [upd, hz, hw]) rfl rfl
end
