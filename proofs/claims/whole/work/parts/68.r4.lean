theorem dX7_readTown_0 : decode cX7_readTown 0 = .ok (.aload_n 0, 1) := by decide +kernel
theorem dX7_readTown_1 : decode cX7_readTown 1 = .ok (.getfield 73, 3) := by decide +kernel
theorem dX7_readTown_4 : decode cX7_readTown 4 = .ok (.getfield 106, 3) := by decide +kernel
theorem dX7_readTown_7 : decode cX7_readTown 7 = .ok (.ifCond .le 9, 3) := by decide +kernel
theorem dX7_readTown_10 : decode cX7_readTown 10 = .ok (.aload_n 0, 1) := by decide +kernel
theorem dX7_readTown_11 : decode cX7_readTown 11 = .ok (.iconst 3, 1) := by decide +kernel
theorem dX7_readTown_12 : decode cX7_readTown 12 = .ok (.invokevirtual 146, 3) := by decide +kernel
theorem dX7_readTown_15 : decode cX7_readTown 15 = .ok (.ireturn, 1) := by decide +kernel
theorem dX7_readTown_16 : decode cX7_readTown 16 = .ok (.aload_n 0, 1) := by decide +kernel
theorem dX7_readTown_17 : decode cX7_readTown 17 = .ok (.ldc 149, 2) := by decide +kernel
theorem dX7_readTown_19 : decode cX7_readTown 19 = .ok (.iconst 1, 1) := by decide +kernel
theorem dX7_readTown_20 : decode cX7_readTown 20 = .ok (.bipush 20, 2) := by decide +kernel
theorem dX7_readTown_22 : decode cX7_readTown 22 = .ok (.invokevirtual 150, 3) := by decide +kernel
theorem dX7_readTown_25 : decode cX7_readTown 25 = .ok (.ifCond .ne 5, 3) := by decide +kernel
theorem dX7_readTown_28 : decode cX7_readTown 28 = .ok (.iconst 0, 1) := by decide +kernel
theorem dX7_readTown_29 : decode cX7_readTown 29 = .ok (.ireturn, 1) := by decide +kernel
theorem dX7_readTown_30 : decode cX7_readTown 30 = .ok (.aload_n 0, 1) := by decide +kernel
theorem dX7_readTown_31 : decode cX7_readTown 31 = .ok (.getfield 73, 3) := by decide +kernel
theorem dX7_readTown_34 : decode cX7_readTown 34 = .ok (.aload_n 0, 1) := by decide +kernel
theorem dX7_readTown_35 : decode cX7_readTown 35 = .ok (.getfield 154, 3) := by decide +kernel
theorem dX7_readTown_38 : decode cX7_readTown 38 = .ok (.putfield 106, 3) := by decide +kernel
theorem dX7_readTown_41 : decode cX7_readTown 41 = .ok (.iconst 1, 1) := by decide +kernel
theorem dX7_readTown_42 : decode cX7_readTown 42 = .ok (.ireturn, 1) := by decide +kernel
theorem dX7_readWorks_0 : decode cX7_readWorks 0 = .ok (.iconst 0, 1) := by decide +kernel
theorem dX7_readWorks_1 : decode cX7_readWorks 1 = .ok (.istore_n 1, 1) := by decide +kernel
theorem dX7_readWorks_2 : decode cX7_readWorks 2 = .ok (.iload_n 1, 1) := by decide +kernel
theorem dX7_readWorks_3 : decode cX7_readWorks 3 = .ok (.iconst 5, 1) := by decide +kernel
theorem dX7_readWorks_4 : decode cX7_readWorks 4 = .ok (.if_icmp .gt 65, 3) := by decide +kernel
theorem dX7_readWorks_7 : decode cX7_readWorks 7 = .ok (.aload_n 0, 1) := by decide +kernel
theorem dX7_readWorks_8 : decode cX7_readWorks 8 = .ok (.iconst 0, 1) := by decide +kernel
theorem dX7_readWorks_9 : decode cX7_readWorks 9 = .ok (.aload_n 0, 1) := by decide +kernel
theorem dX7_readWorks_10 : decode cX7_readWorks 10 = .ok (.getfield 73, 3) := by decide +kernel
theorem dX7_readWorks_13 : decode cX7_readWorks 13 = .ok (.getfield 157, 3) := by decide +kernel
theorem dX7_readWorks_16 : decode cX7_readWorks 16 = .ok (.invokevirtual 160, 3) := by decide +kernel
theorem dX7_readWorks_19 : decode cX7_readWorks 19 = .ok (.ifCond .ne 5, 3) := by decide +kernel
theorem dX7_readWorks_22 : decode cX7_readWorks 22 = .ok (.iconst 0, 1) := by decide +kernel
theorem dX7_readWorks_23 : decode cX7_readWorks 23 = .ok (.ireturn, 1) := by decide +kernel
theorem dX7_readWorks_24 : decode cX7_readWorks 24 = .ok (.aload_n 0, 1) := by decide +kernel
theorem dX7_readWorks_25 : decode cX7_readWorks 25 = .ok (.getfield 73, 3) := by decide +kernel
theorem dX7_readWorks_28 : decode cX7_readWorks 28 = .ok (.getfield 157, 3) := by decide +kernel
theorem dX7_readWorks_31 : decode cX7_readWorks 31 = .ok (.iconst 5, 1) := by decide +kernel
theorem dX7_readWorks_32 : decode cX7_readWorks 32 = .ok (.if_icmp .lt 9, 3) := by decide +kernel
theorem dX7_readWorks_35 : decode cX7_readWorks 35 = .ok (.aload_n 0, 1) := by decide +kernel
theorem dX7_readWorks_36 : decode cX7_readWorks 36 = .ok (.iconst 5, 1) := by decide +kernel
theorem dX7_readWorks_37 : decode cX7_readWorks 37 = .ok (.invokevirtual 146, 3) := by decide +kernel
theorem dX7_readWorks_40 : decode cX7_readWorks 40 = .ok (.ireturn, 1) := by decide +kernel
theorem dX7_readWorks_41 : decode cX7_readWorks 41 = .ok (.aload_n 0, 1) := by decide +kernel
theorem dX7_readWorks_42 : decode cX7_readWorks 42 = .ok (.getfield 73, 3) := by decide +kernel
theorem dX7_readWorks_45 : decode cX7_readWorks 45 = .ok (.dup, 1) := by decide +kernel
theorem dX7_readWorks_46 : decode cX7_readWorks 46 = .ok (.getfield 157, 3) := by decide +kernel
theorem dX7_readWorks_49 : decode cX7_readWorks 49 = .ok (.iconst 1, 1) := by decide +kernel
theorem dX7_readWorks_50 : decode cX7_readWorks 50 = .ok (.iadd, 1) := by decide +kernel
theorem dX7_readWorks_51 : decode cX7_readWorks 51 = .ok (.putfield 157, 3) := by decide +kernel
theorem dX7_readWorks_54 : decode cX7_readWorks 54 = .ok (.aload_n 0, 1) := by decide +kernel
theorem dX7_readWorks_55 : decode cX7_readWorks 55 = .ok (.invokevirtual 164, 3) := by decide +kernel
theorem dX7_readWorks_58 : decode cX7_readWorks 58 = .ok (.ifCond .ne 5, 3) := by decide +kernel
theorem dX7_readWorks_61 : decode cX7_readWorks 61 = .ok (.iconst 1, 1) := by decide +kernel
theorem dX7_readWorks_62 : decode cX7_readWorks 62 = .ok (.ireturn, 1) := by decide +kernel
theorem dX7_readWorks_63 : decode cX7_readWorks 63 = .ok (.iinc 1 1, 3) := by decide +kernel
theorem dX7_readWorks_66 : decode cX7_readWorks 66 = .ok (.goto (-64), 3) := by decide +kernel
theorem dX7_readWorks_69 : decode cX7_readWorks 69 = .ok (.iconst 1, 1) := by decide +kernel
theorem dX7_readWorks_70 : decode cX7_readWorks 70 = .ok (.ireturn, 1) := by decide +kernel
theorem dX7_readMask_0 : decode cX7_readMask 0 = .ok (.aload_n 0, 1) := by decide +kernel
theorem dX7_readMask_1 : decode cX7_readMask 1 = .ok (.getfield 73, 3) := by decide +kernel
theorem dX7_readMask_4 : decode cX7_readMask 4 = .ok (.getfield 109, 3) := by decide +kernel
theorem dX7_readMask_7 : decode cX7_readMask 7 = .ok (.bipush 6, 2) := by decide +kernel
theorem dX7_readMask_9 : decode cX7_readMask 9 = .ok (.if_icmp .lt 9, 3) := by decide +kernel
theorem dX7_readMask_12 : decode cX7_readMask 12 = .ok (.aload_n 0, 1) := by decide +kernel
theorem dX7_readMask_13 : decode cX7_readMask 13 = .ok (.iconst 5, 1) := by decide +kernel
theorem dX7_readMask_14 : decode cX7_readMask 14 = .ok (.invokevirtual 146, 3) := by decide +kernel
theorem dX7_readMask_17 : decode cX7_readMask 17 = .ok (.ireturn, 1) := by decide +kernel
theorem dX7_readMask_18 : decode cX7_readMask 18 = .ok (.aload_n 0, 1) := by decide +kernel
theorem dX7_readMask_19 : decode cX7_readMask 19 = .ok (.getfield 73, 3) := by decide +kernel
theorem dX7_readMask_22 : decode cX7_readMask 22 = .ok (.getfield 167, 3) := by decide +kernel
theorem dX7_readMask_25 : decode cX7_readMask 25 = .ok (.aload_n 0, 1) := by decide +kernel
theorem dX7_readMask_26 : decode cX7_readMask 26 = .ok (.getfield 73, 3) := by decide +kernel
theorem dX7_readMask_29 : decode cX7_readMask 29 = .ok (.getfield 109, 3) := by decide +kernel
theorem dX7_readMask_32 : decode cX7_readMask 32 = .ok (.aaload, 1) := by decide +kernel
theorem dX7_readMask_33 : decode cX7_readMask 33 = .ok (.astore_n 1, 1) := by decide +kernel
theorem dX7_readMask_34 : decode cX7_readMask 34 = .ok (.aload_n 0, 1) := by decide +kernel
theorem dX7_readMask_35 : decode cX7_readMask 35 = .ok (.iconst 1, 1) := by decide +kernel
theorem dX7_readMask_36 : decode cX7_readMask 36 = .ok (.aload_n 0, 1) := by decide +kernel
theorem dX7_readMask_37 : decode cX7_readMask 37 = .ok (.getfield 73, 3) := by decide +kernel
theorem dX7_readMask_40 : decode cX7_readMask 40 = .ok (.getfield 109, 3) := by decide +kernel
theorem dX7_readMask_43 : decode cX7_readMask 43 = .ok (.invokevirtual 160, 3) := by decide +kernel
theorem dX7_readMask_46 : decode cX7_readMask 46 = .ok (.ifCond .eq 10, 3) := by decide +kernel
theorem dX7_readMask_49 : decode cX7_readMask 49 = .ok (.aload_n 0, 1) := by decide +kernel
theorem dX7_readMask_50 : decode cX7_readMask 50 = .ok (.invokevirtual 171, 3) := by decide +kernel
theorem dX7_readMask_53 : decode cX7_readMask 53 = .ok (.ifCond .ne 5, 3) := by decide +kernel
theorem dX7_readMask_56 : decode cX7_readMask 56 = .ok (.iconst 0, 1) := by decide +kernel
theorem dX7_readMask_57 : decode cX7_readMask 57 = .ok (.ireturn, 1) := by decide +kernel
theorem dX7_readMask_58 : decode cX7_readMask 58 = .ok (.aload_n 1, 1) := by decide +kernel
theorem dX7_readMask_59 : decode cX7_readMask 59 = .ok (.aload_n 0, 1) := by decide +kernel
theorem dX7_readMask_60 : decode cX7_readMask 60 = .ok (.getfield 154, 3) := by decide +kernel
theorem dX7_readMask_63 : decode cX7_readMask 63 = .ok (.putfield 174, 3) := by decide +kernel
theorem dX7_readMask_66 : decode cX7_readMask 66 = .ok (.aload_n 0, 1) := by decide +kernel
theorem dX7_readMask_67 : decode cX7_readMask 67 = .ok (.ldc 57, 2) := by decide +kernel
theorem dX7_readMask_69 : decode cX7_readMask 69 = .ok (.iconst 1, 1) := by decide +kernel
theorem dX7_readMask_70 : decode cX7_readMask 70 = .ok (.bipush 9, 2) := by decide +kernel
theorem dX7_readMask_72 : decode cX7_readMask 72 = .ok (.invokevirtual 150, 3) := by decide +kernel
theorem dX7_readMask_75 : decode cX7_readMask 75 = .ok (.ifCond .ne 5, 3) := by decide +kernel
theorem dX7_readMask_78 : decode cX7_readMask 78 = .ok (.iconst 0, 1) := by decide +kernel
theorem dX7_readMask_79 : decode cX7_readMask 79 = .ok (.ireturn, 1) := by decide +kernel
theorem dX7_readMask_80 : decode cX7_readMask 80 = .ok (.aload_n 1, 1) := by decide +kernel
theorem dX7_readMask_81 : decode cX7_readMask 81 = .ok (.aload_n 0, 1) := by decide +kernel
theorem dX7_readMask_82 : decode cX7_readMask 82 = .ok (.getfield 154, 3) := by decide +kernel
theorem dX7_readMask_85 : decode cX7_readMask 85 = .ok (.putfield 179, 3) := by decide +kernel
theorem dX7_readMask_88 : decode cX7_readMask 88 = .ok (.aload_n 0, 1) := by decide +kernel
theorem dX7_readMask_89 : decode cX7_readMask 89 = .ok (.ldc 181, 2) := by decide +kernel
theorem dX7_readMask_91 : decode cX7_readMask 91 = .ok (.iconst 0, 1) := by decide +kernel
theorem dX7_readMask_92 : decode cX7_readMask 92 = .ok (.bipush 99, 2) := by decide +kernel
theorem dX7_readMask_94 : decode cX7_readMask 94 = .ok (.invokevirtual 150, 3) := by decide +kernel
theorem dX7_readMask_97 : decode cX7_readMask 97 = .ok (.ifCond .ne 5, 3) := by decide +kernel
theorem dX7_readMask_100 : decode cX7_readMask 100 = .ok (.iconst 0, 1) := by decide +kernel
theorem dX7_readMask_101 : decode cX7_readMask 101 = .ok (.ireturn, 1) := by decide +kernel
theorem dX7_readMask_102 : decode cX7_readMask 102 = .ok (.aload_n 1, 1) := by decide +kernel
theorem dX7_readMask_103 : decode cX7_readMask 103 = .ok (.aload_n 0, 1) := by decide +kernel
theorem dX7_readMask_104 : decode cX7_readMask 104 = .ok (.getfield 154, 3) := by decide +kernel
theorem dX7_readMask_107 : decode cX7_readMask 107 = .ok (.putfield 183, 3) := by decide +kernel
theorem dX7_readMask_110 : decode cX7_readMask 110 = .ok (.aload_n 0, 1) := by decide +kernel
theorem dX7_readMask_111 : decode cX7_readMask 111 = .ok (.getfield 73, 3) := by decide +kernel
theorem dX7_readMask_114 : decode cX7_readMask 114 = .ok (.dup, 1) := by decide +kernel
theorem dX7_readMask_115 : decode cX7_readMask 115 = .ok (.getfield 109, 3) := by decide +kernel
theorem dX7_readMask_118 : decode cX7_readMask 118 = .ok (.iconst 1, 1) := by decide +kernel
theorem dX7_readMask_119 : decode cX7_readMask 119 = .ok (.iadd, 1) := by decide +kernel
theorem dX7_readMask_120 : decode cX7_readMask 120 = .ok (.putfield 109, 3) := by decide +kernel
theorem dX7_readMask_123 : decode cX7_readMask 123 = .ok (.iconst 1, 1) := by decide +kernel
theorem dX7_readMask_124 : decode cX7_readMask 124 = .ok (.ireturn, 1) := by decide +kernel
theorem mk_facts {F : bkF} {m k a c : Nat} (hm : m < 6) : setF (setF (setF (setF F (8 + m) k) (14 + m) a) (20 + m) c) 2 (m + 1) 2 = m + 1 ∧ (∀ x, x ≠ 2 → x ≠ 8 + m → x ≠ 14 + m → x ≠ 20 + m → setF (setF (setF (setF F (8 + m) k) (14 + m) a) (20 + m) c) 2 (m + 1) x = F x) ∧ setF (setF (setF (setF F (8 + m) k) (14 + m) a) (20 + m) c) 2 (m + 1) (8 + m) = k ∧ setF (setF (setF (setF F (8 + m) k) (14 + m) a) (20 + m) c) 2 (m + 1) (14 + m) = a ∧ setF (setF (setF (setF F (8 + m) k) (14 + m) a) (20 + m) c) 2 (m + 1) (20 + m) = c := by
  refine ⟨setF_s _ _ _, fun x a1 a2 a3 a4 => by rw [setF_n a1, setF_n a4, setF_n a3, setF_n a2], ?_, ?_, ?_⟩
  · rw [setF_n (by omega), setF_n (by omega), setF_n (by omega)]; exact setF_s _ _ _
  · rw [setF_n (by omega), setF_n (by omega)]; exact setF_s _ _ _
  · rw [setF_n (by omega)]; exact setF_s _ _ _
section
variable {b : Nat} {ad : Nat → Nat} {I J : HI} {L M : HL} {R : HR} {Q : QT} {tp : Nat → Nat} {sz k e bf B : Nat} {s : PS} {F : bkF} {cnt : Nat} {sl : Nat → Nat}
theorem c_X7_readTown (h : RdC I L R B tp sz s bf) (hQ : LQ I L R B tp sz (if s.2.1 0 = 0 then lTown tp sz s else .inl (3, bf)) Q) : KK 7 mX7_readTown b ad [.ref (b + 88)] I L R Q := by
  obtain ⟨hM, hPI, cnt, sl, hN, hC⟩ := h
  have hR := hM.1
  have hb2 := hM.2.1
  have hB := hM.2.2.1
  have hT := hM.2.2.2.1
  have hF := hM.2.2.2.2.1
  have hby := hT.by
  have hO := hPI.2.1
  have hK := hPI.2.2.2.2.2.2.1
  have h7 := hPI.2.2.1
  have o0 := hO.1
  have o1 := hO.2.1
  have o2 := hO.2.2.1
  have o3 := hO.2.2.2.1
  have o4 := hO.2.2.2.2.1
  have o5 := hO.2.2.2.2.2.1
  have o6 := hO.2.2.2.2.2.2.1
  have hbb := shB hB
  have hfr : FrB B I I L L := FrB.refl
  refine K.of (M := mX7_readTown) (lv := [some (.ref (b + 88))]) (by decide) (Nat.le_of_ble_eq_true rfl) rfl ?_
  refine v_aload_0 dX7_readTown_0 ?_
  refine u_getR dX7_readTown_1 gf_X7_73 (by first | assumption | rfl | exact led_1 (by assumption) | exact led_2 (by assumption) | exact bk_m (by assumption) (by first | assumption | omega) | exact bk_p (by assumption) (by first | assumption | omega) | exact bk_o (by assumption) (by first | assumption | omega) | exact bk_s (by assumption) (by first | assumption | omega) | exact bk_1 (by assumption) | exact bk_2 (by assumption) | exact bk_3 (by assumption) | exact bk_4 (by assumption) | exact bk_5 (by assumption) | exact bk_6 (by assumption) | exact bk_7 (by assumption) | exact bk_8 (by assumption) | exact sh_ring _ (by first | assumption | omega) | exact sh_imgs _ (by first | assumption | omega)) (by assumption) ?_
  refine u_getI dX7_readTown_4 gf_X7_106 (by first | assumption | rfl | exact led_1 (by assumption) | exact led_2 (by assumption) | exact bk_m (by assumption) (by first | assumption | omega) | exact bk_p (by assumption) (by first | assumption | omega) | exact bk_o (by assumption) (by first | assumption | omega) | exact bk_s (by assumption) (by first | assumption | omega) | exact bk_1 (by assumption) | exact bk_2 (by assumption) | exact bk_3 (by assumption) | exact bk_4 (by assumption) | exact bk_5 (by assumption) | exact bk_6 (by assumption) | exact bk_7 (by assumption) | exact bk_8 (by assumption) | exact sh_ring _ (by first | assumption | omega) | exact sh_imgs _ (by first | assumption | omega)) ?_
  (try rw [bx0 hF])
  refine v_if_le (tgt := 16) dX7_readTown_7 (by decide) (fun hc7 => ?_) (fun hc7 => ?_)
  · rw [show (0 : Int32) = nI 0 from rfl, nI_leI (by omega) (by omega)] at hc7
    have hc7 : s.2.1 0 = 0 := by omega
    rw [if_pos hc7] at hQ
    refine v_aload_0 dX7_readTown_16 ?_
    refine v_ldcS (i := 13) dX7_readTown_17 (by decide) rfl rfl ?_
    refine v_iconst (v := nI 1) dX7_readTown_19 (by decide) ?_
    refine v_bipush (v := nI 20) dX7_readTown_20 (by decide) ?_
    refine u_callV_3 dX7_readTown_22 ml_X7_150 mv_X7_needWhole (by first | assumption | rfl | exact led_1 (by assumption) | exact led_2 (by assumption) | exact bk_m (by assumption) (by first | assumption | omega) | exact bk_p (by assumption) (by first | assumption | omega) | exact bk_o (by assumption) (by first | assumption | omega) | exact bk_s (by assumption) (by first | assumption | omega) | exact bk_1 (by assumption) | exact bk_2 (by assumption) | exact bk_3 (by assumption) | exact bk_4 (by assumption) | exact bk_5 (by assumption) | exact bk_6 (by assumption) | exact bk_7 (by assumption) | exact bk_8 (by assumption) | exact sh_ring _ (by first | assumption | omega) | exact sh_imgs _ (by first | assumption | omega)) (by decide) rfl (by decide) (Nat.le_of_ble_eq_true rfl) (c_X7_needWhole (i := 13) (lo := 1) (hi' := 20) (s := s) (by decide) (by omega) (by omega) hR hT (fun f p q J M p1 p2 p3 => ?_) (fun v1 u1 q1 e1 l1 h1 J1 M1 r1 n1 f1 => ?_))
    · refine v_if_ne (tgt := 30) dX7_readTown_25 (by decide) (fun hc25 => ?_) (fun hc25 => ?_)
      · exact absurd rfl hc25
      · (first | rw [bI_0, Bool.not_eq_false] at hc25 | rw [bI_0] at hc25 | rw [show (0 : Int32) = nI 0 from rfl, nI_eq (by omega) (by omega)] at hc25 | skip)
        refine v_iconst (v := nI 0) dX7_readTown_28 (by decide) ?_
        refine v_zret dX7_readTown_29 (by first | rfl | exact bI_n _) rfl rfl rfl rfl ?_
        exact hQ.1 f p (by rw [lTown, bnd_l q]) _ _ p1 p2 (hfr.fr9 p3)
    · have hM := hM.fr9 hO f1 r1
      have hN := hN.fr9 f1
      have hfr := hfr.fr9 f1
      have hT := hM.2.2.2.1
      have hF := hM.2.2.2.2.1
      refine v_if_ne (tgt := 30) dX7_readTown_25 (by decide) (fun hc25 => ?_) (fun hc25 => ?_)
      · (first | rw [bI_0, Bool.not_eq_false] at hc25 | rw [bI_0] at hc25 | rw [show (0 : Int32) = nI 0 from rfl, nI_eq (by omega) (by omega)] at hc25 | skip)
        refine v_aload_0 dX7_readTown_30 ?_
        refine u_getR dX7_readTown_31 gf_X7_73 (by first | assumption | rfl | exact led_1 (by assumption) | exact led_2 (by assumption) | exact bk_m (by assumption) (by first | assumption | omega) | exact bk_p (by assumption) (by first | assumption | omega) | exact bk_o (by assumption) (by first | assumption | omega) | exact bk_s (by assumption) (by first | assumption | omega) | exact bk_1 (by assumption) | exact bk_2 (by assumption) | exact bk_3 (by assumption) | exact bk_4 (by assumption) | exact bk_5 (by assumption) | exact bk_6 (by assumption) | exact bk_7 (by assumption) | exact bk_8 (by assumption) | exact sh_ring _ (by first | assumption | omega) | exact sh_imgs _ (by first | assumption | omega)) (by assumption) ?_
        refine v_aload_0 dX7_readTown_34 ?_
        refine u_getI dX7_readTown_35 gf_X7_154 (by first | assumption | rfl | exact led_1 (by assumption) | exact led_2 (by assumption) | exact bk_m (by assumption) (by first | assumption | omega) | exact bk_p (by assumption) (by first | assumption | omega) | exact bk_o (by assumption) (by first | assumption | omega) | exact bk_s (by assumption) (by first | assumption | omega) | exact bk_1 (by assumption) | exact bk_2 (by assumption) | exact bk_3 (by assumption) | exact bk_4 (by assumption) | exact bk_5 (by assumption) | exact bk_6 (by assumption) | exact bk_7 (by assumption) | exact bk_8 (by assumption) | exact sh_ring _ (by first | assumption | omega) | exact sh_imgs _ (by first | assumption | omega)) ?_
        rw [n1]
        refine u_putI dX7_readTown_38 gf_X7_106 (by first | assumption | rfl | exact led_1 (by assumption) | exact led_2 (by assumption) | exact bk_m (by assumption) (by first | assumption | omega) | exact bk_p (by assumption) (by first | assumption | omega) | exact bk_o (by assumption) (by first | assumption | omega) | exact bk_s (by assumption) (by first | assumption | omega) | exact bk_1 (by assumption) | exact bk_2 (by assumption) | exact bk_3 (by assumption) | exact bk_4 (by assumption) | exact bk_5 (by assumption) | exact bk_6 (by assumption) | exact bk_7 (by assumption) | exact bk_8 (by assumption) | exact sh_ring _ (by first | assumption | omega) | exact sh_imgs _ (by first | assumption | omega)) rfl rfl rfl ?_
        refine v_iconst (v := nI 1) dX7_readTown_41 (by decide) ?_
        refine v_zret dX7_readTown_42 (by first | rfl | exact bI_n _) rfl rfl rfl rfl ?_
        have hl : lTown tp sz s = .inr (setS u1 (setF u1.2.1 0 v1)) := by rw [lTown, bnd_r q1]
        have hI := inv_town hby hPI hc7 hl
        have eu : u1.2 = s.2 := by rw [e1]; rfl
        have eF : u1.2.1 = s.2.1 := congrArg Prod.fst eu
        have eL : u1.2.2 = s.2.2 := congrArg Prod.snd eu
        have g0 : ∀ x, x ≠ 0 → setF s.2.1 0 v1 x = s.2.1 x := fun x hx => setF_n hx
        rw [eF] at hl hI
        refine hQ.2 _ hl _ _ _ ⟨⟨hR, hb2, hB, hT.fr (ui_ne (by omega)) (ui_ne (by omega)) rfl, ?_, ?_, ?_⟩, hI.1, cnt, sl, (hN.up (Or.inl (by omega))).cong (fun x hx => g0 x (by omega)), hC.cong (g0 1 (by decide)) (g0 2 (by decide)) (g0 3 (by decide))⟩ (hfr.up (Or.inl ⟨by omega, by omega⟩) hB)
        · show BkI _ B (setF s.2.1 0 v1)
          obtain ⟨b0, b1, b2, b3, b4, b5⟩ := hF
          refine ⟨fun j hj => ?_, fun m q j hj => ?_, fun m q j hj => ?_, fun m q j hj => ?_, fun m q j hj => ?_, fun m q => ?_⟩
          · by_cases qe : j = 0
            · subst qe; rw [ui_s, setF_s]
            · rw [ui_o qe, b0 j hj, g0 j qe]
          · rw [g0 2 (by decide)] at q; rw [ui_ne (by omega), b1 m q j hj, g0 _ (by omega)]
          · rw [g0 3 (by decide)] at q; rw [ui_ne (by omega), b2 m q j hj, g0 _ (by omega)]
          · rw [g0 4 (by decide)] at q; rw [ui_ne (by omega), b3 m q j hj, g0 _ (by omega)]
          · rw [g0 5 (by decide)] at q; rw [ui_ne (by omega), b4 m q j hj, g0 _ (by omega)]
          · rw [g0 6 (by decide)] at q; rw [ui_ne (by omega), ui_ne (by omega), ui_ne (by omega), g0 (168 + 3 * m) (by omega), g0 (169 + 3 * m) (by omega), g0 (170 + 3 * m) (by omega)]; exact b5 m q
        · show LDI _ (B + 8) (setS u1 (setF s.2.1 0 v1)).2.2.1 (setS u1 (setF s.2.1 0 v1)).2.2.2.1 (setS u1 (setF s.2.1 0 v1)).2.2.2.2
          show LDI _ (B + 8) u1.2.2.1 u1.2.2.2.1 u1.2.2.2.2
          rw [eL]
          exact hM.2.2.2.2.2.1.same (ui_ne (by omega)) (ui_ne (by omega)) (ui_ne (by omega))
        · show _ = nI (setF s.2.1 0 v1 7) ∧ _
          rw [ui_ne (by omega), g0 7 (by decide)]; exact hM.2.2.2.2.2.2
      · exact absurd hc25 (by decide)
  · rw [show (0 : Int32) = nI 0 from rfl, nI_leI (by omega) (by omega)] at hc7
    refine v_aload_0 dX7_readTown_10 ?_
    refine v_iconst (v := nI 3) dX7_readTown_11 (by decide) ?_
    refine u_callV_1 dX7_readTown_12 ml_X7_146 mv_X7_failBefore (by first | assumption | rfl | exact led_1 (by assumption) | exact led_2 (by assumption) | exact bk_m (by assumption) (by first | assumption | omega) | exact bk_p (by assumption) (by first | assumption | omega) | exact bk_o (by assumption) (by first | assumption | omega) | exact bk_s (by assumption) (by first | assumption | omega) | exact bk_1 (by assumption) | exact bk_2 (by assumption) | exact bk_3 (by assumption) | exact bk_4 (by assumption) | exact bk_5 (by assumption) | exact bk_6 (by assumption) | exact bk_7 (by assumption) | exact bk_8 (by assumption) | exact sh_ring _ (by first | assumption | omega) | exact sh_imgs _ (by first | assumption | omega)) (by decide) rfl (by decide) (Nat.le_of_ble_eq_true rfl) (c_X7_failBefore hR hT (fun J p1 p2 p3 p4 => ?_))
    refine v_zret dX7_readTown_15 (by first | rfl | exact bI_n _) rfl rfl rfl rfl ?_
    exact hQ.1 3 _ (if_neg (by omega)) _ _ p1 p2 (hfr.fr9 p3)
theorem c_X7_readMask (h : RdC I L R B tp sz s bf) (hQ : LQ I L R B tp sz (if s.2.1 2 < 6 then lMask tp sz s else .inl (5, bf)) Q) : KK 7 mX7_readMask b ad [.ref (b + 88)] I L R Q := by
  obtain ⟨hM, hPI, cnt, sl, hN, hC⟩ := h
  have hR := hM.1
  have hb2 := hM.2.1
  have hB := hM.2.2.1
  have hT := hM.2.2.2.1
  have hF := hM.2.2.2.2.1
  have hby := hT.by
  have hO := hPI.2.1
  have hK := hPI.2.2.2.2.2.2.1
  have h7 := hPI.2.2.1
  have o0 := hO.1
  have o1 := hO.2.1
  have o2 := hO.2.2.1
  have o3 := hO.2.2.2.1
  have o4 := hO.2.2.2.2.1
  have o5 := hO.2.2.2.2.2.1
  have o6 := hO.2.2.2.2.2.2.1
  have hbb := shB hB
  have hfr : FrB B I I L L := FrB.refl
  refine K.of (M := mX7_readMask) (lv := [some (.ref (b + 88)), none]) (by decide) (Nat.le_of_ble_eq_true rfl) rfl ?_
  refine v_aload_0 dX7_readMask_0 ?_
  refine u_getR dX7_readMask_1 gf_X7_73 (by first | assumption | rfl | exact led_1 (by assumption) | exact led_2 (by assumption) | exact bk_m (by assumption) (by first | assumption | omega) | exact bk_p (by assumption) (by first | assumption | omega) | exact bk_o (by assumption) (by first | assumption | omega) | exact bk_s (by assumption) (by first | assumption | omega) | exact bk_1 (by assumption) | exact bk_2 (by assumption) | exact bk_3 (by assumption) | exact bk_4 (by assumption) | exact bk_5 (by assumption) | exact bk_6 (by assumption) | exact bk_7 (by assumption) | exact bk_8 (by assumption) | exact sh_ring _ (by first | assumption | omega) | exact sh_imgs _ (by first | assumption | omega)) (by assumption) ?_
  refine u_getI dX7_readMask_4 gf_X7_109 (by first | assumption | rfl | exact led_1 (by assumption) | exact led_2 (by assumption) | exact bk_m (by assumption) (by first | assumption | omega) | exact bk_p (by assumption) (by first | assumption | omega) | exact bk_o (by assumption) (by first | assumption | omega) | exact bk_s (by assumption) (by first | assumption | omega) | exact bk_1 (by assumption) | exact bk_2 (by assumption) | exact bk_3 (by assumption) | exact bk_4 (by assumption) | exact bk_5 (by assumption) | exact bk_6 (by assumption) | exact bk_7 (by assumption) | exact bk_8 (by assumption) | exact sh_ring _ (by first | assumption | omega) | exact sh_imgs _ (by first | assumption | omega)) ?_
  (try rw [bx2 hF])
  refine v_bipush (v := nI 6) dX7_readMask_7 (by decide) ?_
  refine v_icmp_lt (tgt := 18) dX7_readMask_9 (by decide) (fun hc9 => ?_) (fun hc9 => ?_)
  · (try rw [nI_ltI (by omega) (by omega)] at hc9)
    rw [if_pos hc9] at hQ
    refine v_aload_0 dX7_readMask_18 ?_
    refine u_getR dX7_readMask_19 gf_X7_73 (by first | assumption | rfl | exact led_1 (by assumption) | exact led_2 (by assumption) | exact bk_m (by assumption) (by first | assumption | omega) | exact bk_p (by assumption) (by first | assumption | omega) | exact bk_o (by assumption) (by first | assumption | omega) | exact bk_s (by assumption) (by first | assumption | omega) | exact bk_1 (by assumption) | exact bk_2 (by assumption) | exact bk_3 (by assumption) | exact bk_4 (by assumption) | exact bk_5 (by assumption) | exact bk_6 (by assumption) | exact bk_7 (by assumption) | exact bk_8 (by assumption) | exact sh_ring _ (by first | assumption | omega) | exact sh_imgs _ (by first | assumption | omega)) (by assumption) ?_
    refine u_getR dX7_readMask_22 gf_X7_167 (by first | assumption | rfl | exact led_1 (by assumption) | exact led_2 (by assumption) | exact bk_m (by assumption) (by first | assumption | omega) | exact bk_p (by assumption) (by first | assumption | omega) | exact bk_o (by assumption) (by first | assumption | omega) | exact bk_s (by assumption) (by first | assumption | omega) | exact bk_1 (by assumption) | exact bk_2 (by assumption) | exact bk_3 (by assumption) | exact bk_4 (by assumption) | exact bk_5 (by assumption) | exact bk_6 (by assumption) | exact bk_7 (by assumption) | exact bk_8 (by assumption) | exact sh_ring _ (by first | assumption | omega) | exact sh_imgs _ (by first | assumption | omega)) (ro_X0_7 (by assumption) (by assumption)) ?_
    refine v_aload_0 dX7_readMask_25 ?_
    refine u_getR dX7_readMask_26 gf_X7_73 (by first | assumption | rfl | exact led_1 (by assumption) | exact led_2 (by assumption) | exact bk_m (by assumption) (by first | assumption | omega) | exact bk_p (by assumption) (by first | assumption | omega) | exact bk_o (by assumption) (by first | assumption | omega) | exact bk_s (by assumption) (by first | assumption | omega) | exact bk_1 (by assumption) | exact bk_2 (by assumption) | exact bk_3 (by assumption) | exact bk_4 (by assumption) | exact bk_5 (by assumption) | exact bk_6 (by assumption) | exact bk_7 (by assumption) | exact bk_8 (by assumption) | exact sh_ring _ (by first | assumption | omega) | exact sh_imgs _ (by first | assumption | omega)) (by assumption) ?_
    refine u_getI dX7_readMask_29 gf_X7_109 (by first | assumption | rfl | exact led_1 (by assumption) | exact led_2 (by assumption) | exact bk_m (by assumption) (by first | assumption | omega) | exact bk_p (by assumption) (by first | assumption | omega) | exact bk_o (by assumption) (by first | assumption | omega) | exact bk_s (by assumption) (by first | assumption | omega) | exact bk_1 (by assumption) | exact bk_2 (by assumption) | exact bk_3 (by assumption) | exact bk_4 (by assumption) | exact bk_5 (by assumption) | exact bk_6 (by assumption) | exact bk_7 (by assumption) | exact bk_8 (by assumption) | exact sh_ring _ (by first | assumption | omega) | exact sh_imgs _ (by first | assumption | omega)) ?_
    (try rw [bx2 hF])
    refine u_aald dX7_readMask_32 (by first | assumption | rfl | exact led_1 (by assumption) | exact led_2 (by assumption) | exact bk_m (by assumption) (by first | assumption | omega) | exact bk_p (by assumption) (by first | assumption | omega) | exact bk_o (by assumption) (by first | assumption | omega) | exact bk_s (by assumption) (by first | assumption | omega) | exact bk_1 (by assumption) | exact bk_2 (by assumption) | exact bk_3 (by assumption) | exact bk_4 (by assumption) | exact bk_5 (by assumption) | exact bk_6 (by assumption) | exact bk_7 (by assumption) | exact bk_8 (by assumption) | exact sh_ring _ (by first | assumption | omega) | exact sh_imgs _ (by first | assumption | omega)) (by decide) (by decide) rfl (by first | with_reducible rfl | (simp only [nlit, nI_add, pk_mul]; with_reducible rfl) | rfl) (by first | assumption | omega) (by decide) (by first | exact ro_m (by assumption) (by assumption) (by first | assumption | omega) | exact ro_p (by assumption) (by assumption) (by first | assumption | omega) | exact ro_o (by assumption) (by assumption) (by first | assumption | omega) | exact ro_s (by assumption) (by assumption) (by first | assumption | omega) | exact ro_ring (by assumption) (by first | assumption | omega) | exact ro_imgs (by assumption) (by first | assumption | omega)) ?_
    refine v_astore_1 rfl dX7_readMask_33 ?_
    refine v_aload_0 dX7_readMask_34 ?_
    refine v_iconst (v := nI 1) dX7_readMask_35 (by decide) ?_
    refine v_aload_0 dX7_readMask_36 ?_
    refine u_getR dX7_readMask_37 gf_X7_73 (by first | assumption | rfl | exact led_1 (by assumption) | exact led_2 (by assumption) | exact bk_m (by assumption) (by first | assumption | omega) | exact bk_p (by assumption) (by first | assumption | omega) | exact bk_o (by assumption) (by first | assumption | omega) | exact bk_s (by assumption) (by first | assumption | omega) | exact bk_1 (by assumption) | exact bk_2 (by assumption) | exact bk_3 (by assumption) | exact bk_4 (by assumption) | exact bk_5 (by assumption) | exact bk_6 (by assumption) | exact bk_7 (by assumption) | exact bk_8 (by assumption) | exact sh_ring _ (by first | assumption | omega) | exact sh_imgs _ (by first | assumption | omega)) (by assumption) ?_
    refine u_getI dX7_readMask_40 gf_X7_109 (by first | assumption | rfl | exact led_1 (by assumption) | exact led_2 (by assumption) | exact bk_m (by assumption) (by first | assumption | omega) | exact bk_p (by assumption) (by first | assumption | omega) | exact bk_o (by assumption) (by first | assumption | omega) | exact bk_s (by assumption) (by first | assumption | omega) | exact bk_1 (by assumption) | exact bk_2 (by assumption) | exact bk_3 (by assumption) | exact bk_4 (by assumption) | exact bk_5 (by assumption) | exact bk_6 (by assumption) | exact bk_7 (by assumption) | exact bk_8 (by assumption) | exact sh_ring _ (by first | assumption | omega) | exact sh_imgs _ (by first | assumption | omega)) ?_
    (try rw [bx2 hF])
    refine u_callV_2 dX7_readMask_43 ml_X7_160 mv_X7_needNewName (by first | assumption | rfl | exact led_1 (by assumption) | exact led_2 (by assumption) | exact bk_m (by assumption) (by first | assumption | omega) | exact bk_p (by assumption) (by first | assumption | omega) | exact bk_o (by assumption) (by first | assumption | omega) | exact bk_s (by assumption) (by first | assumption | omega) | exact bk_1 (by assumption) | exact bk_2 (by assumption) | exact bk_3 (by assumption) | exact bk_4 (by assumption) | exact bk_5 (by assumption) | exact bk_6 (by assumption) | exact bk_7 (by assumption) | exact bk_8 (by assumption) | exact sh_ring _ (by first | assumption | omega) | exact sh_imgs _ (by first | assumption | omega)) (by decide) rfl (by decide) (Nat.le_of_ble_eq_true rfl) (c_X7_needNewName (t := 1) (m := s.2.1 2) (s := s) (by decide) (Or.inl (by simpa [rom] using hc9)) (by omega) hR hN hC hK hT (fun f p q J M p1 p2 p3 => ?_) (fun q1 J1 M1 r1 f1 hN1 => ?_))
    · refine v_if_eq (tgt := 56) dX7_readMask_46 (by decide) (fun hc46 => ?_) (fun hc46 => ?_)
      · (first | rw [bI_0, Bool.not_eq_false] at hc46 | rw [bI_0] at hc46 | rw [show (0 : Int32) = nI 0 from rfl, nI_eq (by omega) (by omega)] at hc46 | skip)
        refine v_iconst (v := nI 0) dX7_readMask_56 (by decide) ?_
        refine v_zret dX7_readMask_57 (by first | rfl | exact bI_n _) rfl rfl rfl rfl ?_
        exact hQ.1 f p (by rw [lMask, bnd_l q]) _ _ p1 p2 (hfr.fr9 p3)
      · exact absurd rfl hc46
    · have hM := hM.fr7 hO f1 r1
      have h17 := hN.2.2.2
      have hN : NmT J1 M1 (keepF tp sz s.2.1 s.1 (5 + s.2.1 2)) (cnt + 1) (fun i => if i = cnt then 5 + s.2.1 2 else sl i) := hN1 (by simpa [rom] using hc9) (by have := hC.2.2; omega) (by unfold tn; simp only [bas, if_true, Nat.one_ne_zero, if_false]; omega)
      have hfr := hfr.fr7 f1
      have hT := hM.2.2.2.1
      have hF := hM.2.2.2.2.1
      refine v_if_eq (tgt := 56) dX7_readMask_46 (by decide) (fun hc46 => ?_) (fun hc46 => ?_)
      · exact absurd hc46 (by decide)
      · (first | rw [bI_0, Bool.not_eq_false] at hc46 | rw [bI_0] at hc46 | rw [show (0 : Int32) = nI 0 from rfl, nI_eq (by omega) (by omega)] at hc46 | skip)
        refine v_aload_0 dX7_readMask_49 ?_
        refine u_callV_0 dX7_readMask_50 ml_X7_171 mv_X7_needKind (by first | assumption | rfl | exact led_1 (by assumption) | exact led_2 (by assumption) | exact bk_m (by assumption) (by first | assumption | omega) | exact bk_p (by assumption) (by first | assumption | omega) | exact bk_o (by assumption) (by first | assumption | omega) | exact bk_s (by assumption) (by first | assumption | omega) | exact bk_1 (by assumption) | exact bk_2 (by assumption) | exact bk_3 (by assumption) | exact bk_4 (by assumption) | exact bk_5 (by assumption) | exact bk_6 (by assumption) | exact bk_7 (by assumption) | exact bk_8 (by assumption) | exact sh_ring _ (by first | assumption | omega) | exact sh_imgs _ (by first | assumption | omega)) (by decide) rfl (by decide) (Nat.le_of_ble_eq_true rfl) (c_X7_needKind (s := kept tp sz (5 + s.2.1 2) s) hR hT (fun f p q J M p1 p2 p3 => ?_) (fun v2 u2 q2 e2 l2 J2 M2 r2 n2 f2 => ?_))
        · refine v_if_ne (tgt := 58) dX7_readMask_53 (by decide) (fun hc53 => ?_) (fun hc53 => ?_)
          · exact absurd rfl hc53
          · (first | rw [bI_0, Bool.not_eq_false] at hc53 | rw [bI_0] at hc53 | rw [show (0 : Int32) = nI 0 from rfl, nI_eq (by omega) (by omega)] at hc53 | skip)
            refine v_iconst (v := nI 0) dX7_readMask_56 (by decide) ?_
            refine v_zret dX7_readMask_57 (by first | rfl | exact bI_n _) rfl rfl rfl rfl ?_
            exact hQ.1 f p (by rw [lMask, bnd_r q1, bnd_l q]) _ _ p1 p2 (hfr.fr9 p3)
        · have hM := hM.fr9 hO f2 r2
          have hN := hN.fr9 f2
          have hfr := hfr.fr9 f2
          have hT := hM.2.2.2.1
          have hF := hM.2.2.2.2.1
          have hc : J2 (B + 11 + s.2.1 2) = J2 (B + 11 + s.2.1 2) := rfl
          refine v_if_ne (tgt := 58) dX7_readMask_53 (by decide) (fun hc53 => ?_) (fun hc53 => ?_)
          · (first | rw [bI_0, Bool.not_eq_false] at hc53 | rw [bI_0] at hc53 | rw [show (0 : Int32) = nI 0 from rfl, nI_eq (by omega) (by omega)] at hc53 | skip)
            refine v_aload_1 dX7_readMask_58 ?_
            refine v_aload_0 dX7_readMask_59 ?_
            refine u_getI dX7_readMask_60 gf_X7_154 (by first | assumption | rfl | exact led_1 (by assumption) | exact led_2 (by assumption) | exact bk_m (by assumption) (by first | assumption | omega) | exact bk_p (by assumption) (by first | assumption | omega) | exact bk_o (by assumption) (by first | assumption | omega) | exact bk_s (by assumption) (by first | assumption | omega) | exact bk_1 (by assumption) | exact bk_2 (by assumption) | exact bk_3 (by assumption) | exact bk_4 (by assumption) | exact bk_5 (by assumption) | exact bk_6 (by assumption) | exact bk_7 (by assumption) | exact bk_8 (by assumption) | exact sh_ring _ (by first | assumption | omega) | exact sh_imgs _ (by first | assumption | omega)) ?_
            rw [n2]
            refine u_putI dX7_readMask_63 gf_X7_174 (by first | assumption | rfl | exact led_1 (by assumption) | exact led_2 (by assumption) | exact bk_m (by assumption) (by first | assumption | omega) | exact bk_p (by assumption) (by first | assumption | omega) | exact bk_o (by assumption) (by first | assumption | omega) | exact bk_s (by assumption) (by first | assumption | omega) | exact bk_1 (by assumption) | exact bk_2 (by assumption) | exact bk_3 (by assumption) | exact bk_4 (by assumption) | exact bk_5 (by assumption) | exact bk_6 (by assumption) | exact bk_7 (by assumption) | exact bk_8 (by assumption) | exact sh_ring _ (by first | assumption | omega) | exact sh_imgs _ (by first | assumption | omega)) rfl rfl rfl ?_
            have hM := hM.cell hO (x := B + 11 + s.2.1 2) (j := 0) (v := nI v2) (Or.inl ⟨by omega, by omega⟩)
            have hN := hN.up (x := B + 11 + s.2.1 2) (j := 0) (v := nI v2) (Or.inl (by omega))
            have hfr := hfr.up (x := B + 11 + s.2.1 2) (j := 0) (v := nI v2) (Or.inl ⟨by omega, by omega⟩) hB
            have hT := hM.2.2.2.1
            have hF := hM.2.2.2.2.1
            have hc := ui_row (j := 0) (v := nI v2) hc
            refine v_aload_0 dX7_readMask_66 ?_
            refine v_ldcS (i := 12) dX7_readMask_67 (by decide) rfl rfl ?_
            refine v_iconst (v := nI 1) dX7_readMask_69 (by decide) ?_
            refine v_bipush (v := nI 9) dX7_readMask_70 (by decide) ?_
            refine u_callV_3 dX7_readMask_72 ml_X7_150 mv_X7_needWhole (by first | assumption | rfl | exact led_1 (by assumption) | exact led_2 (by assumption) | exact bk_m (by assumption) (by first | assumption | omega) | exact bk_p (by assumption) (by first | assumption | omega) | exact bk_o (by assumption) (by first | assumption | omega) | exact bk_s (by assumption) (by first | assumption | omega) | exact bk_1 (by assumption) | exact bk_2 (by assumption) | exact bk_3 (by assumption) | exact bk_4 (by assumption) | exact bk_5 (by assumption) | exact bk_6 (by assumption) | exact bk_7 (by assumption) | exact bk_8 (by assumption) | exact sh_ring _ (by first | assumption | omega) | exact sh_imgs _ (by first | assumption | omega)) (by decide) rfl (by decide) (Nat.le_of_ble_eq_true rfl) (c_X7_needWhole (i := 12) (lo := 1) (hi' := 9) (s := u2) (by decide) (by omega) (by omega) hR hT (fun f p q J M p1 p2 p3 => ?_) (fun v3 u3 q3 e3 l3 h3 J3 M3 r3 n3 f3 => ?_))
            · refine v_if_ne (tgt := 80) dX7_readMask_75 (by decide) (fun hc75 => ?_) (fun hc75 => ?_)
              · exact absurd rfl hc75
              · (first | rw [bI_0, Bool.not_eq_false] at hc75 | rw [bI_0] at hc75 | rw [show (0 : Int32) = nI 0 from rfl, nI_eq (by omega) (by omega)] at hc75 | skip)
                refine v_iconst (v := nI 0) dX7_readMask_78 (by decide) ?_
                refine v_zret dX7_readMask_79 (by first | rfl | exact bI_n _) rfl rfl rfl rfl ?_
                exact hQ.1 f p (by rw [lMask, bnd_r q1, bnd_r q2, bnd_l q]) _ _ p1 p2 (hfr.fr9 p3)
            · have hM := hM.fr9 hO f3 r3
              have hN := hN.fr9 f3
              have hfr := hfr.fr9 f3
              have hT := hM.2.2.2.1
              have hF := hM.2.2.2.2.1
              have hc := (f3.1 (B + 11 + s.2.1 2) (by omega) (by omega)).trans hc
              refine v_if_ne (tgt := 80) dX7_readMask_75 (by decide) (fun hc75 => ?_) (fun hc75 => ?_)
              · (first | rw [bI_0, Bool.not_eq_false] at hc75 | rw [bI_0] at hc75 | rw [show (0 : Int32) = nI 0 from rfl, nI_eq (by omega) (by omega)] at hc75 | skip)
                refine v_aload_1 dX7_readMask_80 ?_
                refine v_aload_0 dX7_readMask_81 ?_
                refine u_getI dX7_readMask_82 gf_X7_154 (by first | assumption | rfl | exact led_1 (by assumption) | exact led_2 (by assumption) | exact bk_m (by assumption) (by first | assumption | omega) | exact bk_p (by assumption) (by first | assumption | omega) | exact bk_o (by assumption) (by first | assumption | omega) | exact bk_s (by assumption) (by first | assumption | omega) | exact bk_1 (by assumption) | exact bk_2 (by assumption) | exact bk_3 (by assumption) | exact bk_4 (by assumption) | exact bk_5 (by assumption) | exact bk_6 (by assumption) | exact bk_7 (by assumption) | exact bk_8 (by assumption) | exact sh_ring _ (by first | assumption | omega) | exact sh_imgs _ (by first | assumption | omega)) ?_
                rw [n3]
                refine u_putI dX7_readMask_85 gf_X7_179 (by first | assumption | rfl | exact led_1 (by assumption) | exact led_2 (by assumption) | exact bk_m (by assumption) (by first | assumption | omega) | exact bk_p (by assumption) (by first | assumption | omega) | exact bk_o (by assumption) (by first | assumption | omega) | exact bk_s (by assumption) (by first | assumption | omega) | exact bk_1 (by assumption) | exact bk_2 (by assumption) | exact bk_3 (by assumption) | exact bk_4 (by assumption) | exact bk_5 (by assumption) | exact bk_6 (by assumption) | exact bk_7 (by assumption) | exact bk_8 (by assumption) | exact sh_ring _ (by first | assumption | omega) | exact sh_imgs _ (by first | assumption | omega)) rfl rfl rfl ?_
                have hM := hM.cell hO (x := B + 11 + s.2.1 2) (j := 1) (v := nI v3) (Or.inl ⟨by omega, by omega⟩)
                have hN := hN.up (x := B + 11 + s.2.1 2) (j := 1) (v := nI v3) (Or.inl (by omega))
                have hfr := hfr.up (x := B + 11 + s.2.1 2) (j := 1) (v := nI v3) (Or.inl ⟨by omega, by omega⟩) hB
                have hT := hM.2.2.2.1
                have hF := hM.2.2.2.2.1
                have hc := ui_row (j := 1) (v := nI v3) hc
                refine v_aload_0 dX7_readMask_88 ?_
                refine v_ldcS (i := 18) dX7_readMask_89 (by decide) rfl rfl ?_
                refine v_iconst (v := nI 0) dX7_readMask_91 (by decide) ?_
                refine v_bipush (v := nI 99) dX7_readMask_92 (by decide) ?_
                refine u_callV_3 dX7_readMask_94 ml_X7_150 mv_X7_needWhole (by first | assumption | rfl | exact led_1 (by assumption) | exact led_2 (by assumption) | exact bk_m (by assumption) (by first | assumption | omega) | exact bk_p (by assumption) (by first | assumption | omega) | exact bk_o (by assumption) (by first | assumption | omega) | exact bk_s (by assumption) (by first | assumption | omega) | exact bk_1 (by assumption) | exact bk_2 (by assumption) | exact bk_3 (by assumption) | exact bk_4 (by assumption) | exact bk_5 (by assumption) | exact bk_6 (by assumption) | exact bk_7 (by assumption) | exact bk_8 (by assumption) | exact sh_ring _ (by first | assumption | omega) | exact sh_imgs _ (by first | assumption | omega)) (by decide) rfl (by decide) (Nat.le_of_ble_eq_true rfl) (c_X7_needWhole (i := 18) (lo := 0) (hi' := 99) (s := u3) (by decide) (by omega) (by omega) hR hT (fun f p q J M p1 p2 p3 => ?_) (fun v4 u4 q4 e4 l4 h4 J4 M4 r4 n4 f4 => ?_))
                · refine v_if_ne (tgt := 102) dX7_readMask_97 (by decide) (fun hc97 => ?_) (fun hc97 => ?_)
                  · exact absurd rfl hc97
                  · (first | rw [bI_0, Bool.not_eq_false] at hc97 | rw [bI_0] at hc97 | rw [show (0 : Int32) = nI 0 from rfl, nI_eq (by omega) (by omega)] at hc97 | skip)
                    refine v_iconst (v := nI 0) dX7_readMask_100 (by decide) ?_
                    refine v_zret dX7_readMask_101 (by first | rfl | exact bI_n _) rfl rfl rfl rfl ?_
                    exact hQ.1 f p (by rw [lMask, bnd_r q1, bnd_r q2, bnd_r q3, bnd_l q]) _ _ p1 p2 (hfr.fr9 p3)
                · have hM := hM.fr9 hO f4 r4
                  have hN := hN.fr9 f4
                  have hfr := hfr.fr9 f4
                  have hT := hM.2.2.2.1
                  have hF := hM.2.2.2.2.1
                  have hc := (f4.1 (B + 11 + s.2.1 2) (by omega) (by omega)).trans hc
                  refine v_if_ne (tgt := 102) dX7_readMask_97 (by decide) (fun hc97 => ?_) (fun hc97 => ?_)
                  · (first | rw [bI_0, Bool.not_eq_false] at hc97 | rw [bI_0] at hc97 | rw [show (0 : Int32) = nI 0 from rfl, nI_eq (by omega) (by omega)] at hc97 | skip)
                    refine v_aload_1 dX7_readMask_102 ?_
                    refine v_aload_0 dX7_readMask_103 ?_
                    refine u_getI dX7_readMask_104 gf_X7_154 (by first | assumption | rfl | exact led_1 (by assumption) | exact led_2 (by assumption) | exact bk_m (by assumption) (by first | assumption | omega) | exact bk_p (by assumption) (by first | assumption | omega) | exact bk_o (by assumption) (by first | assumption | omega) | exact bk_s (by assumption) (by first | assumption | omega) | exact bk_1 (by assumption) | exact bk_2 (by assumption) | exact bk_3 (by assumption) | exact bk_4 (by assumption) | exact bk_5 (by assumption) | exact bk_6 (by assumption) | exact bk_7 (by assumption) | exact bk_8 (by assumption) | exact sh_ring _ (by first | assumption | omega) | exact sh_imgs _ (by first | assumption | omega)) ?_
                    rw [n4]
                    refine u_putI dX7_readMask_107 gf_X7_183 (by first | assumption | rfl | exact led_1 (by assumption) | exact led_2 (by assumption) | exact bk_m (by assumption) (by first | assumption | omega) | exact bk_p (by assumption) (by first | assumption | omega) | exact bk_o (by assumption) (by first | assumption | omega) | exact bk_s (by assumption) (by first | assumption | omega) | exact bk_1 (by assumption) | exact bk_2 (by assumption) | exact bk_3 (by assumption) | exact bk_4 (by assumption) | exact bk_5 (by assumption) | exact bk_6 (by assumption) | exact bk_7 (by assumption) | exact bk_8 (by assumption) | exact sh_ring _ (by first | assumption | omega) | exact sh_imgs _ (by first | assumption | omega)) rfl rfl rfl ?_
                    have hM := hM.cell hO (x := B + 11 + s.2.1 2) (j := 2) (v := nI v4) (Or.inl ⟨by omega, by omega⟩)
                    have hN := hN.up (x := B + 11 + s.2.1 2) (j := 2) (v := nI v4) (Or.inl (by omega))
                    have hfr := hfr.up (x := B + 11 + s.2.1 2) (j := 2) (v := nI v4) (Or.inl ⟨by omega, by omega⟩) hB
                    have hT := hM.2.2.2.1
                    have hF := hM.2.2.2.2.1
                    have hc := ui_row (j := 2) (v := nI v4) hc
                    refine v_aload_0 dX7_readMask_110 ?_
                    refine u_getR dX7_readMask_111 gf_X7_73 (by first | assumption | rfl | exact led_1 (by assumption) | exact led_2 (by assumption) | exact bk_m (by assumption) (by first | assumption | omega) | exact bk_p (by assumption) (by first | assumption | omega) | exact bk_o (by assumption) (by first | assumption | omega) | exact bk_s (by assumption) (by first | assumption | omega) | exact bk_1 (by assumption) | exact bk_2 (by assumption) | exact bk_3 (by assumption) | exact bk_4 (by assumption) | exact bk_5 (by assumption) | exact bk_6 (by assumption) | exact bk_7 (by assumption) | exact bk_8 (by assumption) | exact sh_ring _ (by first | assumption | omega) | exact sh_imgs _ (by first | assumption | omega)) (by assumption) ?_
                    refine v_dup dX7_readMask_114 rfl ?_
                    refine u_getI dX7_readMask_115 gf_X7_109 (by first | assumption | rfl | exact led_1 (by assumption) | exact led_2 (by assumption) | exact bk_m (by assumption) (by first | assumption | omega) | exact bk_p (by assumption) (by first | assumption | omega) | exact bk_o (by assumption) (by first | assumption | omega) | exact bk_s (by assumption) (by first | assumption | omega) | exact bk_1 (by assumption) | exact bk_2 (by assumption) | exact bk_3 (by assumption) | exact bk_4 (by assumption) | exact bk_5 (by assumption) | exact bk_6 (by assumption) | exact bk_7 (by assumption) | exact bk_8 (by assumption) | exact sh_ring _ (by first | assumption | omega) | exact sh_imgs _ (by first | assumption | omega)) ?_
                    (try rw [bx2 hF])
                    refine v_iconst (v := nI 1) dX7_readMask_118 (by decide) ?_
                    refine v_iadd dX7_readMask_119 ?_
                    rw [nI_add]
                    refine u_putI dX7_readMask_120 gf_X7_109 (by first | assumption | rfl | exact led_1 (by assumption) | exact led_2 (by assumption) | exact bk_m (by assumption) (by first | assumption | omega) | exact bk_p (by assumption) (by first | assumption | omega) | exact bk_o (by assumption) (by first | assumption | omega) | exact bk_s (by assumption) (by first | assumption | omega) | exact bk_1 (by assumption) | exact bk_2 (by assumption) | exact bk_3 (by assumption) | exact bk_4 (by assumption) | exact bk_5 (by assumption) | exact bk_6 (by assumption) | exact bk_7 (by assumption) | exact bk_8 (by assumption) | exact sh_ring _ (by first | assumption | omega) | exact sh_imgs _ (by first | assumption | omega)) rfl rfl rfl ?_
                    refine v_iconst (v := nI 1) dX7_readMask_123 (by decide) ?_
                    refine v_zret dX7_readMask_124 (by first | rfl | exact bI_n _) rfl rfl rfl rfl ?_
                    have hl : lMask tp sz s = .inr (setS u4 (setF (setF (setF (setF u4.2.1 (8 + s.2.1 2) v2) (14 + s.2.1 2) v3) (20 + s.2.1 2) v4) 2 (s.2.1 2 + 1))) := by rw [lMask, bnd_r q1, bnd_r q2, bnd_r q3, bnd_r q4]
                    have hI := inv_mask hby hPI hc9 hl
                    have eu : u4.2 = (keepF tp sz s.2.1 s.1 (5 + s.2.1 2), s.2.2) := by rw [e4, e3, e2]; rfl
                    have eF : u4.2.1 = keepF tp sz s.2.1 s.1 (5 + s.2.1 2) := congrArg Prod.fst eu
                    have eL : u4.2.2 = s.2.2 := by have q := congrArg Prod.snd eu; exact q
                    rw [eF] at hl hI
                    obtain ⟨g2, ge, ga, gb, gc⟩ := mk_facts (F := keepF tp sz s.2.1 s.1 (5 + s.2.1 2)) (k := v2) (a := v3) (c := v4) hc9
                    generalize setF (setF (setF (setF (keepF tp sz s.2.1 s.1 (5 + s.2.1 2)) (8 + s.2.1 2) v2) (14 + s.2.1 2) v3) (20 + s.2.1 2) v4) 2 (s.2.1 2 + 1) = G at hl hI g2 ge ga gb gc
                    have ge2 : ∀ x, x < 192 → x ≠ 2 → x ≠ 8 + s.2.1 2 → x ≠ 14 + s.2.1 2 → x ≠ 20 + s.2.1 2 → G x = s.2.1 x := fun x a0 a1 a2 a3 a4 => by rw [ge x a1 a2 a3 a4, keepF_lo a0]
                    have g1 := ge2 1 (by omega) (by omega) (by omega) (by omega) (by omega)
                    have g3 := ge2 3 (by omega) (by omega) (by omega) (by omega) (by omega)
                    have g7 := ge2 7 (by omega) (by omega) (by omega) (by omega) (by omega)
                    refine hQ.2 _ hl _ _ _ ⟨⟨hR, hb2, hB, hT.fr (ui_ne (by omega)) (ui_ne (by omega)) rfl, ?_, ?_, ?_⟩, hI.1, cnt + 1, _, (hN.up (Or.inl (by omega))).cong (fun x hx => ge x (by omega) (by omega) (by omega) (by omega)), hC.new (n := 5 + s.2.1 2) (fun x hx => ?_) (by omega) (fun i hi => (h17 i hi).1) ?_⟩ (hfr.up (Or.inl ⟨by omega, by omega⟩) hB)
                    · refine bk_mask hF hO hc9 g2 ge2 (ui_s _ _ _ _) (fun j hj => ui_o hj) (fun j hj => ?_) (fun x a1 _ _ _ => ui_ne a1)
                      rw [ui_ne (by omega), hc]
                      show _ = nI (G (8 + 6 * j + s.2.1 2))
                      match j, hj with
                      | 0, _ => rw [upd_o (by decide), upd_o (by decide), upd_s, show 8 + 6 * 0 + s.2.1 2 = 8 + s.2.1 2 by omega, ga]
                      | 1, _ => rw [upd_o (by decide), upd_s, show 8 + 6 * 1 + s.2.1 2 = 14 + s.2.1 2 by omega, gb]
                      | 2, _ => rw [upd_s, show 8 + 6 * 2 + s.2.1 2 = 20 + s.2.1 2 by omega, gc]
                    · show LDI _ (B + 8) u4.2.2.1 u4.2.2.2.1 u4.2.2.2.2
                      rw [eL]
                      exact hM.2.2.2.2.2.1.same (ui_ne (by omega)) (ui_ne (by omega)) (ui_ne (by omega))
                    · show _ = nI (G 7) ∧ _
                      rw [ui_ne (by omega), g7]; exact hM.2.2.2.2.2.2
                    · show tn G x ↔ _
                      unfold tn; rw [g1, g2, g3]; omega
                    · show G 1 + G 2 + G 3 = _
                      omega
                  · exact absurd hc97 (by decide)
              · exact absurd hc75 (by decide)
          · exact absurd hc53 (by decide)
  · (try rw [nI_ltI (by omega) (by omega)] at hc9)
    refine v_aload_0 dX7_readMask_12 ?_
    refine v_iconst (v := nI 5) dX7_readMask_13 (by decide) ?_
    refine u_callV_1 dX7_readMask_14 ml_X7_146 mv_X7_failBefore (by first | assumption | rfl | exact led_1 (by assumption) | exact led_2 (by assumption) | exact bk_m (by assumption) (by first | assumption | omega) | exact bk_p (by assumption) (by first | assumption | omega) | exact bk_o (by assumption) (by first | assumption | omega) | exact bk_s (by assumption) (by first | assumption | omega) | exact bk_1 (by assumption) | exact bk_2 (by assumption) | exact bk_3 (by assumption) | exact bk_4 (by assumption) | exact bk_5 (by assumption) | exact bk_6 (by assumption) | exact bk_7 (by assumption) | exact bk_8 (by assumption) | exact sh_ring _ (by first | assumption | omega) | exact sh_imgs _ (by first | assumption | omega)) (by decide) rfl (by decide) (Nat.le_of_ble_eq_true rfl) (c_X7_failBefore hR hT (fun J p1 p2 p3 p4 => ?_))
    refine v_zret dX7_readMask_17 (by first | rfl | exact bI_n _) rfl rfl rfl rfl ?_
    exact hQ.1 5 _ (if_neg hc9) _ _ p1 p2 (hfr.fr9 p3)
end
