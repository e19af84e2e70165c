section
variable {b : Nat} {ad : Nat → Nat} {I : HI} {L : HL} {R : HR} {Q : QT} {B B2 t : Nat} {tp : Nat → Nat} {nt tr fa pl : Nat} {F : bkF} {S : Nat → LSt} {u r : Nat} {im : Nat → LSt} {ic : Nat}
theorem c_X11_fault (h : ClsB I L R B B2 t tp nt tr fa pl F S u r im ic) (hQ : XQ I L R tp nt tr fa pl F S u r im ic (nI fa) Q) : KK 12 mX11_fault b ad [.ref (b + 0)] I L R Q := by
  have hR := cb_R h
  have hb := cb_b h
  have hB := cb_B h
  have hF := cb_F h
  have hO := cb_O h
  have o0 := hO.1
  have o1 := hO.2.1
  have o2 := hO.2.2.1
  have o3 := hO.2.2.2.1
  have o4 := hO.2.2.2.2.1
  have o5 := hO.2.2.2.2.2.1
  have o6 := hO.2.2.2.2.2.2.1
  have h1 := cb_1 h
  have ht := cb_t h
  have hS := sh_ring t ht
  have hL := cb_L h
  have hK := cb_K h
  have hps := hK.pers
  obtain ⟨d1, d2, d3, d4, d5⟩ := h.2.2.2.1
  refine K.of (M := mX11_fault) (lv := [some (.ref (b + 0))]) (by decide) (Nat.le_of_ble_eq_true rfl) rfl ?_
  refine v_aload_0 dX11_fault_0 ?_
  refine u_getI dX11_fault_1 gf_X11_20 (by first | assumption | rfl | exact led_1 (by assumption) | exact led_2 (by assumption) | exact bk_m (by assumption) (by first | assumption | omega) | exact bk_p (by assumption) (by first | assumption | omega) | exact bk_o (by assumption) (by first | assumption | omega) | exact bk_s (by assumption) (by first | assumption | omega) | exact bk_1 (by assumption) | exact bk_2 (by assumption) | exact bk_3 (by assumption) | exact bk_4 (by assumption) | exact bk_5 (by assumption) | exact bk_6 (by assumption) | exact bk_7 (by assumption) | exact bk_8 (by assumption) | exact sh_ring _ (by first | assumption | omega) | exact sh_imgs _ (by first | assumption | omega)) ?_
  refine v_iret dX11_fault_4 rfl rfl rfl rfl ?_
  rw [d3]
  exact hQ.fin h Hi.refl rfl rfl
theorem c_X11_trouble (h : ClsB I L R B B2 t tp nt tr fa pl F S u r im ic) (hQ : XQ I L R tp nt tr fa pl F S u r im ic (nI tr) Q) : KK 12 mX11_trouble b ad [.ref (b + 0)] I L R Q := by
  have hR := cb_R h
  have hb := cb_b h
  have hB := cb_B h
  have hF := cb_F h
  have hO := cb_O h
  have o0 := hO.1
  have o1 := hO.2.1
  have o2 := hO.2.2.1
  have o3 := hO.2.2.2.1
  have o4 := hO.2.2.2.2.1
  have o5 := hO.2.2.2.2.2.1
  have o6 := hO.2.2.2.2.2.2.1
  have h1 := cb_1 h
  have ht := cb_t h
  have hS := sh_ring t ht
  have hL := cb_L h
  have hK := cb_K h
  have hps := hK.pers
  obtain ⟨d1, d2, d3, d4, d5⟩ := h.2.2.2.1
  refine K.of (M := mX11_trouble) (lv := [some (.ref (b + 0))]) (by decide) (Nat.le_of_ble_eq_true rfl) rfl ?_
  refine v_aload_0 dX11_trouble_0 ?_
  refine u_getI dX11_trouble_1 gf_X11_17 (by first | assumption | rfl | exact led_1 (by assumption) | exact led_2 (by assumption) | exact bk_m (by assumption) (by first | assumption | omega) | exact bk_p (by assumption) (by first | assumption | omega) | exact bk_o (by assumption) (by first | assumption | omega) | exact bk_s (by assumption) (by first | assumption | omega) | exact bk_1 (by assumption) | exact bk_2 (by assumption) | exact bk_3 (by assumption) | exact bk_4 (by assumption) | exact bk_5 (by assumption) | exact bk_6 (by assumption) | exact bk_7 (by assumption) | exact bk_8 (by assumption) | exact sh_ring _ (by first | assumption | omega) | exact sh_imgs _ (by first | assumption | omega)) ?_
  refine v_iret dX11_trouble_4 rfl rfl rfl rfl ?_
  rw [d1]
  exact hQ.fin h Hi.refl rfl rfl
def a_where (tr pl : Nat) : Int32 := if tr = 4 then nI pl else -1
theorem c_X11_where (h : ClsB I L R B B2 t tp nt tr fa pl F S u r im ic) (hQ : XQ I L R tp nt tr fa pl F S u r im ic (a_where tr pl) Q) : KK 12 mX11_where b ad [.ref (b + 0)] I L R Q := by
  have hR := cb_R h
  have hb := cb_b h
  have hB := cb_B h
  have hF := cb_F h
  have hO := cb_O h
  have o0 := hO.1
  have o1 := hO.2.1
  have o2 := hO.2.2.1
  have o3 := hO.2.2.2.1
  have o4 := hO.2.2.2.2.1
  have o5 := hO.2.2.2.2.2.1
  have o6 := hO.2.2.2.2.2.2.1
  have h1 := cb_1 h
  have ht := cb_t h
  have hS := sh_ring t ht
  have hL := cb_L h
  have hK := cb_K h
  have hps := hK.pers
  obtain ⟨d1, d2, d3, d4, d5⟩ := h.2.2.2.1
  refine K.of (M := mX11_where) (lv := [some (.ref (b + 0))]) (by decide) (Nat.le_of_ble_eq_true rfl) rfl ?_
  refine v_aload_0 dX11_where_0 ?_
  refine u_getI dX11_where_1 gf_X11_17 (by first | assumption | rfl | exact led_1 (by assumption) | exact led_2 (by assumption) | exact bk_m (by assumption) (by first | assumption | omega) | exact bk_p (by assumption) (by first | assumption | omega) | exact bk_o (by assumption) (by first | assumption | omega) | exact bk_s (by assumption) (by first | assumption | omega) | exact bk_1 (by assumption) | exact bk_2 (by assumption) | exact bk_3 (by assumption) | exact bk_4 (by assumption) | exact bk_5 (by assumption) | exact bk_6 (by assumption) | exact bk_7 (by assumption) | exact bk_8 (by assumption) | exact sh_ring _ (by first | assumption | omega) | exact sh_imgs _ (by first | assumption | omega)) ?_
  rw [d1]
  refine v_iconst (v := nI 4) dX11_where_4 (by decide) ?_
  refine v_icmp_ne (tgt := 15) dX11_where_5 (by decide) (fun hc5 => ?_) (fun hc5 => ?_)
  · (try rw [nI_eq (by omega) (by omega)] at hc5)
    refine v_iconst (v := -1) dX11_where_15 (by decide) ?_
    refine v_iret dX11_where_16 rfl rfl rfl rfl ?_
    exact hQ.fin h Hi.refl rfl (by rw [a_where, if_neg hc5])
  · (try rw [nI_eq (by omega) (by omega)] at hc5)
    refine v_aload_0 dX11_where_8 ?_
    refine u_getI dX11_where_9 gf_X11_23 (by first | assumption | rfl | exact led_1 (by assumption) | exact led_2 (by assumption) | exact bk_m (by assumption) (by first | assumption | omega) | exact bk_p (by assumption) (by first | assumption | omega) | exact bk_o (by assumption) (by first | assumption | omega) | exact bk_s (by assumption) (by first | assumption | omega) | exact bk_1 (by assumption) | exact bk_2 (by assumption) | exact bk_3 (by assumption) | exact bk_4 (by assumption) | exact bk_5 (by assumption) | exact bk_6 (by assumption) | exact bk_7 (by assumption) | exact bk_8 (by assumption) | exact sh_ring _ (by first | assumption | omega) | exact sh_imgs _ (by first | assumption | omega)) ?_
    rw [(d5 hc5).1]
    refine v_goto (tgt := 16) dX11_where_12 (by decide) ?_
    refine v_iret dX11_where_16 rfl rfl rfl rfl ?_
    exact hQ.fin h Hi.refl rfl (by rw [a_where, if_pos hc5])
def szf (F : bkF) (s : LSt) (u r ic nt : Nat) : Nat → Nat
  | 0 => F 2
  | 1 => F 3
  | 2 => F 1
  | 3 => F 4
  | 4 => s.1
  | 5 => F 5
  | 6 => F 6
  | 7 => F 0
  | 8 => u
  | 9 => r
  | 10 => ic
  | _ => nt
def a_size (F : bkF) (s : LSt) (u r ic nt : Nat) (x : Int32) : Int32 := if inb x 12 = true then nI (szf F s u r ic nt (tN x)) else -1
theorem c_X11_size {x : Int32} (h : ClsB I L R B B2 t tp nt tr fa pl F S u r im ic) (hQ : XQ I L R tp nt tr fa pl F S u r im ic (a_size F (S 0) u r ic nt x) Q) : KK 12 mX11_size b ad [.ref (b + 0), .int x] I L R Q := by
  have hR := cb_R h
  have hb := cb_b h
  have hB := cb_B h
  have hF := cb_F h
  have hO := cb_O h
  have o0 := hO.1
  have o1 := hO.2.1
  have o2 := hO.2.2.1
  have o3 := hO.2.2.2.1
  have o4 := hO.2.2.2.2.1
  have o5 := hO.2.2.2.2.2.1
  have o6 := hO.2.2.2.2.2.2.1
  have h1 := cb_1 h
  have ht := cb_t h
  have hS := sh_ring t ht
  have hL := cb_L h
  have hK := cb_K h
  have hps := hK.pers
  obtain ⟨d1, d2, d3, d4, d5⟩ := h.2.2.2.1
  refine K.of (M := mX11_size) (lv := [some (.ref (b + 0)), some (.int x)]) (by decide) (Nat.le_of_ble_eq_true rfl) rfl ?_
  by_cases hk0 : inb x 12 = true
  · obtain ⟨k, rfl, hk⟩ := inb_ex (by decide) hk0
    have ek : tN (nI k) = k := tN_nI (by omega)
    have hk2 : k = 0 ∨ k = 1 ∨ k = 2 ∨ k = 3 ∨ k = 4 ∨ k = 5 ∨ k = 6 ∨ k = 7 ∨ k = 8 ∨ k = 9 ∨ k = 10 ∨ k = 11 := by omega
    rcases hk2 with rfl | rfl | rfl | rfl | rfl | rfl | rfl | rfl | rfl | rfl | rfl | rfl
    · refine v_iload_1 dX11_size_0 ?_
      refine v_tableIn (off := 63) (tgt := 64) dX11_size_1 (by decide) (by decide) rfl (by decide) ?_
      refine v_aload_0 dX11_size_64 ?_
      refine u_getR dX11_size_65 gf_X11_29 (by first | assumption | rfl | exact led_1 (by assumption) | exact led_2 (by assumption) | exact bk_m (by assumption) (by first | assumption | omega) | exact bk_p (by assumption) (by first | assumption | omega) | exact bk_o (by assumption) (by first | assumption | omega) | exact bk_s (by assumption) (by first | assumption | omega) | exact bk_1 (by assumption) | exact bk_2 (by assumption) | exact bk_3 (by assumption) | exact bk_4 (by assumption) | exact bk_5 (by assumption) | exact bk_6 (by assumption) | exact bk_7 (by assumption) | exact bk_8 (by assumption) | exact sh_ring _ (by first | assumption | omega) | exact sh_imgs _ (by first | assumption | omega)) (by assumption) ?_
      refine u_getI dX11_size_68 gf_X11_93 (by first | assumption | rfl | exact led_1 (by assumption) | exact led_2 (by assumption) | exact bk_m (by assumption) (by first | assumption | omega) | exact bk_p (by assumption) (by first | assumption | omega) | exact bk_o (by assumption) (by first | assumption | omega) | exact bk_s (by assumption) (by first | assumption | omega) | exact bk_1 (by assumption) | exact bk_2 (by assumption) | exact bk_3 (by assumption) | exact bk_4 (by assumption) | exact bk_5 (by assumption) | exact bk_6 (by assumption) | exact bk_7 (by assumption) | exact bk_8 (by assumption) | exact sh_ring _ (by first | assumption | omega) | exact sh_imgs _ (by first | assumption | omega)) ?_
      (try rw [bx2 hF])
      refine v_iret dX11_size_71 rfl rfl rfl rfl ?_
      exact hQ.fin h Hi.refl rfl (by rw [a_size, if_pos hk0, ek] <;> rfl)
    · refine v_iload_1 dX11_size_0 ?_
      refine v_tableIn (off := 71) (tgt := 72) dX11_size_1 (by decide) (by decide) rfl (by decide) ?_
      refine v_aload_0 dX11_size_72 ?_
      refine u_getR dX11_size_73 gf_X11_29 (by first | assumption | rfl | exact led_1 (by assumption) | exact led_2 (by assumption) | exact bk_m (by assumption) (by first | assumption | omega) | exact bk_p (by assumption) (by first | assumption | omega) | exact bk_o (by assumption) (by first | assumption | omega) | exact bk_s (by assumption) (by first | assumption | omega) | exact bk_1 (by assumption) | exact bk_2 (by assumption) | exact bk_3 (by assumption) | exact bk_4 (by assumption) | exact bk_5 (by assumption) | exact bk_6 (by assumption) | exact bk_7 (by assumption) | exact bk_8 (by assumption) | exact sh_ring _ (by first | assumption | omega) | exact sh_imgs _ (by first | assumption | omega)) (by assumption) ?_
      refine u_getI dX11_size_76 gf_X11_330 (by first | assumption | rfl | exact led_1 (by assumption) | exact led_2 (by assumption) | exact bk_m (by assumption) (by first | assumption | omega) | exact bk_p (by assumption) (by first | assumption | omega) | exact bk_o (by assumption) (by first | assumption | omega) | exact bk_s (by assumption) (by first | assumption | omega) | exact bk_1 (by assumption) | exact bk_2 (by assumption) | exact bk_3 (by assumption) | exact bk_4 (by assumption) | exact bk_5 (by assumption) | exact bk_6 (by assumption) | exact bk_7 (by assumption) | exact bk_8 (by assumption) | exact sh_ring _ (by first | assumption | omega) | exact sh_imgs _ (by first | assumption | omega)) ?_
      (try rw [bx3 hF])
      refine v_iret dX11_size_79 rfl rfl rfl rfl ?_
      exact hQ.fin h Hi.refl rfl (by rw [a_size, if_pos hk0, ek] <;> rfl)
    · refine v_iload_1 dX11_size_0 ?_
      refine v_tableIn (off := 79) (tgt := 80) dX11_size_1 (by decide) (by decide) rfl (by decide) ?_
      refine v_aload_0 dX11_size_80 ?_
      refine u_getR dX11_size_81 gf_X11_29 (by first | assumption | rfl | exact led_1 (by assumption) | exact led_2 (by assumption) | exact bk_m (by assumption) (by first | assumption | omega) | exact bk_p (by assumption) (by first | assumption | omega) | exact bk_o (by assumption) (by first | assumption | omega) | exact bk_s (by assumption) (by first | assumption | omega) | exact bk_1 (by assumption) | exact bk_2 (by assumption) | exact bk_3 (by assumption) | exact bk_4 (by assumption) | exact bk_5 (by assumption) | exact bk_6 (by assumption) | exact bk_7 (by assumption) | exact bk_8 (by assumption) | exact sh_ring _ (by first | assumption | omega) | exact sh_imgs _ (by first | assumption | omega)) (by assumption) ?_
      refine u_getI dX11_size_84 gf_X11_333 (by first | assumption | rfl | exact led_1 (by assumption) | exact led_2 (by assumption) | exact bk_m (by assumption) (by first | assumption | omega) | exact bk_p (by assumption) (by first | assumption | omega) | exact bk_o (by assumption) (by first | assumption | omega) | exact bk_s (by assumption) (by first | assumption | omega) | exact bk_1 (by assumption) | exact bk_2 (by assumption) | exact bk_3 (by assumption) | exact bk_4 (by assumption) | exact bk_5 (by assumption) | exact bk_6 (by assumption) | exact bk_7 (by assumption) | exact bk_8 (by assumption) | exact sh_ring _ (by first | assumption | omega) | exact sh_imgs _ (by first | assumption | omega)) ?_
      (try rw [bx1 hF])
      refine v_iret dX11_size_87 rfl rfl rfl rfl ?_
      exact hQ.fin h Hi.refl rfl (by rw [a_size, if_pos hk0, ek] <;> rfl)
    · refine v_iload_1 dX11_size_0 ?_
      refine v_tableIn (off := 87) (tgt := 88) dX11_size_1 (by decide) (by decide) rfl (by decide) ?_
      refine v_aload_0 dX11_size_88 ?_
      refine u_getR dX11_size_89 gf_X11_29 (by first | assumption | rfl | exact led_1 (by assumption) | exact led_2 (by assumption) | exact bk_m (by assumption) (by first | assumption | omega) | exact bk_p (by assumption) (by first | assumption | omega) | exact bk_o (by assumption) (by first | assumption | omega) | exact bk_s (by assumption) (by first | assumption | omega) | exact bk_1 (by assumption) | exact bk_2 (by assumption) | exact bk_3 (by assumption) | exact bk_4 (by assumption) | exact bk_5 (by assumption) | exact bk_6 (by assumption) | exact bk_7 (by assumption) | exact bk_8 (by assumption) | exact sh_ring _ (by first | assumption | omega) | exact sh_imgs _ (by first | assumption | omega)) (by assumption) ?_
      refine u_getI dX11_size_92 gf_X11_336 (by first | assumption | rfl | exact led_1 (by assumption) | exact led_2 (by assumption) | exact bk_m (by assumption) (by first | assumption | omega) | exact bk_p (by assumption) (by first | assumption | omega) | exact bk_o (by assumption) (by first | assumption | omega) | exact bk_s (by assumption) (by first | assumption | omega) | exact bk_1 (by assumption) | exact bk_2 (by assumption) | exact bk_3 (by assumption) | exact bk_4 (by assumption) | exact bk_5 (by assumption) | exact bk_6 (by assumption) | exact bk_7 (by assumption) | exact bk_8 (by assumption) | exact sh_ring _ (by first | assumption | omega) | exact sh_imgs _ (by first | assumption | omega)) ?_
      (try rw [bx4 hF])
      refine v_iret dX11_size_95 rfl rfl rfl rfl ?_
      exact hQ.fin h Hi.refl rfl (by rw [a_size, if_pos hk0, ek] <;> rfl)
    · refine v_iload_1 dX11_size_0 ?_
      refine v_tableIn (off := 95) (tgt := 96) dX11_size_1 (by decide) (by decide) rfl (by decide) ?_
      refine v_aload_0 dX11_size_96 ?_
      refine u_getR dX11_size_97 gf_X11_46 (by first | assumption | rfl | exact led_1 (by assumption) | exact led_2 (by assumption) | exact bk_m (by assumption) (by first | assumption | omega) | exact bk_p (by assumption) (by first | assumption | omega) | exact bk_o (by assumption) (by first | assumption | omega) | exact bk_s (by assumption) (by first | assumption | omega) | exact bk_1 (by assumption) | exact bk_2 (by assumption) | exact bk_3 (by assumption) | exact bk_4 (by assumption) | exact bk_5 (by assumption) | exact bk_6 (by assumption) | exact bk_7 (by assumption) | exact bk_8 (by assumption) | exact sh_ring _ (by first | assumption | omega) | exact sh_imgs _ (by first | assumption | omega)) (ro_X11_8 (by assumption)) ?_
      refine u_callV_0 dX11_size_100 ml_X11_113 mv_X1_now (by first | assumption | rfl | exact led_1 (by assumption) | exact led_2 (by assumption) | exact bk_m (by assumption) (by first | assumption | omega) | exact bk_p (by assumption) (by first | assumption | omega) | exact bk_o (by assumption) (by first | assumption | omega) | exact bk_s (by assumption) (by first | assumption | omega) | exact bk_1 (by assumption) | exact bk_2 (by assumption) | exact bk_3 (by assumption) | exact bk_4 (by assumption) | exact bk_5 (by assumption) | exact bk_6 (by assumption) | exact bk_7 (by assumption) | exact bk_8 (by assumption) | exact sh_ring _ (by first | assumption | omega) | exact sh_imgs _ (by first | assumption | omega)) (by decide) rfl (by decide) (Nat.le_of_ble_eq_true rfl) (c_X1_now hR h1 ht ?_)
      refine u_getI dX11_size_103 gf_X11_290 (by first | assumption | rfl | exact led_1 (by assumption) | exact led_2 (by assumption) | exact bk_m (by assumption) (by first | assumption | omega) | exact bk_p (by assumption) (by first | assumption | omega) | exact bk_o (by assumption) (by first | assumption | omega) | exact bk_s (by assumption) (by first | assumption | omega) | exact bk_1 (by assumption) | exact bk_2 (by assumption) | exact bk_3 (by assumption) | exact bk_4 (by assumption) | exact bk_5 (by assumption) | exact bk_6 (by assumption) | exact bk_7 (by assumption) | exact bk_8 (by assumption) | exact sh_ring _ (by first | assumption | omega) | exact sh_imgs _ (by first | assumption | omega)) ?_
      rw [hL.1.1]
      refine v_iret dX11_size_106 rfl rfl rfl rfl ?_
      exact hQ.fin h Hi.refl rfl (by rw [a_size, if_pos hk0, ek] <;> rfl)
    · refine v_iload_1 dX11_size_0 ?_
      refine v_tableIn (off := 106) (tgt := 107) dX11_size_1 (by decide) (by decide) rfl (by decide) ?_
      refine v_aload_0 dX11_size_107 ?_
      refine u_getR dX11_size_108 gf_X11_29 (by first | assumption | rfl | exact led_1 (by assumption) | exact led_2 (by assumption) | exact bk_m (by assumption) (by first | assumption | omega) | exact bk_p (by assumption) (by first | assumption | omega) | exact bk_o (by assumption) (by first | assumption | omega) | exact bk_s (by assumption) (by first | assumption | omega) | exact bk_1 (by assumption) | exact bk_2 (by assumption) | exact bk_3 (by assumption) | exact bk_4 (by assumption) | exact bk_5 (by assumption) | exact bk_6 (by assumption) | exact bk_7 (by assumption) | exact bk_8 (by assumption) | exact sh_ring _ (by first | assumption | omega) | exact sh_imgs _ (by first | assumption | omega)) (by assumption) ?_
      refine u_getI dX11_size_111 gf_X11_339 (by first | assumption | rfl | exact led_1 (by assumption) | exact led_2 (by assumption) | exact bk_m (by assumption) (by first | assumption | omega) | exact bk_p (by assumption) (by first | assumption | omega) | exact bk_o (by assumption) (by first | assumption | omega) | exact bk_s (by assumption) (by first | assumption | omega) | exact bk_1 (by assumption) | exact bk_2 (by assumption) | exact bk_3 (by assumption) | exact bk_4 (by assumption) | exact bk_5 (by assumption) | exact bk_6 (by assumption) | exact bk_7 (by assumption) | exact bk_8 (by assumption) | exact sh_ring _ (by first | assumption | omega) | exact sh_imgs _ (by first | assumption | omega)) ?_
      (try rw [bx5 hF])
      refine v_iret dX11_size_114 rfl rfl rfl rfl ?_
      exact hQ.fin h Hi.refl rfl (by rw [a_size, if_pos hk0, ek] <;> rfl)
    · refine v_iload_1 dX11_size_0 ?_
      refine v_tableIn (off := 114) (tgt := 115) dX11_size_1 (by decide) (by decide) rfl (by decide) ?_
      refine v_aload_0 dX11_size_115 ?_
      refine u_getR dX11_size_116 gf_X11_29 (by first | assumption | rfl | exact led_1 (by assumption) | exact led_2 (by assumption) | exact bk_m (by assumption) (by first | assumption | omega) | exact bk_p (by assumption) (by first | assumption | omega) | exact bk_o (by assumption) (by first | assumption | omega) | exact bk_s (by assumption) (by first | assumption | omega) | exact bk_1 (by assumption) | exact bk_2 (by assumption) | exact bk_3 (by assumption) | exact bk_4 (by assumption) | exact bk_5 (by assumption) | exact bk_6 (by assumption) | exact bk_7 (by assumption) | exact bk_8 (by assumption) | exact sh_ring _ (by first | assumption | omega) | exact sh_imgs _ (by first | assumption | omega)) (by assumption) ?_
      refine u_getI dX11_size_119 gf_X11_342 (by first | assumption | rfl | exact led_1 (by assumption) | exact led_2 (by assumption) | exact bk_m (by assumption) (by first | assumption | omega) | exact bk_p (by assumption) (by first | assumption | omega) | exact bk_o (by assumption) (by first | assumption | omega) | exact bk_s (by assumption) (by first | assumption | omega) | exact bk_1 (by assumption) | exact bk_2 (by assumption) | exact bk_3 (by assumption) | exact bk_4 (by assumption) | exact bk_5 (by assumption) | exact bk_6 (by assumption) | exact bk_7 (by assumption) | exact bk_8 (by assumption) | exact sh_ring _ (by first | assumption | omega) | exact sh_imgs _ (by first | assumption | omega)) ?_
      (try rw [bx6 hF])
      refine v_iret dX11_size_122 rfl rfl rfl rfl ?_
      exact hQ.fin h Hi.refl rfl (by rw [a_size, if_pos hk0, ek] <;> rfl)
    · refine v_iload_1 dX11_size_0 ?_
      refine v_tableIn (off := 122) (tgt := 123) dX11_size_1 (by decide) (by decide) rfl (by decide) ?_
      refine v_aload_0 dX11_size_123 ?_
      refine u_getR dX11_size_124 gf_X11_29 (by first | assumption | rfl | exact led_1 (by assumption) | exact led_2 (by assumption) | exact bk_m (by assumption) (by first | assumption | omega) | exact bk_p (by assumption) (by first | assumption | omega) | exact bk_o (by assumption) (by first | assumption | omega) | exact bk_s (by assumption) (by first | assumption | omega) | exact bk_1 (by assumption) | exact bk_2 (by assumption) | exact bk_3 (by assumption) | exact bk_4 (by assumption) | exact bk_5 (by assumption) | exact bk_6 (by assumption) | exact bk_7 (by assumption) | exact bk_8 (by assumption) | exact sh_ring _ (by first | assumption | omega) | exact sh_imgs _ (by first | assumption | omega)) (by assumption) ?_
      refine u_getI dX11_size_127 gf_X11_154 (by first | assumption | rfl | exact led_1 (by assumption) | exact led_2 (by assumption) | exact bk_m (by assumption) (by first | assumption | omega) | exact bk_p (by assumption) (by first | assumption | omega) | exact bk_o (by assumption) (by first | assumption | omega) | exact bk_s (by assumption) (by first | assumption | omega) | exact bk_1 (by assumption) | exact bk_2 (by assumption) | exact bk_3 (by assumption) | exact bk_4 (by assumption) | exact bk_5 (by assumption) | exact bk_6 (by assumption) | exact bk_7 (by assumption) | exact bk_8 (by assumption) | exact sh_ring _ (by first | assumption | omega) | exact sh_imgs _ (by first | assumption | omega)) ?_
      (try rw [bx0 hF])
      refine v_iret dX11_size_130 rfl rfl rfl rfl ?_
      exact hQ.fin h Hi.refl rfl (by rw [a_size, if_pos hk0, ek] <;> rfl)
    · refine v_iload_1 dX11_size_0 ?_
      refine v_tableIn (off := 130) (tgt := 131) dX11_size_1 (by decide) (by decide) rfl (by decide) ?_
      refine v_aload_0 dX11_size_131 ?_
      refine u_getR dX11_size_132 gf_X11_46 (by first | assumption | rfl | exact led_1 (by assumption) | exact led_2 (by assumption) | exact bk_m (by assumption) (by first | assumption | omega) | exact bk_p (by assumption) (by first | assumption | omega) | exact bk_o (by assumption) (by first | assumption | omega) | exact bk_s (by assumption) (by first | assumption | omega) | exact bk_1 (by assumption) | exact bk_2 (by assumption) | exact bk_3 (by assumption) | exact bk_4 (by assumption) | exact bk_5 (by assumption) | exact bk_6 (by assumption) | exact bk_7 (by assumption) | exact bk_8 (by assumption) | exact sh_ring _ (by first | assumption | omega) | exact sh_imgs _ (by first | assumption | omega)) (ro_X11_8 (by assumption)) ?_
      refine u_getI dX11_size_135 gf_X11_345 (by first | assumption | rfl | exact led_1 (by assumption) | exact led_2 (by assumption) | exact bk_m (by assumption) (by first | assumption | omega) | exact bk_p (by assumption) (by first | assumption | omega) | exact bk_o (by assumption) (by first | assumption | omega) | exact bk_s (by assumption) (by first | assumption | omega) | exact bk_1 (by assumption) | exact bk_2 (by assumption) | exact bk_3 (by assumption) | exact bk_4 (by assumption) | exact bk_5 (by assumption) | exact bk_6 (by assumption) | exact bk_7 (by assumption) | exact bk_8 (by assumption) | exact sh_ring _ (by first | assumption | omega) | exact sh_imgs _ (by first | assumption | omega)) ?_
      rw [h.2.2.2.2.2.1.2.2.1]
      refine v_iret dX11_size_138 rfl rfl rfl rfl ?_
      exact hQ.fin h Hi.refl rfl (by rw [a_size, if_pos hk0, ek] <;> rfl)
    · refine v_iload_1 dX11_size_0 ?_
      refine v_tableIn (off := 138) (tgt := 139) dX11_size_1 (by decide) (by decide) rfl (by decide) ?_
      refine v_aload_0 dX11_size_139 ?_
      refine u_getR dX11_size_140 gf_X11_46 (by first | assumption | rfl | exact led_1 (by assumption) | exact led_2 (by assumption) | exact bk_m (by assumption) (by first | assumption | omega) | exact bk_p (by assumption) (by first | assumption | omega) | exact bk_o (by assumption) (by first | assumption | omega) | exact bk_s (by assumption) (by first | assumption | omega) | exact bk_1 (by assumption) | exact bk_2 (by assumption) | exact bk_3 (by assumption) | exact bk_4 (by assumption) | exact bk_5 (by assumption) | exact bk_6 (by assumption) | exact bk_7 (by assumption) | exact bk_8 (by assumption) | exact sh_ring _ (by first | assumption | omega) | exact sh_imgs _ (by first | assumption | omega)) (ro_X11_8 (by assumption)) ?_
      refine u_getI dX11_size_143 gf_X11_348 (by first | assumption | rfl | exact led_1 (by assumption) | exact led_2 (by assumption) | exact bk_m (by assumption) (by first | assumption | omega) | exact bk_p (by assumption) (by first | assumption | omega) | exact bk_o (by assumption) (by first | assumption | omega) | exact bk_s (by assumption) (by first | assumption | omega) | exact bk_1 (by assumption) | exact bk_2 (by assumption) | exact bk_3 (by assumption) | exact bk_4 (by assumption) | exact bk_5 (by assumption) | exact bk_6 (by assumption) | exact bk_7 (by assumption) | exact bk_8 (by assumption) | exact sh_ring _ (by first | assumption | omega) | exact sh_imgs _ (by first | assumption | omega)) ?_
      rw [h.2.2.2.2.2.1.2.2.2.1]
      refine v_iret dX11_size_146 rfl rfl rfl rfl ?_
      exact hQ.fin h Hi.refl rfl (by rw [a_size, if_pos hk0, ek] <;> rfl)
    · refine v_iload_1 dX11_size_0 ?_
      refine v_tableIn (off := 146) (tgt := 147) dX11_size_1 (by decide) (by decide) rfl (by decide) ?_
      refine v_aload_0 dX11_size_147 ?_
      refine u_getR dX11_size_148 gf_X11_46 (by first | assumption | rfl | exact led_1 (by assumption) | exact led_2 (by assumption) | exact bk_m (by assumption) (by first | assumption | omega) | exact bk_p (by assumption) (by first | assumption | omega) | exact bk_o (by assumption) (by first | assumption | omega) | exact bk_s (by assumption) (by first | assumption | omega) | exact bk_1 (by assumption) | exact bk_2 (by assumption) | exact bk_3 (by assumption) | exact bk_4 (by assumption) | exact bk_5 (by assumption) | exact bk_6 (by assumption) | exact bk_7 (by assumption) | exact bk_8 (by assumption) | exact sh_ring _ (by first | assumption | omega) | exact sh_imgs _ (by first | assumption | omega)) (ro_X11_8 (by assumption)) ?_
      refine u_getI dX11_size_151 gf_X11_280 (by first | assumption | rfl | exact led_1 (by assumption) | exact led_2 (by assumption) | exact bk_m (by assumption) (by first | assumption | omega) | exact bk_p (by assumption) (by first | assumption | omega) | exact bk_o (by assumption) (by first | assumption | omega) | exact bk_s (by assumption) (by first | assumption | omega) | exact bk_1 (by assumption) | exact bk_2 (by assumption) | exact bk_3 (by assumption) | exact bk_4 (by assumption) | exact bk_5 (by assumption) | exact bk_6 (by assumption) | exact bk_7 (by assumption) | exact bk_8 (by assumption) | exact sh_ring _ (by first | assumption | omega) | exact sh_imgs _ (by first | assumption | omega)) ?_
      rw [h.2.2.2.2.2.2.1.1]
      refine v_iret dX11_size_154 rfl rfl rfl rfl ?_
      exact hQ.fin h Hi.refl rfl (by rw [a_size, if_pos hk0, ek] <;> rfl)
    · refine v_iload_1 dX11_size_0 ?_
      refine v_tableIn (off := 154) (tgt := 155) dX11_size_1 (by decide) (by decide) rfl (by decide) ?_
      refine v_aload_0 dX11_size_155 ?_
      refine u_getI dX11_size_156 gf_X11_13 (by first | assumption | rfl | exact led_1 (by assumption) | exact led_2 (by assumption) | exact bk_m (by assumption) (by first | assumption | omega) | exact bk_p (by assumption) (by first | assumption | omega) | exact bk_o (by assumption) (by first | assumption | omega) | exact bk_s (by assumption) (by first | assumption | omega) | exact bk_1 (by assumption) | exact bk_2 (by assumption) | exact bk_3 (by assumption) | exact bk_4 (by assumption) | exact bk_5 (by assumption) | exact bk_6 (by assumption) | exact bk_7 (by assumption) | exact bk_8 (by assumption) | exact sh_ring _ (by first | assumption | omega) | exact sh_imgs _ (by first | assumption | omega)) ?_
      rw [h.2.2.1.1]
      refine v_iret dX11_size_159 rfl rfl rfl rfl ?_
      exact hQ.fin h Hi.refl rfl (by rw [a_size, if_pos hk0, ek] <;> rfl)
  · have hk1 : x.toInt < 0 ∨ 11 < x.toInt := by
      simp only [inb, Bool.and_eq_true, decide_eq_true_eq, Int32.le_iff_toInt_le, Int32.lt_iff_toInt_lt, show (nI 12).toInt = 12 from rfl, show (0 : Int32).toInt = 0 from rfl] at hk0
      omega
    refine v_iload_1 dX11_size_0 ?_
    refine v_tableOut (tgt := 160) dX11_size_1 hk1 (by decide) ?_
    refine v_iconst (v := -1) dX11_size_160 (by decide) ?_
    refine v_iret dX11_size_161 rfl rfl rfl rfl ?_
    exact hQ.fin h Hi.refl rfl (by rw [a_size, if_neg hk0])
end
