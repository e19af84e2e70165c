section
variable {sb Ls b : Nat} {xs : Nat → Int32} {ad : Nat → Nat} {n : Nat} {I : HI} {L : HL} {R : HR} {x5 x6 : Option Value} {B B2 t : Nat} {tp : Nat → Nat} {nt tr fa pl : Nat} {F : bkF} {S : Nat → LSt} {u r : Nat} {im : Nat → LSt} {ic : Nat}
theorem lw_led (hLs : Ls ≤ 3072) (hn : 6 * n + 6 ≤ Ls) (h : ClsB I L R B B2 t tp nt tr fa pl F S u r im ic) (hr : RefB I tp nt tr fa pl F S u r im ic) (nxt : ∀ (I' : HI) (L' : HL) (R' : HR) (y5 y6 : Option Value), LJ I' L' R' → VG yL_law cL_law 7 (some .boolean) room_1 (PW sb Ls b xs) b ad false (172 + (n + 1)) (7753 + 6 * (n + 1)) 1689 [some (.ref sb), some (.ref (b + 0)), some (.ref (b + 157)), some (.ref (b + 171)), some (.int (nI (6 * n))), y5, y6] [] NN SH I' L' R') : VG yL_law cL_law 7 (some .boolean) room_1 (PW sb Ls b xs) b ad false (172 + n) (7753 + 6 * n) 1583 [some (.ref sb), some (.ref (b + 0)), some (.ref (b + 157)), some (.ref (b + 171)), some (.int (nI (6 * n))), x5, x6] [] NN SH I L R := by
  refine g_aload_1 dL_law_1583 ?_
  refine g_aload_0 dL_law_1584 ?_
  refine g_iload_4 dL_law_1585 ?_
  refine g_iconst (v := nI 1) dL_law_1587 (by decide) ?_
  refine g_iadd dL_law_1588 ?_
  rw [nI_add]
  refine g_sld dL_law_1589 (by omega) hLs ?_
  refine g_aload_0 dL_law_1590 ?_
  refine g_iload_4 dL_law_1591 ?_
  refine g_iconst (v := nI 2) dL_law_1593 (by decide) ?_
  refine g_iadd dL_law_1594 ?_
  rw [nI_add]
  refine g_sld dL_law_1595 (by omega) hLs ?_
  refine g_aload_3 dL_law_1596 ?_
  refine g_callLL h dL_law_1597 (by omega) (by omega) (Nat.le_of_ble_eq_true rfl) (fun q hq => ?_) (fun hq => ?_)
  · refine g_istore_5 rfl dL_law_1600 ?_
    refine g_aload_2 dL_law_1602 ?_
    refine g_aload_0 dL_law_1603 ?_
    refine g_iload_4 dL_law_1604 ?_
    refine g_iconst (v := nI 1) dL_law_1606 (by decide) ?_
    refine g_iadd dL_law_1607 ?_
    rw [nI_add]
    refine g_sld dL_law_1608 (by omega) hLs ?_
    refine g_aload_0 dL_law_1609 ?_
    refine g_iload_4 dL_law_1610 ?_
    refine g_iconst (v := nI 2) dL_law_1612 (by decide) ?_
    refine g_iadd dL_law_1613 ?_
    rw [nI_add]
    refine g_sld dL_law_1614 (by omega) hLs ?_
    refine g_callV_2 dL_law_1615 ml_L_191 mv_X12_led (by first | assumption | rfl | exact led_1 (by assumption) | exact led_2 (by assumption) | exact bk_m (by assumption) (by first | assumption | omega) | exact bk_p (by assumption) (by first | assumption | omega) | exact bk_o (by assumption) (by first | assumption | omega) | exact bk_s (by assumption) (by first | assumption | omega) | exact bk_1 (by assumption) | exact bk_2 (by assumption) | exact bk_3 (by assumption) | exact bk_4 (by assumption) | exact bk_5 (by assumption) | exact bk_6 (by assumption) | exact bk_7 (by assumption) | exact bk_8 (by assumption) | exact sh_ring _ (by first | assumption | omega) | exact sh_imgs _ (by first | assumption | omega)) (by first | decide | (show _ < 172; omega)) (by decide) rfl (by decide) (by decide) (by show _ ≤ 601024; omega) (by show _ ≤ 7293034; omega) (Nat.le_of_ble_eq_true rfl) (fun h => h) (r_led h.1 hr (fun J2 h2 e2 f2 => ?_))
    refine g_istore_6 rfl dL_law_1618 ?_
    refine g_aload_2 dL_law_1620 ?_
    refine g_callV_0 dL_law_1621 ml_L_192 mv_X12_thrown (by first | assumption | rfl | exact led_1 (by assumption) | exact led_2 (by assumption) | exact bk_m (by assumption) (by first | assumption | omega) | exact bk_p (by assumption) (by first | assumption | omega) | exact bk_o (by assumption) (by first | assumption | omega) | exact bk_s (by assumption) (by first | assumption | omega) | exact bk_1 (by assumption) | exact bk_2 (by assumption) | exact bk_3 (by assumption) | exact bk_4 (by assumption) | exact bk_5 (by assumption) | exact bk_6 (by assumption) | exact bk_7 (by assumption) | exact bk_8 (by assumption) | exact sh_ring _ (by first | assumption | omega) | exact sh_imgs _ (by first | assumption | omega)) (by first | decide | (show _ < 172; omega)) (by decide) rfl (by decide) (by decide) (by show _ ≤ 601024; omega) (by show _ ≤ 7293034; omega) (Nat.le_of_ble_eq_true rfl) (fun h => h) (c_X12_thrown ?_)
    rw [e2, hq]
    refine g_iload_5 dL_law_1624 ?_
    refine g_icmp_eq (tgt := 1631) dL_law_1626 (by decide) (fun hc1626 => ?_) (fun hc1626 => ?_)
    · skip
      refine g_iload_5 dL_law_1631 ?_
      refine g_if_ne (tgt := 1648) dL_law_1633 (by decide) (fun hc1633 => ?_) (fun hc1633 => ?_)
      · exact absurd rfl hc1633
      · skip
        refine g_aload_3 dL_law_1636 ?_
        refine g_iconst (v := nI 0) dL_law_1637 (by decide) ?_
        refine g_lald dL_law_1638 (show SH 171 = .inr (1, 1) from rfl) (by decide) (vp_in_nI (by decide) (by decide)) ?_
        rw [nI_clamp (by decide), ul_s]
        refine g_iload_6 dL_law_1639 ?_
        refine g_i2l dL_law_1641 ?_
        refine g_lcmp dL_law_1642 ?_
        refine g_if_eq (tgt := 1648) dL_law_1643 (by decide) (fun hc1643 => ?_) (fun hc1643 => ?_)
        · skip
          refine g_goto (tgt := 1689) dL_law_1648 (by decide) ?_
          exact VG.widen (by omega) (by omega) (nxt _ _ _ _ _ ⟨B, B2, t, _, _, _, _, _, _, _, _, _, _, _, h.lo f2 (fun x _ a => ul_ne a), h2⟩)
        · exact absurd (lg_cmp1 rfl) hc1643
    · exact absurd rfl hc1626
  · refine g_istore_5 rfl dL_law_1600 ?_
    refine g_aload_2 dL_law_1602 ?_
    refine g_aload_0 dL_law_1603 ?_
    refine g_iload_4 dL_law_1604 ?_
    refine g_iconst (v := nI 1) dL_law_1606 (by decide) ?_
    refine g_iadd dL_law_1607 ?_
    rw [nI_add]
    refine g_sld dL_law_1608 (by omega) hLs ?_
    refine g_aload_0 dL_law_1609 ?_
    refine g_iload_4 dL_law_1610 ?_
    refine g_iconst (v := nI 2) dL_law_1612 (by decide) ?_
    refine g_iadd dL_law_1613 ?_
    rw [nI_add]
    refine g_sld dL_law_1614 (by omega) hLs ?_
    refine g_callV_2 dL_law_1615 ml_L_191 mv_X12_led (by first | assumption | rfl | exact led_1 (by assumption) | exact led_2 (by assumption) | exact bk_m (by assumption) (by first | assumption | omega) | exact bk_p (by assumption) (by first | assumption | omega) | exact bk_o (by assumption) (by first | assumption | omega) | exact bk_s (by assumption) (by first | assumption | omega) | exact bk_1 (by assumption) | exact bk_2 (by assumption) | exact bk_3 (by assumption) | exact bk_4 (by assumption) | exact bk_5 (by assumption) | exact bk_6 (by assumption) | exact bk_7 (by assumption) | exact bk_8 (by assumption) | exact sh_ring _ (by first | assumption | omega) | exact sh_imgs _ (by first | assumption | omega)) (by first | decide | (show _ < 172; omega)) (by decide) rfl (by decide) (by decide) (by show _ ≤ 601024; omega) (by show _ ≤ 7293034; omega) (Nat.le_of_ble_eq_true rfl) (fun h => h) (r_led h.1 hr (fun J2 h2 e2 f2 => ?_))
    refine g_istore_6 rfl dL_law_1618 ?_
    refine g_aload_2 dL_law_1620 ?_
    refine g_callV_0 dL_law_1621 ml_L_192 mv_X12_thrown (by first | assumption | rfl | exact led_1 (by assumption) | exact led_2 (by assumption) | exact bk_m (by assumption) (by first | assumption | omega) | exact bk_p (by assumption) (by first | assumption | omega) | exact bk_o (by assumption) (by first | assumption | omega) | exact bk_s (by assumption) (by first | assumption | omega) | exact bk_1 (by assumption) | exact bk_2 (by assumption) | exact bk_3 (by assumption) | exact bk_4 (by assumption) | exact bk_5 (by assumption) | exact bk_6 (by assumption) | exact bk_7 (by assumption) | exact bk_8 (by assumption) | exact sh_ring _ (by first | assumption | omega) | exact sh_imgs _ (by first | assumption | omega)) (by first | decide | (show _ < 172; omega)) (by decide) rfl (by decide) (by decide) (by show _ ≤ 601024; omega) (by show _ ≤ 7293034; omega) (Nat.le_of_ble_eq_true rfl) (fun h => h) (c_X12_thrown ?_)
    rw [e2, hq]
    refine g_iload_5 dL_law_1624 ?_
    refine g_icmp_eq (tgt := 1631) dL_law_1626 (by decide) (fun hc1626 => ?_) (fun hc1626 => ?_)
    · skip
      refine g_iload_5 dL_law_1631 ?_
      refine g_if_ne (tgt := 1648) dL_law_1633 (by decide) (fun hc1633 => ?_) (fun hc1633 => ?_)
      · skip
        refine g_goto (tgt := 1689) dL_law_1648 (by decide) ?_
        exact VG.widen (by omega) (by omega) (nxt _ _ _ _ _ ⟨B, B2, t, _, _, _, _, _, _, _, _, _, _, _, h.lo f2 (fun _ _ _ => rfl), h2⟩)
      · exact absurd hc1633 (by decide)
    · exact absurd rfl hc1626
end
