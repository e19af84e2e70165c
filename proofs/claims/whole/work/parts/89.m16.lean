/-- what is told of a mask, besides the sights -/
def TlI (I : HI) (k : Nat) : Option (Nat × Option Nat) → Prop
  | none => I 157 k = -1
  | some (m, op) => I 157 k = nI m ∧ I 157 (k + 1) = eP op ∧ m < 64 ∧ ∀ p, op = some p → p < 64
def tl : Option (Nat × Option Nat) → Nat → Option Nat → Bool
  | none, _, _ => true
  | some (m0, o0), m, op => !decide (m = m0) || decide (op = o0)
theorem nIm1 {p : Nat} (h : p < 2 ^ 30) : ¬ nI p = (-1 : Int32) := fun q => by
  have h1 := nI_pos2 (i := p) (by omega)
  rw [q] at h1
  exact absurd h1 (by decide)
section
variable {b : Nat} {ad : Nat → Nat} {I J : HI} {L M : HL} {R : HR} {Q : QT} {F : bkF} {s : LSt} {a o : Nat}
theorem c_X12_isTold {m : Nat} {op : Option Nat} {t1 t2 : Option (Nat × Option Nat)} (h1 : TlI I 28 t1) (h2 : TlI I 30 t2) (hm : m < 64) (hop : ∀ p, op = some p → p < 64) (hQ : Q (some (.int (bI (tl t1 m op && tl t2 m op)))) SH I L R) : KK 0 mX12_isTold b ad [.ref (b + 157), .int (nI m), .int (eP op)] I L R Q := by
  have hop2 : ∀ p, op = some p → p < 2 ^ 31 := fun p q => by have := hop p q; omega
  refine K.of (M := mX12_isTold) (lv := [some (.ref (b + 157)), some (.int (nI m)), some (.int (eP op))]) (by decide) (Nat.le_of_ble_eq_true rfl) rfl ?_
  rcases t1 with _ | ⟨m1, o1⟩
  · rcases t2 with _ | ⟨m2, o2⟩
    · have h1 : I 157 28 = -1 := h1
      have h2 : I 157 30 = -1 := h2
      refine v_iload_1 dX12_isTold_0 ?_
      refine v_aload_0 dX12_isTold_1 ?_
      refine u_getI dX12_isTold_2 gf_X12_365 (by first | assumption | rfl | exact led_1 (by assumption) | exact led_2 (by assumption) | exact bk_m (by assumption) (by first | assumption | omega) | exact bk_p (by assumption) (by first | assumption | omega) | exact bk_o (by assumption) (by first | assumption | omega) | exact bk_s (by assumption) (by first | assumption | omega) | exact bk_1 (by assumption) | exact bk_2 (by assumption) | exact bk_3 (by assumption) | exact bk_4 (by assumption) | exact bk_5 (by assumption) | exact bk_6 (by assumption) | exact bk_7 (by assumption) | exact bk_8 (by assumption) | exact sh_ring _ (by first | assumption | omega) | exact sh_imgs _ (by first | assumption | omega)) ?_
      rw [h1]
      refine v_icmp_ne (tgt := 16) dX12_isTold_5 (by decide) (fun hc5 => ?_) (fun hc5 => ?_)
      · (try rw [nI_eq (by omega) (by omega)] at hc5)
        refine v_iload_1 dX12_isTold_16 ?_
        refine v_aload_0 dX12_isTold_17 ?_
        refine u_getI dX12_isTold_18 gf_X12_371 (by first | assumption | rfl | exact led_1 (by assumption) | exact led_2 (by assumption) | exact bk_m (by assumption) (by first | assumption | omega) | exact bk_p (by assumption) (by first | assumption | omega) | exact bk_o (by assumption) (by first | assumption | omega) | exact bk_s (by assumption) (by first | assumption | omega) | exact bk_1 (by assumption) | exact bk_2 (by assumption) | exact bk_3 (by assumption) | exact bk_4 (by assumption) | exact bk_5 (by assumption) | exact bk_6 (by assumption) | exact bk_7 (by assumption) | exact bk_8 (by assumption) | exact sh_ring _ (by first | assumption | omega) | exact sh_imgs _ (by first | assumption | omega)) ?_
        rw [h2]
        refine v_icmp_ne (tgt := 32) dX12_isTold_21 (by decide) (fun hc21 => ?_) (fun hc21 => ?_)
        · (try rw [nI_eq (by omega) (by omega)] at hc21)
          refine v_iconst (v := nI 1) dX12_isTold_32 (by decide) ?_
          refine v_goto (tgt := 37) dX12_isTold_33 (by decide) ?_
          refine v_zret dX12_isTold_37 (by first | rfl | exact bI_n _) rfl rfl rfl rfl ?_
          first
            | (have e : (tl none m op && tl none m op) = true := (by clear hQ; simp_all [tl]; done); rw [e] at hQ; exact hQ)
            | (have e : (tl none m op && tl none m op) = false := (by clear hQ; simp_all [tl]; done); rw [e] at hQ; exact hQ)
            | (have e : (tl none m op && tl none m op) = true := (by clear hQ; simp_all [tl]); rw [e] at hQ; exact hQ)
            | (have e : (tl none m op && tl none m op) = false := (by clear hQ; simp_all [tl]); rw [e] at hQ; exact hQ)
        · exact absurd hc21 (nIm1 (by omega))
      · exact absurd hc5 (nIm1 (by omega))
    · have h1 : I 157 28 = -1 := h1
      obtain ⟨c1, c2, c3, c4⟩ := h2
      have c4 : ∀ p, o2 = some p → p < 2 ^ 31 := fun p q => by have := c4 p q; omega
      refine v_iload_1 dX12_isTold_0 ?_
      refine v_aload_0 dX12_isTold_1 ?_
      refine u_getI dX12_isTold_2 gf_X12_365 (by first | assumption | rfl | exact led_1 (by assumption) | exact led_2 (by assumption) | exact bk_m (by assumption) (by first | assumption | omega) | exact bk_p (by assumption) (by first | assumption | omega) | exact bk_o (by assumption) (by first | assumption | omega) | exact bk_s (by assumption) (by first | assumption | omega) | exact bk_1 (by assumption) | exact bk_2 (by assumption) | exact bk_3 (by assumption) | exact bk_4 (by assumption) | exact bk_5 (by assumption) | exact bk_6 (by assumption) | exact bk_7 (by assumption) | exact bk_8 (by assumption) | exact sh_ring _ (by first | assumption | omega) | exact sh_imgs _ (by first | assumption | omega)) ?_
      rw [h1]
      refine v_icmp_ne (tgt := 16) dX12_isTold_5 (by decide) (fun hc5 => ?_) (fun hc5 => ?_)
      · (try rw [nI_eq (by omega) (by omega)] at hc5)
        refine v_iload_1 dX12_isTold_16 ?_
        refine v_aload_0 dX12_isTold_17 ?_
        refine u_getI dX12_isTold_18 gf_X12_371 (by first | assumption | rfl | exact led_1 (by assumption) | exact led_2 (by assumption) | exact bk_m (by assumption) (by first | assumption | omega) | exact bk_p (by assumption) (by first | assumption | omega) | exact bk_o (by assumption) (by first | assumption | omega) | exact bk_s (by assumption) (by first | assumption | omega) | exact bk_1 (by assumption) | exact bk_2 (by assumption) | exact bk_3 (by assumption) | exact bk_4 (by assumption) | exact bk_5 (by assumption) | exact bk_6 (by assumption) | exact bk_7 (by assumption) | exact bk_8 (by assumption) | exact sh_ring _ (by first | assumption | omega) | exact sh_imgs _ (by first | assumption | omega)) ?_
        rw [c1]
        refine v_icmp_ne (tgt := 32) dX12_isTold_21 (by decide) (fun hc21 => ?_) (fun hc21 => ?_)
        · (try rw [nI_eq (by omega) (by omega)] at hc21)
          refine v_iconst (v := nI 1) dX12_isTold_32 (by decide) ?_
          refine v_goto (tgt := 37) dX12_isTold_33 (by decide) ?_
          refine v_zret dX12_isTold_37 (by first | rfl | exact bI_n _) rfl rfl rfl rfl ?_
          first
            | (have e : (tl none m op && tl (some (m2, o2)) m op) = true := (by clear hQ; simp_all [tl]; done); rw [e] at hQ; exact hQ)
            | (have e : (tl none m op && tl (some (m2, o2)) m op) = false := (by clear hQ; simp_all [tl]; done); rw [e] at hQ; exact hQ)
            | (have e : (tl none m op && tl (some (m2, o2)) m op) = true := (by clear hQ; simp_all [tl]); rw [e] at hQ; exact hQ)
            | (have e : (tl none m op && tl (some (m2, o2)) m op) = false := (by clear hQ; simp_all [tl]); rw [e] at hQ; exact hQ)
        · (try rw [nI_eq (by omega) (by omega)] at hc21)
          refine v_iload_2 dX12_isTold_24 ?_
          refine v_aload_0 dX12_isTold_25 ?_
          refine u_getI dX12_isTold_26 gf_X12_374 (by first | assumption | rfl | exact led_1 (by assumption) | exact led_2 (by assumption) | exact bk_m (by assumption) (by first | assumption | omega) | exact bk_p (by assumption) (by first | assumption | omega) | exact bk_o (by assumption) (by first | assumption | omega) | exact bk_s (by assumption) (by first | assumption | omega) | exact bk_1 (by assumption) | exact bk_2 (by assumption) | exact bk_3 (by assumption) | exact bk_4 (by assumption) | exact bk_5 (by assumption) | exact bk_6 (by assumption) | exact bk_7 (by assumption) | exact bk_8 (by assumption) | exact sh_ring _ (by first | assumption | omega) | exact sh_imgs _ (by first | assumption | omega)) ?_
          rw [show I 157 31 = _ from c2]
          refine v_icmp_ne (tgt := 36) dX12_isTold_29 (by decide) (fun hc29 => ?_) (fun hc29 => ?_)
          · rw [eP_inj hop2 c4] at hc29
            refine v_iconst (v := nI 0) dX12_isTold_36 (by decide) ?_
            refine v_zret dX12_isTold_37 (by first | rfl | exact bI_n _) rfl rfl rfl rfl ?_
            first
              | (have e : (tl none m op && tl (some (m2, o2)) m op) = true := (by clear hQ; simp_all [tl]; done); rw [e] at hQ; exact hQ)
              | (have e : (tl none m op && tl (some (m2, o2)) m op) = false := (by clear hQ; simp_all [tl]; done); rw [e] at hQ; exact hQ)
              | (have e : (tl none m op && tl (some (m2, o2)) m op) = true := (by clear hQ; simp_all [tl]); rw [e] at hQ; exact hQ)
              | (have e : (tl none m op && tl (some (m2, o2)) m op) = false := (by clear hQ; simp_all [tl]); rw [e] at hQ; exact hQ)
          · rw [eP_inj hop2 c4] at hc29
            refine v_iconst (v := nI 1) dX12_isTold_32 (by decide) ?_
            refine v_goto (tgt := 37) dX12_isTold_33 (by decide) ?_
            refine v_zret dX12_isTold_37 (by first | rfl | exact bI_n _) rfl rfl rfl rfl ?_
            first
              | (have e : (tl none m op && tl (some (m2, o2)) m op) = true := (by clear hQ; simp_all [tl]; done); rw [e] at hQ; exact hQ)
              | (have e : (tl none m op && tl (some (m2, o2)) m op) = false := (by clear hQ; simp_all [tl]; done); rw [e] at hQ; exact hQ)
              | (have e : (tl none m op && tl (some (m2, o2)) m op) = true := (by clear hQ; simp_all [tl]); rw [e] at hQ; exact hQ)
              | (have e : (tl none m op && tl (some (m2, o2)) m op) = false := (by clear hQ; simp_all [tl]); rw [e] at hQ; exact hQ)
      · exact absurd hc5 (nIm1 (by omega))
  · rcases t2 with _ | ⟨m2, o2⟩
    · obtain ⟨a1, a2, a3, a4⟩ := h1
      have a4 : ∀ p, o1 = some p → p < 2 ^ 31 := fun p q => by have := a4 p q; omega
      have h2 : I 157 30 = -1 := h2
      refine v_iload_1 dX12_isTold_0 ?_
      refine v_aload_0 dX12_isTold_1 ?_
      refine u_getI dX12_isTold_2 gf_X12_365 (by first | assumption | rfl | exact led_1 (by assumption) | exact led_2 (by assumption) | exact bk_m (by assumption) (by first | assumption | omega) | exact bk_p (by assumption) (by first | assumption | omega) | exact bk_o (by assumption) (by first | assumption | omega) | exact bk_s (by assumption) (by first | assumption | omega) | exact bk_1 (by assumption) | exact bk_2 (by assumption) | exact bk_3 (by assumption) | exact bk_4 (by assumption) | exact bk_5 (by assumption) | exact bk_6 (by assumption) | exact bk_7 (by assumption) | exact bk_8 (by assumption) | exact sh_ring _ (by first | assumption | omega) | exact sh_imgs _ (by first | assumption | omega)) ?_
      rw [a1]
      refine v_icmp_ne (tgt := 16) dX12_isTold_5 (by decide) (fun hc5 => ?_) (fun hc5 => ?_)
      · (try rw [nI_eq (by omega) (by omega)] at hc5)
        refine v_iload_1 dX12_isTold_16 ?_
        refine v_aload_0 dX12_isTold_17 ?_
        refine u_getI dX12_isTold_18 gf_X12_371 (by first | assumption | rfl | exact led_1 (by assumption) | exact led_2 (by assumption) | exact bk_m (by assumption) (by first | assumption | omega) | exact bk_p (by assumption) (by first | assumption | omega) | exact bk_o (by assumption) (by first | assumption | omega) | exact bk_s (by assumption) (by first | assumption | omega) | exact bk_1 (by assumption) | exact bk_2 (by assumption) | exact bk_3 (by assumption) | exact bk_4 (by assumption) | exact bk_5 (by assumption) | exact bk_6 (by assumption) | exact bk_7 (by assumption) | exact bk_8 (by assumption) | exact sh_ring _ (by first | assumption | omega) | exact sh_imgs _ (by first | assumption | omega)) ?_
        rw [h2]
        refine v_icmp_ne (tgt := 32) dX12_isTold_21 (by decide) (fun hc21 => ?_) (fun hc21 => ?_)
        · (try rw [nI_eq (by omega) (by omega)] at hc21)
          refine v_iconst (v := nI 1) dX12_isTold_32 (by decide) ?_
          refine v_goto (tgt := 37) dX12_isTold_33 (by decide) ?_
          refine v_zret dX12_isTold_37 (by first | rfl | exact bI_n _) rfl rfl rfl rfl ?_
          first
            | (have e : (tl (some (m1, o1)) m op && tl none m op) = true := (by clear hQ; simp_all [tl]; done); rw [e] at hQ; exact hQ)
            | (have e : (tl (some (m1, o1)) m op && tl none m op) = false := (by clear hQ; simp_all [tl]; done); rw [e] at hQ; exact hQ)
            | (have e : (tl (some (m1, o1)) m op && tl none m op) = true := (by clear hQ; simp_all [tl]); rw [e] at hQ; exact hQ)
            | (have e : (tl (some (m1, o1)) m op && tl none m op) = false := (by clear hQ; simp_all [tl]); rw [e] at hQ; exact hQ)
        · exact absurd hc21 (nIm1 (by omega))
      · (try rw [nI_eq (by omega) (by omega)] at hc5)
        refine v_iload_2 dX12_isTold_8 ?_
        refine v_aload_0 dX12_isTold_9 ?_
        refine u_getI dX12_isTold_10 gf_X12_368 (by first | assumption | rfl | exact led_1 (by assumption) | exact led_2 (by assumption) | exact bk_m (by assumption) (by first | assumption | omega) | exact bk_p (by assumption) (by first | assumption | omega) | exact bk_o (by assumption) (by first | assumption | omega) | exact bk_s (by assumption) (by first | assumption | omega) | exact bk_1 (by assumption) | exact bk_2 (by assumption) | exact bk_3 (by assumption) | exact bk_4 (by assumption) | exact bk_5 (by assumption) | exact bk_6 (by assumption) | exact bk_7 (by assumption) | exact bk_8 (by assumption) | exact sh_ring _ (by first | assumption | omega) | exact sh_imgs _ (by first | assumption | omega)) ?_
        rw [show I 157 29 = _ from a2]
        refine v_icmp_ne (tgt := 36) dX12_isTold_13 (by decide) (fun hc13 => ?_) (fun hc13 => ?_)
        · rw [eP_inj hop2 a4] at hc13
          refine v_iconst (v := nI 0) dX12_isTold_36 (by decide) ?_
          refine v_zret dX12_isTold_37 (by first | rfl | exact bI_n _) rfl rfl rfl rfl ?_
          first
            | (have e : (tl (some (m1, o1)) m op && tl none m op) = true := (by clear hQ; simp_all [tl]; done); rw [e] at hQ; exact hQ)
            | (have e : (tl (some (m1, o1)) m op && tl none m op) = false := (by clear hQ; simp_all [tl]; done); rw [e] at hQ; exact hQ)
            | (have e : (tl (some (m1, o1)) m op && tl none m op) = true := (by clear hQ; simp_all [tl]); rw [e] at hQ; exact hQ)
            | (have e : (tl (some (m1, o1)) m op && tl none m op) = false := (by clear hQ; simp_all [tl]); rw [e] at hQ; exact hQ)
        · rw [eP_inj hop2 a4] at hc13
          refine v_iload_1 dX12_isTold_16 ?_
          refine v_aload_0 dX12_isTold_17 ?_
          refine u_getI dX12_isTold_18 gf_X12_371 (by first | assumption | rfl | exact led_1 (by assumption) | exact led_2 (by assumption) | exact bk_m (by assumption) (by first | assumption | omega) | exact bk_p (by assumption) (by first | assumption | omega) | exact bk_o (by assumption) (by first | assumption | omega) | exact bk_s (by assumption) (by first | assumption | omega) | exact bk_1 (by assumption) | exact bk_2 (by assumption) | exact bk_3 (by assumption) | exact bk_4 (by assumption) | exact bk_5 (by assumption) | exact bk_6 (by assumption) | exact bk_7 (by assumption) | exact bk_8 (by assumption) | exact sh_ring _ (by first | assumption | omega) | exact sh_imgs _ (by first | assumption | omega)) ?_
          rw [h2]
          refine v_icmp_ne (tgt := 32) dX12_isTold_21 (by decide) (fun hc21 => ?_) (fun hc21 => ?_)
          · (try rw [nI_eq (by omega) (by omega)] at hc21)
            refine v_iconst (v := nI 1) dX12_isTold_32 (by decide) ?_
            refine v_goto (tgt := 37) dX12_isTold_33 (by decide) ?_
            refine v_zret dX12_isTold_37 (by first | rfl | exact bI_n _) rfl rfl rfl rfl ?_
            first
              | (have e : (tl (some (m1, o1)) m op && tl none m op) = true := (by clear hQ; simp_all [tl]; done); rw [e] at hQ; exact hQ)
              | (have e : (tl (some (m1, o1)) m op && tl none m op) = false := (by clear hQ; simp_all [tl]; done); rw [e] at hQ; exact hQ)
              | (have e : (tl (some (m1, o1)) m op && tl none m op) = true := (by clear hQ; simp_all [tl]); rw [e] at hQ; exact hQ)
              | (have e : (tl (some (m1, o1)) m op && tl none m op) = false := (by clear hQ; simp_all [tl]); rw [e] at hQ; exact hQ)
          · exact absurd hc21 (nIm1 (by omega))
    · obtain ⟨a1, a2, a3, a4⟩ := h1
      have a4 : ∀ p, o1 = some p → p < 2 ^ 31 := fun p q => by have := a4 p q; omega
      obtain ⟨c1, c2, c3, c4⟩ := h2
      have c4 : ∀ p, o2 = some p → p < 2 ^ 31 := fun p q => by have := c4 p q; omega
      refine v_iload_1 dX12_isTold_0 ?_
      refine v_aload_0 dX12_isTold_1 ?_
      refine u_getI dX12_isTold_2 gf_X12_365 (by first | assumption | rfl | exact led_1 (by assumption) | exact led_2 (by assumption) | exact bk_m (by assumption) (by first | assumption | omega) | exact bk_p (by assumption) (by first | assumption | omega) | exact bk_o (by assumption) (by first | assumption | omega) | exact bk_s (by assumption) (by first | assumption | omega) | exact bk_1 (by assumption) | exact bk_2 (by assumption) | exact bk_3 (by assumption) | exact bk_4 (by assumption) | exact bk_5 (by assumption) | exact bk_6 (by assumption) | exact bk_7 (by assumption) | exact bk_8 (by assumption) | exact sh_ring _ (by first | assumption | omega) | exact sh_imgs _ (by first | assumption | omega)) ?_
      rw [a1]
      refine v_icmp_ne (tgt := 16) dX12_isTold_5 (by decide) (fun hc5 => ?_) (fun hc5 => ?_)
      · (try rw [nI_eq (by omega) (by omega)] at hc5)
        refine v_iload_1 dX12_isTold_16 ?_
        refine v_aload_0 dX12_isTold_17 ?_
        refine u_getI dX12_isTold_18 gf_X12_371 (by first | assumption | rfl | exact led_1 (by assumption) | exact led_2 (by assumption) | exact bk_m (by assumption) (by first | assumption | omega) | exact bk_p (by assumption) (by first | assumption | omega) | exact bk_o (by assumption) (by first | assumption | omega) | exact bk_s (by assumption) (by first | assumption | omega) | exact bk_1 (by assumption) | exact bk_2 (by assumption) | exact bk_3 (by assumption) | exact bk_4 (by assumption) | exact bk_5 (by assumption) | exact bk_6 (by assumption) | exact bk_7 (by assumption) | exact bk_8 (by assumption) | exact sh_ring _ (by first | assumption | omega) | exact sh_imgs _ (by first | assumption | omega)) ?_
        rw [c1]
        refine v_icmp_ne (tgt := 32) dX12_isTold_21 (by decide) (fun hc21 => ?_) (fun hc21 => ?_)
        · (try rw [nI_eq (by omega) (by omega)] at hc21)
          refine v_iconst (v := nI 1) dX12_isTold_32 (by decide) ?_
          refine v_goto (tgt := 37) dX12_isTold_33 (by decide) ?_
          refine v_zret dX12_isTold_37 (by first | rfl | exact bI_n _) rfl rfl rfl rfl ?_
          first
            | (have e : (tl (some (m1, o1)) m op && tl (some (m2, o2)) m op) = true := (by clear hQ; simp_all [tl]; done); rw [e] at hQ; exact hQ)
            | (have e : (tl (some (m1, o1)) m op && tl (some (m2, o2)) m op) = false := (by clear hQ; simp_all [tl]; done); rw [e] at hQ; exact hQ)
            | (have e : (tl (some (m1, o1)) m op && tl (some (m2, o2)) m op) = true := (by clear hQ; simp_all [tl]); rw [e] at hQ; exact hQ)
            | (have e : (tl (some (m1, o1)) m op && tl (some (m2, o2)) m op) = false := (by clear hQ; simp_all [tl]); rw [e] at hQ; exact hQ)
        · (try rw [nI_eq (by omega) (by omega)] at hc21)
          refine v_iload_2 dX12_isTold_24 ?_
          refine v_aload_0 dX12_isTold_25 ?_
          refine u_getI dX12_isTold_26 gf_X12_374 (by first | assumption | rfl | exact led_1 (by assumption) | exact led_2 (by assumption) | exact bk_m (by assumption) (by first | assumption | omega) | exact bk_p (by assumption) (by first | assumption | omega) | exact bk_o (by assumption) (by first | assumption | omega) | exact bk_s (by assumption) (by first | assumption | omega) | exact bk_1 (by assumption) | exact bk_2 (by assumption) | exact bk_3 (by assumption) | exact bk_4 (by assumption) | exact bk_5 (by assumption) | exact bk_6 (by assumption) | exact bk_7 (by assumption) | exact bk_8 (by assumption) | exact sh_ring _ (by first | assumption | omega) | exact sh_imgs _ (by first | assumption | omega)) ?_
          rw [show I 157 31 = _ from c2]
          refine v_icmp_ne (tgt := 36) dX12_isTold_29 (by decide) (fun hc29 => ?_) (fun hc29 => ?_)
          · rw [eP_inj hop2 c4] at hc29
            refine v_iconst (v := nI 0) dX12_isTold_36 (by decide) ?_
            refine v_zret dX12_isTold_37 (by first | rfl | exact bI_n _) rfl rfl rfl rfl ?_
            first
              | (have e : (tl (some (m1, o1)) m op && tl (some (m2, o2)) m op) = true := (by clear hQ; simp_all [tl]; done); rw [e] at hQ; exact hQ)
              | (have e : (tl (some (m1, o1)) m op && tl (some (m2, o2)) m op) = false := (by clear hQ; simp_all [tl]; done); rw [e] at hQ; exact hQ)
              | (have e : (tl (some (m1, o1)) m op && tl (some (m2, o2)) m op) = true := (by clear hQ; simp_all [tl]); rw [e] at hQ; exact hQ)
              | (have e : (tl (some (m1, o1)) m op && tl (some (m2, o2)) m op) = false := (by clear hQ; simp_all [tl]); rw [e] at hQ; exact hQ)
          · rw [eP_inj hop2 c4] at hc29
            refine v_iconst (v := nI 1) dX12_isTold_32 (by decide) ?_
            refine v_goto (tgt := 37) dX12_isTold_33 (by decide) ?_
            refine v_zret dX12_isTold_37 (by first | rfl | exact bI_n _) rfl rfl rfl rfl ?_
            first
              | (have e : (tl (some (m1, o1)) m op && tl (some (m2, o2)) m op) = true := (by clear hQ; simp_all [tl]; done); rw [e] at hQ; exact hQ)
              | (have e : (tl (some (m1, o1)) m op && tl (some (m2, o2)) m op) = false := (by clear hQ; simp_all [tl]; done); rw [e] at hQ; exact hQ)
              | (have e : (tl (some (m1, o1)) m op && tl (some (m2, o2)) m op) = true := (by clear hQ; simp_all [tl]); rw [e] at hQ; exact hQ)
              | (have e : (tl (some (m1, o1)) m op && tl (some (m2, o2)) m op) = false := (by clear hQ; simp_all [tl]); rw [e] at hQ; exact hQ)
      · (try rw [nI_eq (by omega) (by omega)] at hc5)
        refine v_iload_2 dX12_isTold_8 ?_
        refine v_aload_0 dX12_isTold_9 ?_
        refine u_getI dX12_isTold_10 gf_X12_368 (by first | assumption | rfl | exact led_1 (by assumption) | exact led_2 (by assumption) | exact bk_m (by assumption) (by first | assumption | omega) | exact bk_p (by assumption) (by first | assumption | omega) | exact bk_o (by assumption) (by first | assumption | omega) | exact bk_s (by assumption) (by first | assumption | omega) | exact bk_1 (by assumption) | exact bk_2 (by assumption) | exact bk_3 (by assumption) | exact bk_4 (by assumption) | exact bk_5 (by assumption) | exact bk_6 (by assumption) | exact bk_7 (by assumption) | exact bk_8 (by assumption) | exact sh_ring _ (by first | assumption | omega) | exact sh_imgs _ (by first | assumption | omega)) ?_
        rw [show I 157 29 = _ from a2]
        refine v_icmp_ne (tgt := 36) dX12_isTold_13 (by decide) (fun hc13 => ?_) (fun hc13 => ?_)
        · rw [eP_inj hop2 a4] at hc13
          refine v_iconst (v := nI 0) dX12_isTold_36 (by decide) ?_
          refine v_zret dX12_isTold_37 (by first | rfl | exact bI_n _) rfl rfl rfl rfl ?_
          first
            | (have e : (tl (some (m1, o1)) m op && tl (some (m2, o2)) m op) = true := (by clear hQ; simp_all [tl]; done); rw [e] at hQ; exact hQ)
            | (have e : (tl (some (m1, o1)) m op && tl (some (m2, o2)) m op) = false := (by clear hQ; simp_all [tl]; done); rw [e] at hQ; exact hQ)
            | (have e : (tl (some (m1, o1)) m op && tl (some (m2, o2)) m op) = true := (by clear hQ; simp_all [tl]); rw [e] at hQ; exact hQ)
            | (have e : (tl (some (m1, o1)) m op && tl (some (m2, o2)) m op) = false := (by clear hQ; simp_all [tl]); rw [e] at hQ; exact hQ)
        · rw [eP_inj hop2 a4] at hc13
          refine v_iload_1 dX12_isTold_16 ?_
          refine v_aload_0 dX12_isTold_17 ?_
          refine u_getI dX12_isTold_18 gf_X12_371 (by first | assumption | rfl | exact led_1 (by assumption) | exact led_2 (by assumption) | exact bk_m (by assumption) (by first | assumption | omega) | exact bk_p (by assumption) (by first | assumption | omega) | exact bk_o (by assumption) (by first | assumption | omega) | exact bk_s (by assumption) (by first | assumption | omega) | exact bk_1 (by assumption) | exact bk_2 (by assumption) | exact bk_3 (by assumption) | exact bk_4 (by assumption) | exact bk_5 (by assumption) | exact bk_6 (by assumption) | exact bk_7 (by assumption) | exact bk_8 (by assumption) | exact sh_ring _ (by first | assumption | omega) | exact sh_imgs _ (by first | assumption | omega)) ?_
          rw [c1]
          refine v_icmp_ne (tgt := 32) dX12_isTold_21 (by decide) (fun hc21 => ?_) (fun hc21 => ?_)
          · (try rw [nI_eq (by omega) (by omega)] at hc21)
            refine v_iconst (v := nI 1) dX12_isTold_32 (by decide) ?_
            refine v_goto (tgt := 37) dX12_isTold_33 (by decide) ?_
            refine v_zret dX12_isTold_37 (by first | rfl | exact bI_n _) rfl rfl rfl rfl ?_
            first
              | (have e : (tl (some (m1, o1)) m op && tl (some (m2, o2)) m op) = true := (by clear hQ; simp_all [tl]; done); rw [e] at hQ; exact hQ)
              | (have e : (tl (some (m1, o1)) m op && tl (some (m2, o2)) m op) = false := (by clear hQ; simp_all [tl]; done); rw [e] at hQ; exact hQ)
              | (have e : (tl (some (m1, o1)) m op && tl (some (m2, o2)) m op) = true := (by clear hQ; simp_all [tl]); rw [e] at hQ; exact hQ)
              | (have e : (tl (some (m1, o1)) m op && tl (some (m2, o2)) m op) = false := (by clear hQ; simp_all [tl]); rw [e] at hQ; exact hQ)
          · (try rw [nI_eq (by omega) (by omega)] at hc21)
            refine v_iload_2 dX12_isTold_24 ?_
            refine v_aload_0 dX12_isTold_25 ?_
            refine u_getI dX12_isTold_26 gf_X12_374 (by first | assumption | rfl | exact led_1 (by assumption) | exact led_2 (by assumption) | exact bk_m (by assumption) (by first | assumption | omega) | exact bk_p (by assumption) (by first | assumption | omega) | exact bk_o (by assumption) (by first | assumption | omega) | exact bk_s (by assumption) (by first | assumption | omega) | exact bk_1 (by assumption) | exact bk_2 (by assumption) | exact bk_3 (by assumption) | exact bk_4 (by assumption) | exact bk_5 (by assumption) | exact bk_6 (by assumption) | exact bk_7 (by assumption) | exact bk_8 (by assumption) | exact sh_ring _ (by first | assumption | omega) | exact sh_imgs _ (by first | assumption | omega)) ?_
            rw [show I 157 31 = _ from c2]
            refine v_icmp_ne (tgt := 36) dX12_isTold_29 (by decide) (fun hc29 => ?_) (fun hc29 => ?_)
            · rw [eP_inj hop2 c4] at hc29
              refine v_iconst (v := nI 0) dX12_isTold_36 (by decide) ?_
              refine v_zret dX12_isTold_37 (by first | rfl | exact bI_n _) rfl rfl rfl rfl ?_
              first
                | (have e : (tl (some (m1, o1)) m op && tl (some (m2, o2)) m op) = true := (by clear hQ; simp_all [tl]; done); rw [e] at hQ; exact hQ)
                | (have e : (tl (some (m1, o1)) m op && tl (some (m2, o2)) m op) = false := (by clear hQ; simp_all [tl]; done); rw [e] at hQ; exact hQ)
                | (have e : (tl (some (m1, o1)) m op && tl (some (m2, o2)) m op) = true := (by clear hQ; simp_all [tl]); rw [e] at hQ; exact hQ)
                | (have e : (tl (some (m1, o1)) m op && tl (some (m2, o2)) m op) = false := (by clear hQ; simp_all [tl]); rw [e] at hQ; exact hQ)
            · rw [eP_inj hop2 c4] at hc29
              refine v_iconst (v := nI 1) dX12_isTold_32 (by decide) ?_
              refine v_goto (tgt := 37) dX12_isTold_33 (by decide) ?_
              refine v_zret dX12_isTold_37 (by first | rfl | exact bI_n _) rfl rfl rfl rfl ?_
              first
                | (have e : (tl (some (m1, o1)) m op && tl (some (m2, o2)) m op) = true := (by clear hQ; simp_all [tl]; done); rw [e] at hQ; exact hQ)
                | (have e : (tl (some (m1, o1)) m op && tl (some (m2, o2)) m op) = false := (by clear hQ; simp_all [tl]; done); rw [e] at hQ; exact hQ)
                | (have e : (tl (some (m1, o1)) m op && tl (some (m2, o2)) m op) = true := (by clear hQ; simp_all [tl]); rw [e] at hQ; exact hQ)
                | (have e : (tl (some (m1, o1)) m op && tl (some (m2, o2)) m op) = false := (by clear hQ; simp_all [tl]); rw [e] at hQ; exact hQ)
theorem c_X12_tellNone (hQ : Q none SH (ui (ui I 157 28 (-1)) 157 30 (-1)) L R) : KK 0 mX12_tellNone b ad [.ref (b + 157)] I L R Q := by
  refine K.of (M := mX12_tellNone) (lv := [some (.ref (b + 157))]) (by decide) (Nat.le_of_ble_eq_true rfl) rfl ?_
  refine v_aload_0 dX12_tellNone_0 ?_
  refine v_iconst (v := -1) dX12_tellNone_1 (by decide) ?_
  refine u_putI dX12_tellNone_2 gf_X12_365 (by first | assumption | rfl | exact led_1 (by assumption) | exact led_2 (by assumption) | exact bk_m (by assumption) (by first | assumption | omega) | exact bk_p (by assumption) (by first | assumption | omega) | exact bk_o (by assumption) (by first | assumption | omega) | exact bk_s (by assumption) (by first | assumption | omega) | exact bk_1 (by assumption) | exact bk_2 (by assumption) | exact bk_3 (by assumption) | exact bk_4 (by assumption) | exact bk_5 (by assumption) | exact bk_6 (by assumption) | exact bk_7 (by assumption) | exact bk_8 (by assumption) | exact sh_ring _ (by first | assumption | omega) | exact sh_imgs _ (by first | assumption | omega)) rfl rfl rfl ?_
  refine v_aload_0 dX12_tellNone_5 ?_
  refine v_iconst (v := -1) dX12_tellNone_6 (by decide) ?_
  refine u_putI dX12_tellNone_7 gf_X12_371 (by first | assumption | rfl | exact led_1 (by assumption) | exact led_2 (by assumption) | exact bk_m (by assumption) (by first | assumption | omega) | exact bk_p (by assumption) (by first | assumption | omega) | exact bk_o (by assumption) (by first | assumption | omega) | exact bk_s (by assumption) (by first | assumption | omega) | exact bk_1 (by assumption) | exact bk_2 (by assumption) | exact bk_3 (by assumption) | exact bk_4 (by assumption) | exact bk_5 (by assumption) | exact bk_6 (by assumption) | exact bk_7 (by assumption) | exact bk_8 (by assumption) | exact sh_ring _ (by first | assumption | omega) | exact sh_imgs _ (by first | assumption | omega)) rfl rfl rfl ?_
  refine v_vret dX12_tellNone_10 rfl rfl rfl rfl ?_
  exact hQ
theorem c_X12_sightsOf {d : Nat} (hR : RO R) (hr : RfI I F s) (hd : d < 2 ^ 31) (hQ : Q (some (.int (nI (ofd F d)))) SH I L R) : KK 1 mX12_sightsOf b ad [.ref (b + 157), .int (nI d)] I L R Q := by
  have hO := hr.1.2.2.1
  have o2 := hO.2.2.1
  have o3 := hO.2.2.2.1
  have o5 := hO.2.2.2.2.2.1
  have o0 := hO.1
  have hF := hr.1.1.2
  have hS := hr.2.1
  have hK := hr.2.2
  have loop : ∀ (j i a : Nat), i + j = F 5 → bup (fun s => decide (F (129 + 5 * s) = d)) i j a = ofd F d → VV yX12_sightsOf cX12_sightsOf 4 (some .int) 1 Q b ad 4 [some (.ref (b + 157)), some (.int (nI d)), some (.int (nI a)), some (.int (nI i))] [] I L R := by
    intro j
    induction j with
    | zero =>
      intro i a hi he
      have he : a = _ := he
      subst he
      refine v_iload_3 dX12_sightsOf_4 ?_
      refine v_aload_0 dX12_sightsOf_5 ?_
      refine u_getR dX12_sightsOf_6 gf_X12_20 (by first | assumption | rfl | exact led_1 (by assumption) | exact led_2 (by assumption) | exact bk_m (by assumption) (by first | assumption | omega) | exact bk_p (by assumption) (by first | assumption | omega) | exact bk_o (by assumption) (by first | assumption | omega) | exact bk_s (by assumption) (by first | assumption | omega) | exact bk_1 (by assumption) | exact bk_2 (by assumption) | exact bk_3 (by assumption) | exact bk_4 (by assumption) | exact bk_5 (by assumption) | exact bk_6 (by assumption) | exact bk_7 (by assumption) | exact bk_8 (by assumption) | exact sh_ring _ (by first | assumption | omega) | exact sh_imgs _ (by first | assumption | omega)) (ro_X12_15 (by assumption)) ?_
      refine v_iconst (v := nI 5) dX12_sightsOf_9 (by decide) ?_
      refine u_iald dX12_sightsOf_10 (by first | assumption | rfl | exact led_1 (by assumption) | exact led_2 (by assumption) | exact bk_m (by assumption) (by first | assumption | omega) | exact bk_p (by assumption) (by first | assumption | omega) | exact bk_o (by assumption) (by first | assumption | omega) | exact bk_s (by assumption) (by first | assumption | omega) | exact bk_1 (by assumption) | exact bk_2 (by assumption) | exact bk_3 (by assumption) | exact bk_4 (by assumption) | exact bk_5 (by assumption) | exact bk_6 (by assumption) | exact bk_7 (by assumption) | exact bk_8 (by assumption) | exact sh_ring _ (by first | assumption | omega) | exact sh_imgs _ (by first | assumption | omega)) (by first | with_reducible rfl | (simp only [nlit, nI_add, pk_mul]; with_reducible rfl) | rfl) (by first | assumption | omega) (by first | assumption | decide) ?_
      rw [hF 5 (by decide)]
      refine v_icmp_ge (tgt := 40) dX12_sightsOf_11 (by decide) (fun hc11 => ?_) (fun hc11 => ?_)
      · (try rw [nI_leI (by omega) (by omega)] at hc11)
        refine v_iload_2 dX12_sightsOf_40 ?_
        refine v_iret dX12_sightsOf_41 rfl rfl rfl rfl ?_
        exact hQ
      · exact absurd (nI_le (by omega) (by omega)) hc11
    | succ j ih =>
      intro i a hij he
      have hi : i < F 5 := by omega
      obtain ⟨y1, y2, y3, y4, y5, y6⟩ := fk_s hO hi
      have he : bup (fun s => decide (F (129 + 5 * s) = d)) (i + 1) j (a ||| if decide (F (129 + 5 * i) = d) then 2 ^ i else 0) = ofd F d := he
      refine v_iload_3 dX12_sightsOf_4 ?_
      refine v_aload_0 dX12_sightsOf_5 ?_
      refine u_getR dX12_sightsOf_6 gf_X12_20 (by first | assumption | rfl | exact led_1 (by assumption) | exact led_2 (by assumption) | exact bk_m (by assumption) (by first | assumption | omega) | exact bk_p (by assumption) (by first | assumption | omega) | exact bk_o (by assumption) (by first | assumption | omega) | exact bk_s (by assumption) (by first | assumption | omega) | exact bk_1 (by assumption) | exact bk_2 (by assumption) | exact bk_3 (by assumption) | exact bk_4 (by assumption) | exact bk_5 (by assumption) | exact bk_6 (by assumption) | exact bk_7 (by assumption) | exact bk_8 (by assumption) | exact sh_ring _ (by first | assumption | omega) | exact sh_imgs _ (by first | assumption | omega)) (ro_X12_15 (by assumption)) ?_
      refine v_iconst (v := nI 5) dX12_sightsOf_9 (by decide) ?_
      refine u_iald dX12_sightsOf_10 (by first | assumption | rfl | exact led_1 (by assumption) | exact led_2 (by assumption) | exact bk_m (by assumption) (by first | assumption | omega) | exact bk_p (by assumption) (by first | assumption | omega) | exact bk_o (by assumption) (by first | assumption | omega) | exact bk_s (by assumption) (by first | assumption | omega) | exact bk_1 (by assumption) | exact bk_2 (by assumption) | exact bk_3 (by assumption) | exact bk_4 (by assumption) | exact bk_5 (by assumption) | exact bk_6 (by assumption) | exact bk_7 (by assumption) | exact bk_8 (by assumption) | exact sh_ring _ (by first | assumption | omega) | exact sh_imgs _ (by first | assumption | omega)) (by first | with_reducible rfl | (simp only [nlit, nI_add, pk_mul]; with_reducible rfl) | rfl) (by first | assumption | omega) (by first | assumption | decide) ?_
      rw [hF 5 (by decide)]
      refine v_icmp_ge (tgt := 40) dX12_sightsOf_11 (by decide) (fun hc11 => ?_) (fun hc11 => ?_)
      · exact absurd hc11 (nI_ge (by omega) (by omega))
      · (try rw [nI_leI (by omega) (by omega)] at hc11)
        refine v_iload_2 dX12_sightsOf_14 ?_
        refine v_aload_0 dX12_sightsOf_15 ?_
        refine v_iload_3 dX12_sightsOf_16 ?_
        refine v_iconst (v := nI 1) dX12_sightsOf_17 (by decide) ?_
        refine u_callV_2 dX12_sightsOf_18 ml_X12_360 mv_X12_seen (by first | assumption | rfl | exact led_1 (by assumption) | exact led_2 (by assumption) | exact bk_m (by assumption) (by first | assumption | omega) | exact bk_p (by assumption) (by first | assumption | omega) | exact bk_o (by assumption) (by first | assumption | omega) | exact bk_s (by assumption) (by first | assumption | omega) | exact bk_1 (by assumption) | exact bk_2 (by assumption) | exact bk_3 (by assumption) | exact bk_4 (by assumption) | exact bk_5 (by assumption) | exact bk_6 (by assumption) | exact bk_7 (by assumption) | exact bk_8 (by assumption) | exact sh_ring _ (by first | assumption | omega) | exact sh_imgs _ (by first | assumption | omega)) (by decide) rfl (by decide) (Nat.le_of_ble_eq_true rfl) (c_X12_seen (k := 129 + 5 * i) hR hr.1.1 (by omega) (by decide) (by omega) ?_)
        refine v_iload_1 dX12_sightsOf_21 ?_
        refine v_icmp_ne (tgt := 31) dX12_sightsOf_22 (by decide) (fun hc22 => ?_) (fun hc22 => ?_)
        · (try rw [nI_eq (by omega) (by omega)] at hc22)
          refine v_iconst (v := nI 0) dX12_sightsOf_31 (by decide) ?_
          refine v_ior dX12_sightsOf_32 ?_
          rw [nx_or]
          refine v_istore_2 rfl dX12_sightsOf_33 ?_
          refine v_iinc_3 (v := 1) rfl dX12_sightsOf_34 (by decide) ?_
          rw [show nI i + 1 = nI (i + 1) from nI_1 i]
          refine v_goto (tgt := 4) dX12_sightsOf_37 (by decide) ?_
          first
            | (rw [decide_eq_true hc22] at he; exact ih (i + 1) _ (by omega) he)
            | (rw [decide_eq_false hc22] at he; exact ih (i + 1) _ (by omega) he)
        · (try rw [nI_eq (by omega) (by omega)] at hc22)
          refine v_iconst (v := nI 1) dX12_sightsOf_25 (by decide) ?_
          refine v_iload_3 dX12_sightsOf_26 ?_
          refine v_ishl dX12_sightsOf_27 ?_
          rw [one_shl (by omega)]
          refine v_goto (tgt := 32) dX12_sightsOf_28 (by decide) ?_
          refine v_ior dX12_sightsOf_32 ?_
          rw [nx_or]
          refine v_istore_2 rfl dX12_sightsOf_33 ?_
          refine v_iinc_3 (v := 1) rfl dX12_sightsOf_34 (by decide) ?_
          rw [show nI i + 1 = nI (i + 1) from nI_1 i]
          refine v_goto (tgt := 4) dX12_sightsOf_37 (by decide) ?_
          first
            | (rw [decide_eq_true hc22] at he; exact ih (i + 1) _ (by omega) he)
            | (rw [decide_eq_false hc22] at he; exact ih (i + 1) _ (by omega) he)
  refine K.of (M := mX12_sightsOf) (lv := [some (.ref (b + 157)), some (.int (nI d)), none, none]) (by decide) (Nat.le_of_ble_eq_true rfl) rfl ?_
  refine v_iconst (v := nI 0) dX12_sightsOf_0 (by decide) ?_
  refine v_istore_2 rfl dX12_sightsOf_1 ?_
  refine v_iconst (v := nI 0) dX12_sightsOf_2 (by decide) ?_
  refine v_istore_3 rfl dX12_sightsOf_3 ?_
  exact loop (F 5) 0 0 (by omega) rfl
theorem l_areApart {r i : Nat} {a0 : Bool} {w : Option Value} (hR : RO R) (hr : RfI I F s) (hrr : r < 2 ^ 31) (hi : i < F 5) (hQ : ∀ w : Option Value, VV yX12_areApart cX12_areApart 6 (some .boolean) 1 Q b ad 134 [some (.ref (b + 157)), some (.int (nI r)), some (.int (bI (a0 && !oup (twp F r i) 0 i))), some (.int (nI i)), (some (.int (nI i))), w] [] I L R) : VV yX12_areApart cX12_areApart 6 (some .boolean) 1 Q b ad 17 [some (.ref (b + 157)), some (.int (nI r)), some (.int (bI a0)), some (.int (nI i)), (some (.int (nI 0))), w] [] I L R := by
  have hO := hr.1.2.2.1
  have o2 := hO.2.2.1
  have o3 := hO.2.2.2.1
  have o5 := hO.2.2.2.2.2.1
  have o0 := hO.1
  have hF := hr.1.1.2
  have hS := hr.2.1
  have hK := hr.2.2
  obtain ⟨y1, y2, y3, y4, y5, y6⟩ := fk_s hO hi
  have z1 := (fk_m hO y1).1
  have loop : ∀ (k j : Nat) (a : Bool) (w : Option Value), j + k = i → (a && !oup (twp F r i) j k) = (a0 && !oup (twp F r i) 0 i) → VV yX12_areApart cX12_areApart 6 (some .boolean) 1 Q b ad 17 [some (.ref (b + 157)), some (.int (nI r)), some (.int (bI a)), some (.int (nI i)), (some (.int (nI j))), w] [] I L R := by
    intro k
    induction k with
    | zero =>
      intro j a w hj he
      have hj : j = i := hj
      have he : (a && true) = _ := he
      rw [Bool.and_true] at he
      rw [he, hj]
      refine v_iload_4 dX12_areApart_17 ?_
      refine v_iload_3 dX12_areApart_19 ?_
      refine v_icmp_ge (tgt := 134) dX12_areApart_20 (by decide) (fun hc20 => ?_) (fun hc20 => ?_)
      · (try rw [nI_leI (by omega) (by omega)] at hc20)
        exact hQ _
      · exact absurd (nI_le (by omega) (by omega)) hc20
    | succ k ih =>
      intro j a w hjk he
      have hj : j < F 5 := by omega
      obtain ⟨x1, x2, x3, x4, x5, x6⟩ := fk_s hO hj
      have he : (a && !(twp F r i j || oup (twp F r i) (j + 1) k)) = (a0 && !oup (twp F r i) 0 i) := he
      have cut : ∀ sm : Bool, (r.testBit i && r.testBit j && (decide (F (128 + 5 * i) = F (128 + 5 * j)) && decide (F (129 + 5 * i) = F (129 + 5 * j)) && decide (F (130 + 5 * i) = F (130 + 5 * j)))) = sm → VV yX12_areApart cX12_areApart 6 (some .boolean) 1 Q b ad 93 [some (.ref (b + 157)), some (.int (nI r)), some (.int (bI a)), some (.int (nI i)), (some (.int (nI j))), w] [.int (bI sm)] I L R := by
        intro sm es
        have et : twp F r i j = (sm && decide (F (8 + F (128 + 5 * i)) ≠ 3)) := by unfold twp; rw [es]
        refine v_istore_5 rfl dX12_areApart_93 ?_
        refine v_iload_2 dX12_areApart_95 ?_
        refine v_if_eq (tgt := 126) dX12_areApart_96 (by decide) (fun hc96 => ?_) (fun hc96 => ?_)
        · (first | rw [bI_0, Bool.not_eq_false] at hc96 | rw [bI_0] at hc96 | rw [show (0 : Int32) = nI 0 from rfl, nI_eq (by omega) (by omega)] at hc96 | skip)
          refine v_iconst (v := nI 0) dX12_areApart_126 (by decide) ?_
          refine v_istore_2 rfl dX12_areApart_127 ?_
          refine v_iinc_4 (v := 1) rfl dX12_areApart_128 (by decide) ?_
          rw [show nI j + 1 = nI (j + 1) from nI_1 j]
          refine v_goto (tgt := 17) dX12_areApart_131 (by decide) ?_
          first
            | (rw [hc96, Bool.false_and] at he; refine ih (j + 1) false _ (by omega) ?_; rw [Bool.false_and]; exact he)
            | (rw [hc101] at et; rw [hc96, et, Bool.false_and, Bool.false_or] at he; exact ih (j + 1) true _ (by omega) he)
            | (rw [decide_eq_false (show ¬ F (8 + F (128 + 5 * i)) ≠ 3 from fun q => q hc119), Bool.and_false] at et; rw [hc96, et, Bool.false_or] at he; exact ih (j + 1) true _ (by omega) he)
            | (rw [hc101, decide_eq_true (show F (8 + F (128 + 5 * i)) ≠ 3 from hc119)] at et; rw [et] at he; refine ih (j + 1) false _ (by omega) ?_; rw [← he]; simp)
        · (first | rw [bI_0, Bool.not_eq_false] at hc96 | rw [bI_0] at hc96 | rw [show (0 : Int32) = nI 0 from rfl, nI_eq (by omega) (by omega)] at hc96 | skip)
          refine v_iload_5 dX12_areApart_99 ?_
          refine v_if_eq (tgt := 122) dX12_areApart_101 (by decide) (fun hc101 => ?_) (fun hc101 => ?_)
          · (first | rw [bI_0, Bool.not_eq_false] at hc101 | rw [bI_0] at hc101 | rw [show (0 : Int32) = nI 0 from rfl, nI_eq (by omega) (by omega)] at hc101 | skip)
            refine v_iconst (v := nI 1) dX12_areApart_122 (by decide) ?_
            refine v_goto (tgt := 127) dX12_areApart_123 (by decide) ?_
            refine v_istore_2 rfl dX12_areApart_127 ?_
            refine v_iinc_4 (v := 1) rfl dX12_areApart_128 (by decide) ?_
            rw [show nI j + 1 = nI (j + 1) from nI_1 j]
            refine v_goto (tgt := 17) dX12_areApart_131 (by decide) ?_
            first
              | (rw [hc96, Bool.false_and] at he; refine ih (j + 1) false _ (by omega) ?_; rw [Bool.false_and]; exact he)
              | (rw [hc101] at et; rw [hc96, et, Bool.false_and, Bool.false_or] at he; exact ih (j + 1) true _ (by omega) he)
              | (rw [decide_eq_false (show ¬ F (8 + F (128 + 5 * i)) ≠ 3 from fun q => q hc119), Bool.and_false] at et; rw [hc96, et, Bool.false_or] at he; exact ih (j + 1) true _ (by omega) he)
              | (rw [hc101, decide_eq_true (show F (8 + F (128 + 5 * i)) ≠ 3 from hc119)] at et; rw [et] at he; refine ih (j + 1) false _ (by omega) ?_; rw [← he]; simp)
          · (first | rw [bI_0, Bool.not_eq_false] at hc101 | rw [bI_0] at hc101 | rw [show (0 : Int32) = nI 0 from rfl, nI_eq (by omega) (by omega)] at hc101 | skip)
            refine v_aload_0 dX12_areApart_104 ?_
            refine u_getR dX12_areApart_105 gf_X12_20 (by first | assumption | rfl | exact led_1 (by assumption) | exact led_2 (by assumption) | exact bk_m (by assumption) (by first | assumption | omega) | exact bk_p (by assumption) (by first | assumption | omega) | exact bk_o (by assumption) (by first | assumption | omega) | exact bk_s (by assumption) (by first | assumption | omega) | exact bk_1 (by assumption) | exact bk_2 (by assumption) | exact bk_3 (by assumption) | exact bk_4 (by assumption) | exact bk_5 (by assumption) | exact bk_6 (by assumption) | exact bk_7 (by assumption) | exact bk_8 (by assumption) | exact sh_ring _ (by first | assumption | omega) | exact sh_imgs _ (by first | assumption | omega)) (ro_X12_15 (by assumption)) ?_
            refine v_bipush (v := nI 8) dX12_areApart_108 (by decide) ?_
            refine v_aload_0 dX12_areApart_110 ?_
            refine v_iload_3 dX12_areApart_111 ?_
            refine v_iconst (v := nI 0) dX12_areApart_112 (by decide) ?_
            refine u_callV_2 dX12_areApart_113 ml_X12_360 mv_X12_seen (by first | assumption | rfl | exact led_1 (by assumption) | exact led_2 (by assumption) | exact bk_m (by assumption) (by first | assumption | omega) | exact bk_p (by assumption) (by first | assumption | omega) | exact bk_o (by assumption) (by first | assumption | omega) | exact bk_s (by assumption) (by first | assumption | omega) | exact bk_1 (by assumption) | exact bk_2 (by assumption) | exact bk_3 (by assumption) | exact bk_4 (by assumption) | exact bk_5 (by assumption) | exact bk_6 (by assumption) | exact bk_7 (by assumption) | exact bk_8 (by assumption) | exact sh_ring _ (by first | assumption | omega) | exact sh_imgs _ (by first | assumption | omega)) (by decide) rfl (by decide) (Nat.le_of_ble_eq_true rfl) (c_X12_seen (k := 128 + 5 * i) hR hr.1.1 (by omega) (by decide) (by omega) ?_)
            refine v_iadd dX12_areApart_116 ?_
            refine u_iald dX12_areApart_117 (by first | assumption | rfl | exact led_1 (by assumption) | exact led_2 (by assumption) | exact bk_m (by assumption) (by first | assumption | omega) | exact bk_p (by assumption) (by first | assumption | omega) | exact bk_o (by assumption) (by first | assumption | omega) | exact bk_s (by assumption) (by first | assumption | omega) | exact bk_1 (by assumption) | exact bk_2 (by assumption) | exact bk_3 (by assumption) | exact bk_4 (by assumption) | exact bk_5 (by assumption) | exact bk_6 (by assumption) | exact bk_7 (by assumption) | exact bk_8 (by assumption) | exact sh_ring _ (by first | assumption | omega) | exact sh_imgs _ (by first | assumption | omega)) (by first | with_reducible rfl | (simp only [nlit, nI_add, pk_mul]; with_reducible rfl) | rfl) (by first | assumption | omega) (by first | assumption | decide) ?_
            rw [hF _ (by omega)]
            refine v_iconst (v := nI 3) dX12_areApart_118 (by decide) ?_
            refine v_icmp_ne (tgt := 126) dX12_areApart_119 (by decide) (fun hc119 => ?_) (fun hc119 => ?_)
            · (try rw [nI_eq (by omega) (by omega)] at hc119)
              refine v_iconst (v := nI 0) dX12_areApart_126 (by decide) ?_
              refine v_istore_2 rfl dX12_areApart_127 ?_
              refine v_iinc_4 (v := 1) rfl dX12_areApart_128 (by decide) ?_
              rw [show nI j + 1 = nI (j + 1) from nI_1 j]
              refine v_goto (tgt := 17) dX12_areApart_131 (by decide) ?_
              first
                | (rw [hc96, Bool.false_and] at he; refine ih (j + 1) false _ (by omega) ?_; rw [Bool.false_and]; exact he)
                | (rw [hc101] at et; rw [hc96, et, Bool.false_and, Bool.false_or] at he; exact ih (j + 1) true _ (by omega) he)
                | (rw [decide_eq_false (show ¬ F (8 + F (128 + 5 * i)) ≠ 3 from fun q => q hc119), Bool.and_false] at et; rw [hc96, et, Bool.false_or] at he; exact ih (j + 1) true _ (by omega) he)
                | (rw [hc101, decide_eq_true (show F (8 + F (128 + 5 * i)) ≠ 3 from hc119)] at et; rw [et] at he; refine ih (j + 1) false _ (by omega) ?_; rw [← he]; simp)
            · (try rw [nI_eq (by omega) (by omega)] at hc119)
              refine v_iconst (v := nI 1) dX12_areApart_122 (by decide) ?_
              refine v_goto (tgt := 127) dX12_areApart_123 (by decide) ?_
              refine v_istore_2 rfl dX12_areApart_127 ?_
              refine v_iinc_4 (v := 1) rfl dX12_areApart_128 (by decide) ?_
              rw [show nI j + 1 = nI (j + 1) from nI_1 j]
              refine v_goto (tgt := 17) dX12_areApart_131 (by decide) ?_
              first
                | (rw [hc96, Bool.false_and] at he; refine ih (j + 1) false _ (by omega) ?_; rw [Bool.false_and]; exact he)
                | (rw [hc101] at et; rw [hc96, et, Bool.false_and, Bool.false_or] at he; exact ih (j + 1) true _ (by omega) he)
                | (rw [decide_eq_false (show ¬ F (8 + F (128 + 5 * i)) ≠ 3 from fun q => q hc119), Bool.and_false] at et; rw [hc96, et, Bool.false_or] at he; exact ih (j + 1) true _ (by omega) he)
                | (rw [hc101, decide_eq_true (show F (8 + F (128 + 5 * i)) ≠ 3 from hc119)] at et; rw [et] at he; refine ih (j + 1) false _ (by omega) ?_; rw [← he]; simp)
      refine v_iload_4 dX12_areApart_17 ?_
      refine v_iload_3 dX12_areApart_19 ?_
      refine v_icmp_ge (tgt := 134) dX12_areApart_20 (by decide) (fun hc20 => ?_) (fun hc20 => ?_)
      · exact absurd hc20 (nI_ge (by omega) (by omega))
      · (try rw [nI_leI (by omega) (by omega)] at hc20)
        refine v_iload_1 dX12_areApart_23 ?_
        refine v_iload_3 dX12_areApart_24 ?_
        refine u_callS_2 dX12_areApart_25 ml_X12_158 ms_X12_has (by decide) (Nat.le_of_ble_eq_true rfl) (c_X12_has (by omega) (by omega) ?_)
        refine v_if_eq (tgt := 92) dX12_areApart_28 (by decide) (fun hc28 => ?_) (fun hc28 => ?_)
        · (first | rw [bI_0, Bool.not_eq_false] at hc28 | rw [bI_0] at hc28 | rw [show (0 : Int32) = nI 0 from rfl, nI_eq (by omega) (by omega)] at hc28 | skip)
          refine v_iconst (v := nI 0) dX12_areApart_92 (by decide) ?_
          first
            | (refine cut true ?_; simp only [hc20, hc28, decide_true, Bool.and_self]; done)
            | (refine cut false ?_; simp only [hc20, hc28, decide_true, decide_false, Bool.and_self, Bool.false_and, Bool.and_false, Bool.true_and]; done)
        · (first | rw [bI_0, Bool.not_eq_false] at hc28 | rw [bI_0] at hc28 | rw [show (0 : Int32) = nI 0 from rfl, nI_eq (by omega) (by omega)] at hc28 | skip)
          refine v_iload_1 dX12_areApart_31 ?_
          refine v_iload_4 dX12_areApart_32 ?_
          refine u_callS_2 dX12_areApart_34 ml_X12_158 ms_X12_has (by decide) (Nat.le_of_ble_eq_true rfl) (c_X12_has (by omega) (by omega) ?_)
          refine v_if_eq (tgt := 92) dX12_areApart_37 (by decide) (fun hc37 => ?_) (fun hc37 => ?_)
          · (first | rw [bI_0, Bool.not_eq_false] at hc37 | rw [bI_0] at hc37 | rw [show (0 : Int32) = nI 0 from rfl, nI_eq (by omega) (by omega)] at hc37 | skip)
            refine v_iconst (v := nI 0) dX12_areApart_92 (by decide) ?_
            first
              | (refine cut true ?_; simp only [hc20, hc28, hc37, decide_true, Bool.and_self]; done)
              | (refine cut false ?_; simp only [hc20, hc28, hc37, decide_true, decide_false, Bool.and_self, Bool.false_and, Bool.and_false, Bool.true_and]; done)
          · (first | rw [bI_0, Bool.not_eq_false] at hc37 | rw [bI_0] at hc37 | rw [show (0 : Int32) = nI 0 from rfl, nI_eq (by omega) (by omega)] at hc37 | skip)
            refine v_aload_0 dX12_areApart_40 ?_
            refine v_iload_3 dX12_areApart_41 ?_
            refine v_iconst (v := nI 0) dX12_areApart_42 (by decide) ?_
            refine u_callV_2 dX12_areApart_43 ml_X12_360 mv_X12_seen (by first | assumption | rfl | exact led_1 (by assumption) | exact led_2 (by assumption) | exact bk_m (by assumption) (by first | assumption | omega) | exact bk_p (by assumption) (by first | assumption | omega) | exact bk_o (by assumption) (by first | assumption | omega) | exact bk_s (by assumption) (by first | assumption | omega) | exact bk_1 (by assumption) | exact bk_2 (by assumption) | exact bk_3 (by assumption) | exact bk_4 (by assumption) | exact bk_5 (by assumption) | exact bk_6 (by assumption) | exact bk_7 (by assumption) | exact bk_8 (by assumption) | exact sh_ring _ (by first | assumption | omega) | exact sh_imgs _ (by first | assumption | omega)) (by decide) rfl (by decide) (Nat.le_of_ble_eq_true rfl) (c_X12_seen (k := 128 + 5 * i) hR hr.1.1 (by omega) (by decide) (by omega) ?_)
            refine v_aload_0 dX12_areApart_46 ?_
            refine v_iload_4 dX12_areApart_47 ?_
            refine v_iconst (v := nI 0) dX12_areApart_49 (by decide) ?_
            refine u_callV_2 dX12_areApart_50 ml_X12_360 mv_X12_seen (by first | assumption | rfl | exact led_1 (by assumption) | exact led_2 (by assumption) | exact bk_m (by assumption) (by first | assumption | omega) | exact bk_p (by assumption) (by first | assumption | omega) | exact bk_o (by assumption) (by first | assumption | omega) | exact bk_s (by assumption) (by first | assumption | omega) | exact bk_1 (by assumption) | exact bk_2 (by assumption) | exact bk_3 (by assumption) | exact bk_4 (by assumption) | exact bk_5 (by assumption) | exact bk_6 (by assumption) | exact bk_7 (by assumption) | exact bk_8 (by assumption) | exact sh_ring _ (by first | assumption | omega) | exact sh_imgs _ (by first | assumption | omega)) (by decide) rfl (by decide) (Nat.le_of_ble_eq_true rfl) (c_X12_seen (k := 128 + 5 * j) hR hr.1.1 (by omega) (by decide) (by omega) ?_)
            refine v_icmp_ne (tgt := 92) dX12_areApart_53 (by decide) (fun hc53 => ?_) (fun hc53 => ?_)
            · (try rw [nI_eq (by omega) (by omega)] at hc53)
              refine v_iconst (v := nI 0) dX12_areApart_92 (by decide) ?_
              first
                | (refine cut true ?_; simp only [hc20, hc28, hc37, hc53, decide_true, Bool.and_self]; done)
                | (refine cut false ?_; simp only [hc20, hc28, hc37, hc53, decide_true, decide_false, Bool.and_self, Bool.false_and, Bool.and_false, Bool.true_and]; done)
            · (try rw [nI_eq (by omega) (by omega)] at hc53)
              refine v_aload_0 dX12_areApart_56 ?_
              refine v_iload_3 dX12_areApart_57 ?_
              refine v_iconst (v := nI 1) dX12_areApart_58 (by decide) ?_
              refine u_callV_2 dX12_areApart_59 ml_X12_360 mv_X12_seen (by first | assumption | rfl | exact led_1 (by assumption) | exact led_2 (by assumption) | exact bk_m (by assumption) (by first | assumption | omega) | exact bk_p (by assumption) (by first | assumption | omega) | exact bk_o (by assumption) (by first | assumption | omega) | exact bk_s (by assumption) (by first | assumption | omega) | exact bk_1 (by assumption) | exact bk_2 (by assumption) | exact bk_3 (by assumption) | exact bk_4 (by assumption) | exact bk_5 (by assumption) | exact bk_6 (by assumption) | exact bk_7 (by assumption) | exact bk_8 (by assumption) | exact sh_ring _ (by first | assumption | omega) | exact sh_imgs _ (by first | assumption | omega)) (by decide) rfl (by decide) (Nat.le_of_ble_eq_true rfl) (c_X12_seen (k := 129 + 5 * i) hR hr.1.1 (by omega) (by decide) (by omega) ?_)
              refine v_aload_0 dX12_areApart_62 ?_
              refine v_iload_4 dX12_areApart_63 ?_
              refine v_iconst (v := nI 1) dX12_areApart_65 (by decide) ?_
              refine u_callV_2 dX12_areApart_66 ml_X12_360 mv_X12_seen (by first | assumption | rfl | exact led_1 (by assumption) | exact led_2 (by assumption) | exact bk_m (by assumption) (by first | assumption | omega) | exact bk_p (by assumption) (by first | assumption | omega) | exact bk_o (by assumption) (by first | assumption | omega) | exact bk_s (by assumption) (by first | assumption | omega) | exact bk_1 (by assumption) | exact bk_2 (by assumption) | exact bk_3 (by assumption) | exact bk_4 (by assumption) | exact bk_5 (by assumption) | exact bk_6 (by assumption) | exact bk_7 (by assumption) | exact bk_8 (by assumption) | exact sh_ring _ (by first | assumption | omega) | exact sh_imgs _ (by first | assumption | omega)) (by decide) rfl (by decide) (Nat.le_of_ble_eq_true rfl) (c_X12_seen (k := 129 + 5 * j) hR hr.1.1 (by omega) (by decide) (by omega) ?_)
              refine v_icmp_ne (tgt := 92) dX12_areApart_69 (by decide) (fun hc69 => ?_) (fun hc69 => ?_)
              · (try rw [nI_eq (by omega) (by omega)] at hc69)
                refine v_iconst (v := nI 0) dX12_areApart_92 (by decide) ?_
                first
                  | (refine cut true ?_; simp only [hc20, hc28, hc37, hc53, hc69, decide_true, Bool.and_self]; done)
                  | (refine cut false ?_; simp only [hc20, hc28, hc37, hc53, hc69, decide_true, decide_false, Bool.and_self, Bool.false_and, Bool.and_false, Bool.true_and]; done)
              · (try rw [nI_eq (by omega) (by omega)] at hc69)
                refine v_aload_0 dX12_areApart_72 ?_
                refine v_iload_3 dX12_areApart_73 ?_
                refine v_iconst (v := nI 2) dX12_areApart_74 (by decide) ?_
                refine u_callV_2 dX12_areApart_75 ml_X12_360 mv_X12_seen (by first | assumption | rfl | exact led_1 (by assumption) | exact led_2 (by assumption) | exact bk_m (by assumption) (by first | assumption | omega) | exact bk_p (by assumption) (by first | assumption | omega) | exact bk_o (by assumption) (by first | assumption | omega) | exact bk_s (by assumption) (by first | assumption | omega) | exact bk_1 (by assumption) | exact bk_2 (by assumption) | exact bk_3 (by assumption) | exact bk_4 (by assumption) | exact bk_5 (by assumption) | exact bk_6 (by assumption) | exact bk_7 (by assumption) | exact bk_8 (by assumption) | exact sh_ring _ (by first | assumption | omega) | exact sh_imgs _ (by first | assumption | omega)) (by decide) rfl (by decide) (Nat.le_of_ble_eq_true rfl) (c_X12_seen (k := 130 + 5 * i) hR hr.1.1 (by omega) (by decide) (by omega) ?_)
                refine v_aload_0 dX12_areApart_78 ?_
                refine v_iload_4 dX12_areApart_79 ?_
                refine v_iconst (v := nI 2) dX12_areApart_81 (by decide) ?_
                refine u_callV_2 dX12_areApart_82 ml_X12_360 mv_X12_seen (by first | assumption | rfl | exact led_1 (by assumption) | exact led_2 (by assumption) | exact bk_m (by assumption) (by first | assumption | omega) | exact bk_p (by assumption) (by first | assumption | omega) | exact bk_o (by assumption) (by first | assumption | omega) | exact bk_s (by assumption) (by first | assumption | omega) | exact bk_1 (by assumption) | exact bk_2 (by assumption) | exact bk_3 (by assumption) | exact bk_4 (by assumption) | exact bk_5 (by assumption) | exact bk_6 (by assumption) | exact bk_7 (by assumption) | exact bk_8 (by assumption) | exact sh_ring _ (by first | assumption | omega) | exact sh_imgs _ (by first | assumption | omega)) (by decide) rfl (by decide) (Nat.le_of_ble_eq_true rfl) (c_X12_seen (k := 130 + 5 * j) hR hr.1.1 (by omega) (by decide) (by omega) ?_)
                refine v_icmp_ne (tgt := 92) dX12_areApart_85 (by decide) (fun hc85 => ?_) (fun hc85 => ?_)
                · (try rw [nI_eq (by omega) (by omega)] at hc85)
                  refine v_iconst (v := nI 0) dX12_areApart_92 (by decide) ?_
                  first
                    | (refine cut true ?_; simp only [hc20, hc28, hc37, hc53, hc69, hc85, decide_true, Bool.and_self]; done)
                    | (refine cut false ?_; simp only [hc20, hc28, hc37, hc53, hc69, hc85, decide_true, decide_false, Bool.and_self, Bool.false_and, Bool.and_false, Bool.true_and]; done)
                · (try rw [nI_eq (by omega) (by omega)] at hc85)
                  refine v_iconst (v := nI 1) dX12_areApart_88 (by decide) ?_
                  refine v_goto (tgt := 93) dX12_areApart_89 (by decide) ?_
                  first
                    | (refine cut true ?_; simp only [hc20, hc28, hc37, hc53, hc69, hc85, decide_true, Bool.and_self]; done)
                    | (refine cut false ?_; simp only [hc20, hc28, hc37, hc53, hc69, hc85, decide_true, decide_false, Bool.and_self, Bool.false_and, Bool.and_false, Bool.true_and]; done)
  exact loop i 0 a0 w (by omega) rfl
theorem c_X12_areApart {r : Nat} (hR : RO R) (hr : RfI I F s) (hrr : r < 2 ^ 31) (hQ : Q (some (.int (bI (!tw F r)))) SH I L R) : KK 1 mX12_areApart b ad [.ref (b + 157), .int (nI r)] I L R Q := by
  have hO := hr.1.2.2.1
  have o2 := hO.2.2.1
  have o3 := hO.2.2.2.1
  have o5 := hO.2.2.2.2.2.1
  have o0 := hO.1
  have hF := hr.1.1.2
  have hS := hr.2.1
  have hK := hr.2.2
  have loop : ∀ (k i : Nat) (a : Bool) (v w : Option Value), i + k = F 5 → (a && !oup (fun i => oup (twp F r i) 0 i) i k) = !tw F r → VV yX12_areApart cX12_areApart 6 (some .boolean) 1 Q b ad 4 [some (.ref (b + 157)), some (.int (nI r)), some (.int (bI a)), some (.int (nI i)), v, w] [] I L R := by
    intro k
    induction k with
    | zero =>
      intro i a v w hi he
      have he : (a && true) = _ := he
      rw [Bool.and_true] at he
      rw [← he] at hQ
      refine v_iload_3 dX12_areApart_4 ?_
      refine v_aload_0 dX12_areApart_5 ?_
      refine u_getR dX12_areApart_6 gf_X12_20 (by first | assumption | rfl | exact led_1 (by assumption) | exact led_2 (by assumption) | exact bk_m (by assumption) (by first | assumption | omega) | exact bk_p (by assumption) (by first | assumption | omega) | exact bk_o (by assumption) (by first | assumption | omega) | exact bk_s (by assumption) (by first | assumption | omega) | exact bk_1 (by assumption) | exact bk_2 (by assumption) | exact bk_3 (by assumption) | exact bk_4 (by assumption) | exact bk_5 (by assumption) | exact bk_6 (by assumption) | exact bk_7 (by assumption) | exact bk_8 (by assumption) | exact sh_ring _ (by first | assumption | omega) | exact sh_imgs _ (by first | assumption | omega)) (ro_X12_15 (by assumption)) ?_
      refine v_iconst (v := nI 5) dX12_areApart_9 (by decide) ?_
      refine u_iald dX12_areApart_10 (by first | assumption | rfl | exact led_1 (by assumption) | exact led_2 (by assumption) | exact bk_m (by assumption) (by first | assumption | omega) | exact bk_p (by assumption) (by first | assumption | omega) | exact bk_o (by assumption) (by first | assumption | omega) | exact bk_s (by assumption) (by first | assumption | omega) | exact bk_1 (by assumption) | exact bk_2 (by assumption) | exact bk_3 (by assumption) | exact bk_4 (by assumption) | exact bk_5 (by assumption) | exact bk_6 (by assumption) | exact bk_7 (by assumption) | exact bk_8 (by assumption) | exact sh_ring _ (by first | assumption | omega) | exact sh_imgs _ (by first | assumption | omega)) (by first | with_reducible rfl | (simp only [nlit, nI_add, pk_mul]; with_reducible rfl) | rfl) (by first | assumption | omega) (by first | assumption | decide) ?_
      rw [hF 5 (by decide)]
      refine v_icmp_ge (tgt := 140) dX12_areApart_11 (by decide) (fun hc11 => ?_) (fun hc11 => ?_)
      · (try rw [nI_leI (by omega) (by omega)] at hc11)
        refine v_iload_2 dX12_areApart_140 ?_
        refine v_zret dX12_areApart_141 (by first | rfl | exact bI_n _) rfl rfl rfl rfl ?_
        exact hQ
      · exact absurd (nI_le (by omega) (by omega)) hc11
    | succ k ih =>
      intro i a v w hik he
      have hi : i < F 5 := by omega
      have he : (a && !(oup (twp F r i) 0 i || oup (fun i => oup (twp F r i) 0 i) (i + 1) k)) = !tw F r := he
      refine v_iload_3 dX12_areApart_4 ?_
      refine v_aload_0 dX12_areApart_5 ?_
      refine u_getR dX12_areApart_6 gf_X12_20 (by first | assumption | rfl | exact led_1 (by assumption) | exact led_2 (by assumption) | exact bk_m (by assumption) (by first | assumption | omega) | exact bk_p (by assumption) (by first | assumption | omega) | exact bk_o (by assumption) (by first | assumption | omega) | exact bk_s (by assumption) (by first | assumption | omega) | exact bk_1 (by assumption) | exact bk_2 (by assumption) | exact bk_3 (by assumption) | exact bk_4 (by assumption) | exact bk_5 (by assumption) | exact bk_6 (by assumption) | exact bk_7 (by assumption) | exact bk_8 (by assumption) | exact sh_ring _ (by first | assumption | omega) | exact sh_imgs _ (by first | assumption | omega)) (ro_X12_15 (by assumption)) ?_
      refine v_iconst (v := nI 5) dX12_areApart_9 (by decide) ?_
      refine u_iald dX12_areApart_10 (by first | assumption | rfl | exact led_1 (by assumption) | exact led_2 (by assumption) | exact bk_m (by assumption) (by first | assumption | omega) | exact bk_p (by assumption) (by first | assumption | omega) | exact bk_o (by assumption) (by first | assumption | omega) | exact bk_s (by assumption) (by first | assumption | omega) | exact bk_1 (by assumption) | exact bk_2 (by assumption) | exact bk_3 (by assumption) | exact bk_4 (by assumption) | exact bk_5 (by assumption) | exact bk_6 (by assumption) | exact bk_7 (by assumption) | exact bk_8 (by assumption) | exact sh_ring _ (by first | assumption | omega) | exact sh_imgs _ (by first | assumption | omega)) (by first | with_reducible rfl | (simp only [nlit, nI_add, pk_mul]; with_reducible rfl) | rfl) (by first | assumption | omega) (by first | assumption | decide) ?_
      rw [hF 5 (by decide)]
      refine v_icmp_ge (tgt := 140) dX12_areApart_11 (by decide) (fun hc11 => ?_) (fun hc11 => ?_)
      · exact absurd hc11 (nI_ge (by omega) (by omega))
      · (try rw [nI_leI (by omega) (by omega)] at hc11)
        refine v_iconst (v := nI 0) dX12_areApart_14 (by decide) ?_
        refine v_istore_4 rfl dX12_areApart_15 ?_
        refine l_areApart (s := s) hR hr hrr hi (fun w2 => ?_)
        refine v_iinc_3 (v := 1) rfl dX12_areApart_134 (by decide) ?_
        rw [show nI i + 1 = nI (i + 1) from nI_1 i]
        refine v_goto (tgt := 4) dX12_areApart_137 (by decide) ?_
        refine ih (i + 1) _ _ _ (by omega) ?_
        rw [← he, Bool.not_or, Bool.and_assoc]
  refine K.of (M := mX12_areApart) (lv := [some (.ref (b + 157)), some (.int (nI r)), none, none, none, none]) (by decide) (Nat.le_of_ble_eq_true rfl) rfl ?_
  refine v_iconst (v := nI 1) dX12_areApart_0 (by decide) ?_
  refine v_istore_2 rfl dX12_areApart_1 ?_
  refine v_iconst (v := nI 0) dX12_areApart_2 (by decide) ?_
  refine v_istore_3 rfl dX12_areApart_3 ?_
  exact loop (F 5) 0 true _ _ (by omega) rfl
end
