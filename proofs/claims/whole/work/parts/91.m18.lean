theorem lg_le {n : Nat} (h : n < 2 ^ 31) : lg_cmp (lN n) 0 ≤ 0 ↔ n = 0 := by
  have e : (lN n).toInt = n := by show (Int64.ofNat n).toInt = n; exact Int64.toInt_ofNat_of_lt (by omega)
  constructor
  · intro q
    by_cases c : 0 < n
    · have : (0 : Int64) < lN n := by rw [Int64.lt_iff_toInt_lt, e]; exact Int.ofNat_lt.mpr c
      unfold lg_cmp at q; rw [if_pos this] at q; exact absurd q (by decide)
    · omega
  · intro q; subst q; have e0 : lg_cmp (lN 0) 0 = 0 := lg_cmp1 rfl; rw [e0]; decide
theorem wys_cg {P : Nat} {pg pg' : Nat → Bool} {c c' : Nat → Nat} (h1 : ∀ m, pg m = pg' m) (h2 : ∀ m, pg m = false → ∀ p, p < P → (c m).testBit p = (c' m).testBit p) : ∀ (k m s : Nat), wys P pg c k m s = wys P pg' c' k m s
  | 0, _, _ => rfl
  | k + 1, m, s => by
    have ih := wys_cg h1 h2 k (m + 1)
    simp only [wys]
    rw [← h1 m]
    cases hp : pg m with
    | true => simp only [if_true]; exact ih s
    | false =>
      simp only [Bool.false_eq_true, if_false]
      refine sun_cg _ _ _ (fun p _ hpP => ?_)
      rw [h2 m hp p (by omega), ih]
theorem wys_tell {F : bkF} {s : LSt} {d r : Nat} (k m z : Nat) : wys (F 3) (Gt F s d r none none) (Ct F s d r none none) k m z = wys (F 3) (pgk F s.1 s.2.1 d r (F 5)) (cdk F s.1 s.2.1 d r (F 5)) k m z := by
  have e1 : ∀ m, Gt F s d r none none m = pgk F s.1 s.2.1 d r (F 5) m := fun m => by show (pgk _ _ _ _ _ _ _ && (true && true)) = _; rw [Bool.and_self, Bool.and_true]
  refine wys_cg e1 (fun m hm p hp => ?_) k m z
  rw [e1] at hm
  unfold Ct
  rw [bup_bit]
  show (Nat.testBit 0 p || (decide (0 ≤ p) && decide (p < 0 + F 3) && ((!pgk _ _ _ _ _ _ _ && Nat.testBit _ _) && (true && true)))) = _
  rw [hm]; simp [hp]
def fewO : Option Nat → Nat
  | none => 9
  | some z => bitc z
theorem bitc_8 (w : Nat) : bitc w ≤ 8 := by have := cup_le8 (p := fun i => w.testBit i) 8 0; unfold bitc; omega
theorem lkz_add {F : bkF} {n : Nat} {g : lends} {d : Nat} : ∀ (a c w : Nat) (f : Option Nat), (∀ z, w + a ≤ z → z < w + a + c → ¬ andn z (ofd F d) = 0) → lkz F n g d w (a + c) f (fewO f) = lkz F n g d w a f (fewO f)
  | 0, 0, _, _, _ => rfl
  | 0, c + 1, w, f, h => by
    rw [show 0 + (c + 1) = c + 1 by omega]
    show (if andn w (ofd F d) = 0 then _ else lkz F n g d (w + 1) c f (fewO f)) = f
    rw [if_neg (h w (by omega) (by omega))]
    have := lkz_add (n := n) (g := g) 0 c (w + 1) f (fun z q1 q2 => h z (by omega) (by omega))
    rw [Nat.zero_add] at this
    exact this
  | a + 1, c, w, f, h => by
    rw [show a + 1 + c = (a + c) + 1 by omega]
    have ih := fun f => lkz_add (n := n) (g := g) a c (w + 1) f (fun z q1 q2 => h z (by omega) (by omega))
    simp only [lkz]
    have i1 := ih (some w)
    have i2 := ih f
    rw [i2]
    rw [show fewO (some w) = bitc w from rfl] at i1
    rw [i1]
theorem andn_0 {z t n : Nat} (hz : z < 2 ^ 32) (ht : t < 2 ^ n) (h : andn z t = 0) : z < 2 ^ n := by
  have e : z = z &&& t := by
    apply Nat.eq_of_testBit_eq
    intro k
    rw [Nat.testBit_and]
    by_cases hk : k < 32
    · have q := andn_bit (h := z) (t := t) hk
      rw [h, Nat.zero_testBit] at q
      cases hzk : z.testBit k <;> cases htk : t.testBit k <;> simp [hzk, htk] at q ⊢
    · have : z.testBit k = false := Nat.testBit_lt_two_pow (Nat.lt_of_lt_of_le hz (Nat.pow_le_pow_right (by decide) (by omega)))
      rw [this]; rfl
  rw [e]
  exact Nat.lt_of_le_of_lt Nat.and_le_right ht
theorem fls_256 {F : bkF} {n : Nat} {g : lends} {d : Nat} (hO : FOK F) : lkz F n g d 0 256 none 9 = fls F n g d := by
  have o5 := hO.2.2.2.2.2.1
  have hpw : 2 ^ F 5 ≤ 256 := Nat.le_trans (Nat.pow_le_pow_right (by decide) o5) (by decide)
  have := lkz_add (F := F) (n := n) (g := g) (d := d) (2 ^ F 5) (256 - 2 ^ F 5) 0 none (fun z q1 q2 q3 => by
    have := andn_0 (n := F 5) (show z < 2 ^ 32 by omega) (bup_lt (N := F 5) (F 5) 0 0 (Nat.two_pow_pos _) (by omega)) q3
    omega)
  rw [show 2 ^ F 5 + (256 - 2 ^ F 5) = 256 by omega] at this
  exact this
section
variable {b : Nat} {ad : Nat → Nat} {I J : HI} {L M : HL} {R : HR} {Q : QT} {F : bkF} {s : LSt} {a o : Nat}
theorem c_X12_findFalse {d : Nat} (hR : RO R) (hr : RfI I F s) (hd : d < 2 ^ 31) (hQ : ∀ M : HL, (∀ x, x ≠ 170 → M x = L x) → Q (some (.int (eP (fls F s.1 s.2.1 d)))) SH (ui (ui I 157 28 (-1)) 157 30 (-1)) M R) : KK 5 mX12_findFalse b ad [.ref (b + 157), .int (nI d)] I L R Q := by
  have hr0 := hr
  have hr : RfI (ui (ui I 157 28 (-1)) 157 30 (-1)) F s := hr0.fr (by rw [ui_ne (by decide), ui_ne (by decide)]) (by rw [ui_o (by decide), ui_o (by decide)]) (by rw [ui_ne (by decide), ui_ne (by decide)])
  have ht1 : TlI (ui (ui I 157 28 (-1)) 157 30 (-1)) 28 none := by show _ = _; rw [ui_o (by decide), ui_s]
  have ht2 : TlI (ui (ui I 157 28 (-1)) 157 30 (-1)) 30 none := ui_s _ _ _ _
  have hO := hr.1.2.2.1
  have o2 := hO.2.2.1
  have o3 := hO.2.2.2.1
  have hof := ofd_lt hO d
  refine K.of (M := mX12_findFalse) (lv := [some (.ref (b + 157)), some (.int (nI d)), none, none, none]) (by decide) (Nat.le_of_ble_eq_true rfl) rfl ?_
  suffices loop : ∀ (j w : Nat) (f : Option Nat) (M : HL), w + j = 256 → (∀ x, x ≠ 170 → M x = L x) → (∀ z, f = some z → z < 256) → lkz F s.1 s.2.1 d w j f (fewO f) = fls F s.1 s.2.1 d → VV yX12_findFalse cX12_findFalse 5 (some .int) 5 Q b ad 16 [some (.ref (b + 157)), some (.int (nI d)), some (.int (nI (ofd F d))), some (.int (eP f)), some (.int (nI w))] [] (ui (ui I 157 28 (-1)) 157 30 (-1)) M R by
    refine v_aload_0 dX12_findFalse_0 ?_
    refine u_callV_0 dX12_findFalse_1 ml_X12_384 mv_X12_tellNone (by first | assumption | rfl | exact led_1 (by assumption) | exact led_2 (by assumption) | exact bk_m (by assumption) (by first | assumption | omega) | exact bk_p (by assumption) (by first | assumption | omega) | exact bk_o (by assumption) (by first | assumption | omega) | exact bk_s (by assumption) (by first | assumption | omega) | exact bk_1 (by assumption) | exact bk_2 (by assumption) | exact bk_3 (by assumption) | exact bk_4 (by assumption) | exact bk_5 (by assumption) | exact bk_6 (by assumption) | exact bk_7 (by assumption) | exact bk_8 (by assumption) | exact sh_ring _ (by first | assumption | omega) | exact sh_imgs _ (by first | assumption | omega)) (by decide) rfl (by decide) (Nat.le_of_ble_eq_true rfl) (c_X12_tellNone ?_)
    refine v_aload_0 dX12_findFalse_4 ?_
    refine v_iload_1 dX12_findFalse_5 ?_
    refine u_callV_1 dX12_findFalse_6 ml_X12_387 mv_X12_sightsOf (by first | assumption | rfl | exact led_1 (by assumption) | exact led_2 (by assumption) | exact bk_m (by assumption) (by first | assumption | omega) | exact bk_p (by assumption) (by first | assumption | omega) | exact bk_o (by assumption) (by first | assumption | omega) | exact bk_s (by assumption) (by first | assumption | omega) | exact bk_1 (by assumption) | exact bk_2 (by assumption) | exact bk_3 (by assumption) | exact bk_4 (by assumption) | exact bk_5 (by assumption) | exact bk_6 (by assumption) | exact bk_7 (by assumption) | exact bk_8 (by assumption) | exact sh_ring _ (by first | assumption | omega) | exact sh_imgs _ (by first | assumption | omega)) (by decide) rfl (by decide) (Nat.le_of_ble_eq_true rfl) (c_X12_sightsOf (s := s) hR hr hd ?_)
    refine v_istore_2 rfl dX12_findFalse_9 ?_
    refine v_bipush (v := -2) dX12_findFalse_10 (by decide) ?_
    refine v_istore_3 rfl dX12_findFalse_12 ?_
    refine v_iconst (v := nI 0) dX12_findFalse_13 (by decide) ?_
    refine v_istore_4 rfl dX12_findFalse_14 ?_
    exact loop 256 0 none L (by omega) (fun _ _ => rfl) (fun z e => by cases e) (fls_256 hO)
  clear hr0
  generalize (ui (ui I 157 28 (-1)) 157 30 (-1)) = I at *
  intro j
  induction j with
  | zero =>
    intro w f M hw m1 hzz he
    have hw : w = 256 := hw
    have he : f = _ := he
    subst hw; subst he
    refine v_iload_4 dX12_findFalse_16 ?_
    refine v_sipush (v := nI 256) dX12_findFalse_18 (by decide) ?_
    refine v_icmp_ge (tgt := 92) dX12_findFalse_21 (by decide) (fun hc21 => ?_) (fun hc21 => ?_)
    · (try rw [nI_leI (by omega) (by omega)] at hc21)
      refine v_iload_3 dX12_findFalse_92 ?_
      refine v_iret dX12_findFalse_93 rfl rfl rfl rfl ?_
      exact hQ M m1
    · exact absurd (by decide) hc21
  | succ j ih =>
    intro w f M hwj m1 hzz he
    have hw : w < 256 := by omega
    have he : (if andn w (ofd F d) = 0 then if bitc w < fewO f then if hold F s.1 s.2.1 d w = true then lkz F s.1 s.2.1 d (w + 1) j (some w) (bitc w) else lkz F s.1 s.2.1 d (w + 1) j f (fewO f) else lkz F s.1 s.2.1 d (w + 1) j f (fewO f) else lkz F s.1 s.2.1 d (w + 1) j f (fewO f)) = fls F s.1 s.2.1 d := he
    have a1 := andn_le w (ofd F d)
    have a2 := andn_le (ofd F d) w
    have b8 := bitc_8 w
    have hr31 : andn (ofd F d) w < 2 ^ 31 := by omega
    have o5 := hO.2.2.2.2.2.1
    have hrd : ∀ z, z < F 5 → (andn (ofd F d) w).testBit z = true → F (129 + 5 * z) = d := fun z hz q => by
      rw [andn_bit (by omega), ofd_bit hz, Bool.and_eq_true, decide_eq_true_eq] at q
      exact q.1
    cases f with
    | none =>
      show VV yX12_findFalse cX12_findFalse 5 (some .int) 5 Q b ad 16 [some (.ref (b + 157)), some (.int (nI d)), some (.int (nI (ofd F d))), some (.int (-2)), some (.int (nI w))] [] I M R
      refine v_iload_4 dX12_findFalse_16 ?_
      refine v_sipush (v := nI 256) dX12_findFalse_18 (by decide) ?_
      refine v_icmp_ge (tgt := 92) dX12_findFalse_21 (by decide) (fun hc21 => ?_) (fun hc21 => ?_)
      · first | omega | (have q := (nI_leI (by omega) (by omega)).mp hc21; omega)
      · (try rw [nI_leI (by omega) (by omega)] at hc21)
        refine v_iload_4 dX12_findFalse_24 ?_
        refine v_iload_2 dX12_findFalse_26 ?_
        refine v_iconst (v := -1) dX12_findFalse_27 (by decide) ?_
        refine v_ixor dX12_findFalse_28 ?_
        refine v_iand dX12_findFalse_29 ?_
        rw [andn_I]
        refine v_if_ne (tgt := 86) dX12_findFalse_30 (by decide) (fun hc30 => ?_) (fun hc30 => ?_)
        · (first | rw [bI_0, Bool.not_eq_false] at hc30 | rw [bI_0] at hc30 | rw [show (0 : Int32) = nI 0 from rfl, nI_eq (by omega) (by omega)] at hc30 | skip)
          refine v_iinc_4 (v := 1) rfl dX12_findFalse_86 (by decide) ?_
          rw [show nI w + 1 = nI (w + 1) from nI_1 w]
          refine v_goto (tgt := 16) dX12_findFalse_89 (by decide) ?_
          first
            | (rw [if_neg hc30] at he; exact ih (w + 1) _ M (by omega) m1 hzz he)
            | (rw [if_pos hc30, if_neg (show ¬ bitc w < fewO none from hc48)] at he; exact ih (w + 1) _ M (by omega) m1 hzz he)
            | (rw [if_pos hc30, if_pos (show bitc w < fewO none by show bitc w < 9; omega), if_neg (show ¬ hold F s.1 s.2.1 d w = true from fun q => by unfold hold at q; rw [hc64, Bool.false_and] at q; cases q)] at he; exact ih (w + 1) _ M (by omega) m1 hzz he)
            | (have hw0 := (lg_le (wys_lt o3 o2)).mp hc80; rw [if_pos hc30, if_pos (show bitc w < fewO none by show bitc w < 9; omega), if_neg (show ¬ hold F s.1 s.2.1 d w = true from fun q => by unfold hold at q; rw [← wys_tell, hw0] at q; simp at q)] at he; exact ih (w + 1) _ M2 (by omega) m2 hzz he)
            | (have hw0 : ¬ wys _ _ _ _ _ _ = 0 := fun q => hc80 ((lg_le (wys_lt o3 o2)).mpr q); have hho : hold F s.1 s.2.1 d w = true := (by unfold hold; rw [← wys_tell, hc64, decide_eq_true (Nat.pos_of_ne_zero hw0)]; rfl); rw [if_pos hc30, if_pos (show bitc w < fewO none by show bitc w < 9; omega), if_pos hho] at he; exact ih (w + 1) (some w) M2 (by omega) m2 (fun z e => by cases e; omega) he)
        · (first | rw [bI_0, Bool.not_eq_false] at hc30 | rw [bI_0] at hc30 | rw [show (0 : Int32) = nI 0 from rfl, nI_eq (by omega) (by omega)] at hc30 | skip)
          refine v_iload_3 dX12_findFalse_33 ?_
          refine v_bipush (v := -2) dX12_findFalse_34 (by decide) ?_
          refine v_icmp_eq (tgt := 54) dX12_findFalse_36 (by decide) (fun hc36 => ?_) (fun hc36 => ?_)
          · (try rw [nI_eq (by omega) (by omega)] at hc36)
            refine v_aload_0 dX12_findFalse_54 ?_
            refine v_iload_2 dX12_findFalse_55 ?_
            refine v_iload_4 dX12_findFalse_56 ?_
            refine v_iconst (v := -1) dX12_findFalse_58 (by decide) ?_
            refine v_ixor dX12_findFalse_59 ?_
            refine v_iand dX12_findFalse_60 ?_
            rw [andn_I]
            refine u_callV_1 dX12_findFalse_61 ml_X12_393 mv_X12_areApart (by first | assumption | rfl | exact led_1 (by assumption) | exact led_2 (by assumption) | exact bk_m (by assumption) (by first | assumption | omega) | exact bk_p (by assumption) (by first | assumption | omega) | exact bk_o (by assumption) (by first | assumption | omega) | exact bk_s (by assumption) (by first | assumption | omega) | exact bk_1 (by assumption) | exact bk_2 (by assumption) | exact bk_3 (by assumption) | exact bk_4 (by assumption) | exact bk_5 (by assumption) | exact bk_6 (by assumption) | exact bk_7 (by assumption) | exact bk_8 (by assumption) | exact sh_ring _ (by first | assumption | omega) | exact sh_imgs _ (by first | assumption | omega)) (by decide) rfl (by decide) (Nat.le_of_ble_eq_true rfl) (c_X12_areApart hR hr hr31 ?_)
            refine v_if_eq (tgt := 86) dX12_findFalse_64 (by decide) (fun hc64 => ?_) (fun hc64 => ?_)
            · (first | rw [bI_0, Bool.not_eq_false] at hc64 | rw [bI_0] at hc64 | rw [show (0 : Int32) = nI 0 from rfl, nI_eq (by omega) (by omega)] at hc64 | skip)
              refine v_iinc_4 (v := 1) rfl dX12_findFalse_86 (by decide) ?_
              rw [show nI w + 1 = nI (w + 1) from nI_1 w]
              refine v_goto (tgt := 16) dX12_findFalse_89 (by decide) ?_
              first
                | (rw [if_neg hc30] at he; exact ih (w + 1) _ M (by omega) m1 hzz he)
                | (rw [if_pos hc30, if_neg (show ¬ bitc w < fewO none from hc48)] at he; exact ih (w + 1) _ M (by omega) m1 hzz he)
                | (rw [if_pos hc30, if_pos (show bitc w < fewO none by show bitc w < 9; omega), if_neg (show ¬ hold F s.1 s.2.1 d w = true from fun q => by unfold hold at q; rw [hc64, Bool.false_and] at q; cases q)] at he; exact ih (w + 1) _ M (by omega) m1 hzz he)
                | (have hw0 := (lg_le (wys_lt o3 o2)).mp hc80; rw [if_pos hc30, if_pos (show bitc w < fewO none by show bitc w < 9; omega), if_neg (show ¬ hold F s.1 s.2.1 d w = true from fun q => by unfold hold at q; rw [← wys_tell, hw0] at q; simp at q)] at he; exact ih (w + 1) _ M2 (by omega) m2 hzz he)
                | (have hw0 : ¬ wys _ _ _ _ _ _ = 0 := fun q => hc80 ((lg_le (wys_lt o3 o2)).mpr q); have hho : hold F s.1 s.2.1 d w = true := (by unfold hold; rw [← wys_tell, hc64, decide_eq_true (Nat.pos_of_ne_zero hw0)]; rfl); rw [if_pos hc30, if_pos (show bitc w < fewO none by show bitc w < 9; omega), if_pos hho] at he; exact ih (w + 1) (some w) M2 (by omega) m2 (fun z e => by cases e; omega) he)
            · (first | rw [bI_0, Bool.not_eq_false] at hc64 | rw [bI_0] at hc64 | rw [show (0 : Int32) = nI 0 from rfl, nI_eq (by omega) (by omega)] at hc64 | skip)
              refine v_aload_0 dX12_findFalse_67 ?_
              refine v_iload_1 dX12_findFalse_68 ?_
              refine v_iload_2 dX12_findFalse_69 ?_
              refine v_iload_4 dX12_findFalse_70 ?_
              refine v_iconst (v := -1) dX12_findFalse_72 (by decide) ?_
              refine v_ixor dX12_findFalse_73 ?_
              refine v_iand dX12_findFalse_74 ?_
              rw [andn_I]
              refine u_callV_2 dX12_findFalse_75 ml_X12_396 mv_X12_countWearers (by first | assumption | rfl | exact led_1 (by assumption) | exact led_2 (by assumption) | exact bk_m (by assumption) (by first | assumption | omega) | exact bk_p (by assumption) (by first | assumption | omega) | exact bk_o (by assumption) (by first | assumption | omega) | exact bk_s (by assumption) (by first | assumption | omega) | exact bk_1 (by assumption) | exact bk_2 (by assumption) | exact bk_3 (by assumption) | exact bk_4 (by assumption) | exact bk_5 (by assumption) | exact bk_6 (by assumption) | exact bk_7 (by assumption) | exact bk_8 (by assumption) | exact sh_ring _ (by first | assumption | omega) | exact sh_imgs _ (by first | assumption | omega)) (by decide) rfl (by decide) (Nat.le_of_ble_eq_true rfl) (c_X12_countWearers (s := s) (t1 := none) (t2 := none) hR hr hd hr31 hrd ht1 ht2 (fun M2 k1 => ?_))
              have m2 : ∀ x, x ≠ 170 → M2 x = L x := fun x q => by rw [k1 x q]; exact m1 x q
              refine v_lconst (v := 0) dX12_findFalse_78 (by decide) ?_
              refine v_lcmp dX12_findFalse_79 ?_
              refine v_if_le (tgt := 86) dX12_findFalse_80 (by decide) (fun hc80 => ?_) (fun hc80 => ?_)
              · (first | rw [show (0 : Int32) = nI 0 from rfl, nI_ltI (by omega) (by omega)] at hc80 | rw [show (0 : Int32) = nI 0 from rfl, nI_leI (by omega) (by omega)] at hc80 | skip)
                refine v_iinc_4 (v := 1) rfl dX12_findFalse_86 (by decide) ?_
                rw [show nI w + 1 = nI (w + 1) from nI_1 w]
                refine v_goto (tgt := 16) dX12_findFalse_89 (by decide) ?_
                first
                  | (rw [if_neg hc30] at he; exact ih (w + 1) _ M (by omega) m1 hzz he)
                  | (rw [if_pos hc30, if_neg (show ¬ bitc w < fewO none from hc48)] at he; exact ih (w + 1) _ M (by omega) m1 hzz he)
                  | (rw [if_pos hc30, if_pos (show bitc w < fewO none by show bitc w < 9; omega), if_neg (show ¬ hold F s.1 s.2.1 d w = true from fun q => by unfold hold at q; rw [hc64, Bool.false_and] at q; cases q)] at he; exact ih (w + 1) _ M (by omega) m1 hzz he)
                  | (have hw0 := (lg_le (wys_lt o3 o2)).mp hc80; rw [if_pos hc30, if_pos (show bitc w < fewO none by show bitc w < 9; omega), if_neg (show ¬ hold F s.1 s.2.1 d w = true from fun q => by unfold hold at q; rw [← wys_tell, hw0] at q; simp at q)] at he; exact ih (w + 1) _ M2 (by omega) m2 hzz he)
                  | (have hw0 : ¬ wys _ _ _ _ _ _ = 0 := fun q => hc80 ((lg_le (wys_lt o3 o2)).mpr q); have hho : hold F s.1 s.2.1 d w = true := (by unfold hold; rw [← wys_tell, hc64, decide_eq_true (Nat.pos_of_ne_zero hw0)]; rfl); rw [if_pos hc30, if_pos (show bitc w < fewO none by show bitc w < 9; omega), if_pos hho] at he; exact ih (w + 1) (some w) M2 (by omega) m2 (fun z e => by cases e; omega) he)
              · (first | rw [show (0 : Int32) = nI 0 from rfl, nI_ltI (by omega) (by omega)] at hc80 | rw [show (0 : Int32) = nI 0 from rfl, nI_leI (by omega) (by omega)] at hc80 | skip)
                refine v_iload_4 dX12_findFalse_83 ?_
                refine v_istore_3 rfl dX12_findFalse_85 ?_
                refine v_iinc_4 (v := 1) rfl dX12_findFalse_86 (by decide) ?_
                rw [show nI w + 1 = nI (w + 1) from nI_1 w]
                refine v_goto (tgt := 16) dX12_findFalse_89 (by decide) ?_
                first
                  | (rw [if_neg hc30] at he; exact ih (w + 1) _ M (by omega) m1 hzz he)
                  | (rw [if_pos hc30, if_neg (show ¬ bitc w < fewO none from hc48)] at he; exact ih (w + 1) _ M (by omega) m1 hzz he)
                  | (rw [if_pos hc30, if_pos (show bitc w < fewO none by show bitc w < 9; omega), if_neg (show ¬ hold F s.1 s.2.1 d w = true from fun q => by unfold hold at q; rw [hc64, Bool.false_and] at q; cases q)] at he; exact ih (w + 1) _ M (by omega) m1 hzz he)
                  | (have hw0 := (lg_le (wys_lt o3 o2)).mp hc80; rw [if_pos hc30, if_pos (show bitc w < fewO none by show bitc w < 9; omega), if_neg (show ¬ hold F s.1 s.2.1 d w = true from fun q => by unfold hold at q; rw [← wys_tell, hw0] at q; simp at q)] at he; exact ih (w + 1) _ M2 (by omega) m2 hzz he)
                  | (have hw0 : ¬ wys _ _ _ _ _ _ = 0 := fun q => hc80 ((lg_le (wys_lt o3 o2)).mpr q); have hho : hold F s.1 s.2.1 d w = true := (by unfold hold; rw [← wys_tell, hc64, decide_eq_true (Nat.pos_of_ne_zero hw0)]; rfl); rw [if_pos hc30, if_pos (show bitc w < fewO none by show bitc w < 9; omega), if_pos hho] at he; exact ih (w + 1) (some w) M2 (by omega) m2 (fun z e => by cases e; omega) he)
          · exact absurd rfl hc36
    | some z =>
      have hz := hzz z rfl
      have b8z := bitc_8 z
      show VV yX12_findFalse cX12_findFalse 5 (some .int) 5 Q b ad 16 [some (.ref (b + 157)), some (.int (nI d)), some (.int (nI (ofd F d))), some (.int (nI z)), some (.int (nI w))] [] I M R
      refine v_iload_4 dX12_findFalse_16 ?_
      refine v_sipush (v := nI 256) dX12_findFalse_18 (by decide) ?_
      refine v_icmp_ge (tgt := 92) dX12_findFalse_21 (by decide) (fun hc21 => ?_) (fun hc21 => ?_)
      · first | omega | (have q := (nI_leI (by omega) (by omega)).mp hc21; omega)
      · (try rw [nI_leI (by omega) (by omega)] at hc21)
        refine v_iload_4 dX12_findFalse_24 ?_
        refine v_iload_2 dX12_findFalse_26 ?_
        refine v_iconst (v := -1) dX12_findFalse_27 (by decide) ?_
        refine v_ixor dX12_findFalse_28 ?_
        refine v_iand dX12_findFalse_29 ?_
        rw [andn_I]
        refine v_if_ne (tgt := 86) dX12_findFalse_30 (by decide) (fun hc30 => ?_) (fun hc30 => ?_)
        · (first | rw [bI_0, Bool.not_eq_false] at hc30 | rw [bI_0] at hc30 | rw [show (0 : Int32) = nI 0 from rfl, nI_eq (by omega) (by omega)] at hc30 | skip)
          refine v_iinc_4 (v := 1) rfl dX12_findFalse_86 (by decide) ?_
          rw [show nI w + 1 = nI (w + 1) from nI_1 w]
          refine v_goto (tgt := 16) dX12_findFalse_89 (by decide) ?_
          first
            | (rw [if_neg hc30] at he; exact ih (w + 1) _ M (by omega) m1 hzz he)
            | (rw [if_pos hc30, if_neg (show ¬ bitc w < fewO (some z) from hc48)] at he; exact ih (w + 1) _ M (by omega) m1 hzz he)
            | (rw [if_pos hc30, if_pos (show bitc w < fewO (some z) from hc48), if_neg (show ¬ hold F s.1 s.2.1 d w = true from fun q => by unfold hold at q; rw [hc64, Bool.false_and] at q; cases q)] at he; exact ih (w + 1) _ M (by omega) m1 hzz he)
            | (have hw0 := (lg_le (wys_lt o3 o2)).mp hc80; rw [if_pos hc30, if_pos (show bitc w < fewO (some z) from hc48), if_neg (show ¬ hold F s.1 s.2.1 d w = true from fun q => by unfold hold at q; rw [← wys_tell, hw0] at q; simp at q)] at he; exact ih (w + 1) _ M2 (by omega) m2 hzz he)
            | (have hw0 : ¬ wys _ _ _ _ _ _ = 0 := fun q => hc80 ((lg_le (wys_lt o3 o2)).mpr q); have hho : hold F s.1 s.2.1 d w = true := (by unfold hold; rw [← wys_tell, hc64, decide_eq_true (Nat.pos_of_ne_zero hw0)]; rfl); rw [if_pos hc30, if_pos (show bitc w < fewO (some z) from hc48), if_pos hho] at he; exact ih (w + 1) (some w) M2 (by omega) m2 (fun z e => by cases e; omega) he)
        · (first | rw [bI_0, Bool.not_eq_false] at hc30 | rw [bI_0] at hc30 | rw [show (0 : Int32) = nI 0 from rfl, nI_eq (by omega) (by omega)] at hc30 | skip)
          refine v_iload_3 dX12_findFalse_33 ?_
          refine v_bipush (v := -2) dX12_findFalse_34 (by decide) ?_
          refine v_icmp_eq (tgt := 54) dX12_findFalse_36 (by decide) (fun hc36 => ?_) (fun hc36 => ?_)
          · exact absurd hc36 (nIm2 (by omega))
          · (try rw [nI_eq (by omega) (by omega)] at hc36)
            refine v_iload_4 dX12_findFalse_39 ?_
            refine u_callS_1 dX12_findFalse_41 ml_X12_390 ms_X12_bits (by decide) (Nat.le_of_ble_eq_true rfl) (c_X12_bits (by omega) ?_)
            refine v_iload_3 dX12_findFalse_44 ?_
            refine u_callS_1 dX12_findFalse_45 ml_X12_390 ms_X12_bits (by decide) (Nat.le_of_ble_eq_true rfl) (c_X12_bits (by omega) ?_)
            refine v_icmp_lt (tgt := 54) dX12_findFalse_48 (by decide) (fun hc48 => ?_) (fun hc48 => ?_)
            · (try rw [nI_ltI (by omega) (by omega)] at hc48)
              refine v_aload_0 dX12_findFalse_54 ?_
              refine v_iload_2 dX12_findFalse_55 ?_
              refine v_iload_4 dX12_findFalse_56 ?_
              refine v_iconst (v := -1) dX12_findFalse_58 (by decide) ?_
              refine v_ixor dX12_findFalse_59 ?_
              refine v_iand dX12_findFalse_60 ?_
              rw [andn_I]
              refine u_callV_1 dX12_findFalse_61 ml_X12_393 mv_X12_areApart (by first | assumption | rfl | exact led_1 (by assumption) | exact led_2 (by assumption) | exact bk_m (by assumption) (by first | assumption | omega) | exact bk_p (by assumption) (by first | assumption | omega) | exact bk_o (by assumption) (by first | assumption | omega) | exact bk_s (by assumption) (by first | assumption | omega) | exact bk_1 (by assumption) | exact bk_2 (by assumption) | exact bk_3 (by assumption) | exact bk_4 (by assumption) | exact bk_5 (by assumption) | exact bk_6 (by assumption) | exact bk_7 (by assumption) | exact bk_8 (by assumption) | exact sh_ring _ (by first | assumption | omega) | exact sh_imgs _ (by first | assumption | omega)) (by decide) rfl (by decide) (Nat.le_of_ble_eq_true rfl) (c_X12_areApart hR hr hr31 ?_)
              refine v_if_eq (tgt := 86) dX12_findFalse_64 (by decide) (fun hc64 => ?_) (fun hc64 => ?_)
              · (first | rw [bI_0, Bool.not_eq_false] at hc64 | rw [bI_0] at hc64 | rw [show (0 : Int32) = nI 0 from rfl, nI_eq (by omega) (by omega)] at hc64 | skip)
                refine v_iinc_4 (v := 1) rfl dX12_findFalse_86 (by decide) ?_
                rw [show nI w + 1 = nI (w + 1) from nI_1 w]
                refine v_goto (tgt := 16) dX12_findFalse_89 (by decide) ?_
                first
                  | (rw [if_neg hc30] at he; exact ih (w + 1) _ M (by omega) m1 hzz he)
                  | (rw [if_pos hc30, if_neg (show ¬ bitc w < fewO (some z) from hc48)] at he; exact ih (w + 1) _ M (by omega) m1 hzz he)
                  | (rw [if_pos hc30, if_pos (show bitc w < fewO (some z) from hc48), if_neg (show ¬ hold F s.1 s.2.1 d w = true from fun q => by unfold hold at q; rw [hc64, Bool.false_and] at q; cases q)] at he; exact ih (w + 1) _ M (by omega) m1 hzz he)
                  | (have hw0 := (lg_le (wys_lt o3 o2)).mp hc80; rw [if_pos hc30, if_pos (show bitc w < fewO (some z) from hc48), if_neg (show ¬ hold F s.1 s.2.1 d w = true from fun q => by unfold hold at q; rw [← wys_tell, hw0] at q; simp at q)] at he; exact ih (w + 1) _ M2 (by omega) m2 hzz he)
                  | (have hw0 : ¬ wys _ _ _ _ _ _ = 0 := fun q => hc80 ((lg_le (wys_lt o3 o2)).mpr q); have hho : hold F s.1 s.2.1 d w = true := (by unfold hold; rw [← wys_tell, hc64, decide_eq_true (Nat.pos_of_ne_zero hw0)]; rfl); rw [if_pos hc30, if_pos (show bitc w < fewO (some z) from hc48), if_pos hho] at he; exact ih (w + 1) (some w) M2 (by omega) m2 (fun z e => by cases e; omega) he)
              · (first | rw [bI_0, Bool.not_eq_false] at hc64 | rw [bI_0] at hc64 | rw [show (0 : Int32) = nI 0 from rfl, nI_eq (by omega) (by omega)] at hc64 | skip)
                refine v_aload_0 dX12_findFalse_67 ?_
                refine v_iload_1 dX12_findFalse_68 ?_
                refine v_iload_2 dX12_findFalse_69 ?_
                refine v_iload_4 dX12_findFalse_70 ?_
                refine v_iconst (v := -1) dX12_findFalse_72 (by decide) ?_
                refine v_ixor dX12_findFalse_73 ?_
                refine v_iand dX12_findFalse_74 ?_
                rw [andn_I]
                refine u_callV_2 dX12_findFalse_75 ml_X12_396 mv_X12_countWearers (by first | assumption | rfl | exact led_1 (by assumption) | exact led_2 (by assumption) | exact bk_m (by assumption) (by first | assumption | omega) | exact bk_p (by assumption) (by first | assumption | omega) | exact bk_o (by assumption) (by first | assumption | omega) | exact bk_s (by assumption) (by first | assumption | omega) | exact bk_1 (by assumption) | exact bk_2 (by assumption) | exact bk_3 (by assumption) | exact bk_4 (by assumption) | exact bk_5 (by assumption) | exact bk_6 (by assumption) | exact bk_7 (by assumption) | exact bk_8 (by assumption) | exact sh_ring _ (by first | assumption | omega) | exact sh_imgs _ (by first | assumption | omega)) (by decide) rfl (by decide) (Nat.le_of_ble_eq_true rfl) (c_X12_countWearers (s := s) (t1 := none) (t2 := none) hR hr hd hr31 hrd ht1 ht2 (fun M2 k1 => ?_))
                have m2 : ∀ x, x ≠ 170 → M2 x = L x := fun x q => by rw [k1 x q]; exact m1 x q
                refine v_lconst (v := 0) dX12_findFalse_78 (by decide) ?_
                refine v_lcmp dX12_findFalse_79 ?_
                refine v_if_le (tgt := 86) dX12_findFalse_80 (by decide) (fun hc80 => ?_) (fun hc80 => ?_)
                · (first | rw [show (0 : Int32) = nI 0 from rfl, nI_ltI (by omega) (by omega)] at hc80 | rw [show (0 : Int32) = nI 0 from rfl, nI_leI (by omega) (by omega)] at hc80 | skip)
                  refine v_iinc_4 (v := 1) rfl dX12_findFalse_86 (by decide) ?_
                  rw [show nI w + 1 = nI (w + 1) from nI_1 w]
                  refine v_goto (tgt := 16) dX12_findFalse_89 (by decide) ?_
                  first
                    | (rw [if_neg hc30] at he; exact ih (w + 1) _ M (by omega) m1 hzz he)
                    | (rw [if_pos hc30, if_neg (show ¬ bitc w < fewO (some z) from hc48)] at he; exact ih (w + 1) _ M (by omega) m1 hzz he)
                    | (rw [if_pos hc30, if_pos (show bitc w < fewO (some z) from hc48), if_neg (show ¬ hold F s.1 s.2.1 d w = true from fun q => by unfold hold at q; rw [hc64, Bool.false_and] at q; cases q)] at he; exact ih (w + 1) _ M (by omega) m1 hzz he)
                    | (have hw0 := (lg_le (wys_lt o3 o2)).mp hc80; rw [if_pos hc30, if_pos (show bitc w < fewO (some z) from hc48), if_neg (show ¬ hold F s.1 s.2.1 d w = true from fun q => by unfold hold at q; rw [← wys_tell, hw0] at q; simp at q)] at he; exact ih (w + 1) _ M2 (by omega) m2 hzz he)
                    | (have hw0 : ¬ wys _ _ _ _ _ _ = 0 := fun q => hc80 ((lg_le (wys_lt o3 o2)).mpr q); have hho : hold F s.1 s.2.1 d w = true := (by unfold hold; rw [← wys_tell, hc64, decide_eq_true (Nat.pos_of_ne_zero hw0)]; rfl); rw [if_pos hc30, if_pos (show bitc w < fewO (some z) from hc48), if_pos hho] at he; exact ih (w + 1) (some w) M2 (by omega) m2 (fun z e => by cases e; omega) he)
                · (first | rw [show (0 : Int32) = nI 0 from rfl, nI_ltI (by omega) (by omega)] at hc80 | rw [show (0 : Int32) = nI 0 from rfl, nI_leI (by omega) (by omega)] at hc80 | skip)
                  refine v_iload_4 dX12_findFalse_83 ?_
                  refine v_istore_3 rfl dX12_findFalse_85 ?_
                  refine v_iinc_4 (v := 1) rfl dX12_findFalse_86 (by decide) ?_
                  rw [show nI w + 1 = nI (w + 1) from nI_1 w]
                  refine v_goto (tgt := 16) dX12_findFalse_89 (by decide) ?_
                  first
                    | (rw [if_neg hc30] at he; exact ih (w + 1) _ M (by omega) m1 hzz he)
                    | (rw [if_pos hc30, if_neg (show ¬ bitc w < fewO (some z) from hc48)] at he; exact ih (w + 1) _ M (by omega) m1 hzz he)
                    | (rw [if_pos hc30, if_pos (show bitc w < fewO (some z) from hc48), if_neg (show ¬ hold F s.1 s.2.1 d w = true from fun q => by unfold hold at q; rw [hc64, Bool.false_and] at q; cases q)] at he; exact ih (w + 1) _ M (by omega) m1 hzz he)
                    | (have hw0 := (lg_le (wys_lt o3 o2)).mp hc80; rw [if_pos hc30, if_pos (show bitc w < fewO (some z) from hc48), if_neg (show ¬ hold F s.1 s.2.1 d w = true from fun q => by unfold hold at q; rw [← wys_tell, hw0] at q; simp at q)] at he; exact ih (w + 1) _ M2 (by omega) m2 hzz he)
                    | (have hw0 : ¬ wys _ _ _ _ _ _ = 0 := fun q => hc80 ((lg_le (wys_lt o3 o2)).mpr q); have hho : hold F s.1 s.2.1 d w = true := (by unfold hold; rw [← wys_tell, hc64, decide_eq_true (Nat.pos_of_ne_zero hw0)]; rfl); rw [if_pos hc30, if_pos (show bitc w < fewO (some z) from hc48), if_pos hho] at he; exact ih (w + 1) (some w) M2 (by omega) m2 (fun z e => by cases e; omega) he)
            · (try rw [nI_ltI (by omega) (by omega)] at hc48)
              refine v_goto (tgt := 86) dX12_findFalse_51 (by decide) ?_
              refine v_iinc_4 (v := 1) rfl dX12_findFalse_86 (by decide) ?_
              rw [show nI w + 1 = nI (w + 1) from nI_1 w]
              refine v_goto (tgt := 16) dX12_findFalse_89 (by decide) ?_
              first
                | (rw [if_neg hc30] at he; exact ih (w + 1) _ M (by omega) m1 hzz he)
                | (rw [if_pos hc30, if_neg (show ¬ bitc w < fewO (some z) from hc48)] at he; exact ih (w + 1) _ M (by omega) m1 hzz he)
                | (rw [if_pos hc30, if_pos (show bitc w < fewO (some z) from hc48), if_neg (show ¬ hold F s.1 s.2.1 d w = true from fun q => by unfold hold at q; rw [hc64, Bool.false_and] at q; cases q)] at he; exact ih (w + 1) _ M (by omega) m1 hzz he)
                | (have hw0 := (lg_le (wys_lt o3 o2)).mp hc80; rw [if_pos hc30, if_pos (show bitc w < fewO (some z) from hc48), if_neg (show ¬ hold F s.1 s.2.1 d w = true from fun q => by unfold hold at q; rw [← wys_tell, hw0] at q; simp at q)] at he; exact ih (w + 1) _ M2 (by omega) m2 hzz he)
                | (have hw0 : ¬ wys _ _ _ _ _ _ = 0 := fun q => hc80 ((lg_le (wys_lt o3 o2)).mpr q); have hho : hold F s.1 s.2.1 d w = true := (by unfold hold; rw [← wys_tell, hc64, decide_eq_true (Nat.pos_of_ne_zero hw0)]; rfl); rw [if_pos hc30, if_pos (show bitc w < fewO (some z) from hc48), if_pos hho] at he; exact ih (w + 1) (some w) M2 (by omega) m2 (fun z e => by cases e; omega) he)
end
