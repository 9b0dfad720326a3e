set_option maxHeartbeats 4000000 in
set_option maxRecDepth 100000 in
theorem sY_X11_four_1 (NF : Nat) (l : Launch) (dC : Nat → ClassId) (dI : Nat → Nat → Nat) (cy : Nat → ClassId) (y0 : Nat) (r : Nat → Nat) (p1 : Int32) (v : Nat → Int32) (f : Nat → Nat → Int32) (w : Int64) (g : Nat → Int64) (hIv : YI v) (hCf : YC f) (hRf : progOK (f 4) (f 5) (v 9).toInt.toNat)  (hf0 : (v 0).toInt ≤ 1596) : ctV l (dC, dI) cy yX11_four cX11_four 3 1 60 0 0 ((Nat → Int32) × (Nat → Nat → Int32) × (Int64) × (Nat → Int64)) [.ref y0, .int p1] (YW cy y0 r v f w g) (fun u => gsY_X11_four_1 NF p1 v f w g = u ∧ KV [0] u.1 v ∧ KF [0] u.2.1 f ∧ YI u.1 ∧ YC u.2.1 ∧ progOK (u.2.1 4) (u.2.1 5) (u.1 9).toInt.toNat ∧ u.1 1 = v 1 ∧ u.1 2 = v 2 ∧ u.1 3 = v 3 ∧ u.1 4 = v 4 ∧ u.1 5 = v 5 ∧ u.1 8 = v 8 ∧ u.1 9 = v 9 ∧ u.1 10 = v 10 ∧ u.1 13 = v 13 ∧ u.1 14 = v 14 ∧ u.1 15 = v 15 ∧ u.1 17 = v 17 ∧ u.1 18 = v 18 ∧ u.1 24 = v 24 ∧ u.1 25 = v 25 ∧ u.1 35 = v 35 ∧ u.1 36 = v 36 ∧ u.1 38 = v 38 ∧ u.1 39 = v 39 ∧ ((u.1 0).toInt = (v 0).toInt + 4)) (fun u => YW cy y0 r u.1 u.2.1 u.2.2.1 u.2.2.2) := by
  refine ctV_of (by decide) (Nat.le_of_ble_eq_true rfl) (fun p e s m below meth c A ls Q hx hb hml hts hown hnm hE hP hD hA hl ret => ?_)
  have hM_v : KV [0] v v := fun _ _ => rfl
  have hA_f : KF [0] f f := fun _ _ => rfl
  have hown : s.vm.findClass RX11 = some m.cls := hown
  have hS : va_S A s.heap s.heap [] := va_S.rf
  have hl : lv_has ls 3 [(0, .ref y0), (1, .int p1)] := hl
  refine lv_bipush (v := 24) hx hb dX11_four_0 rfl ?_
  refine lv_istore_n (lv' := [(2, .int 24), (0, .ref y0), (1, .int p1)]) hx hb dX11_four_2 rfl hl (Nat.le_of_ble_eq_true rfl) rfl (fun ls hl => ?_)
  have lp1 : ∀ (n1 : Nat) (l2_1 : Int32) (v1 : Nat → Int32) (f1 : Nat → Nat → Int32) (w1 : Int64) (g1 : Nat → Int64), YI v1 → YC f1 → progOK (f1 4) (f1 5) (v1 9).toInt.toNat → v1 1 = (v 1) → v1 2 = (v 2) → v1 3 = (v 3) → v1 4 = (v 4) → v1 5 = (v 5) → v1 8 = (v 8) → v1 9 = (v 9) → v1 10 = (v 10) → v1 13 = (v 13) → v1 14 = (v 14) → v1 15 = (v 15) → v1 17 = (v 17) → v1 18 = (v 18) → v1 24 = (v 24) → v1 25 = (v 25) → v1 35 = (v 35) → v1 36 = (v 36) → v1 38 = (v 38) → v1 39 = (v 39) → gsY_X11_four_1_L1 NF p1 n1 l2_1 v1 f1 w1 g1 = (gsY_X11_four_1 NF p1 v f w g) → ((-8 : Int) ≤ l2_1.toInt ∧ l2_1.toInt ≤ 24) → (8 * (v1 0).toInt + l2_1.toInt = 8 * (v 0).toInt + 24) → KV [0] v1 v → KF [0] f1 f → (l2_1.toInt + 8).toNat < n1 → ∀ (H : Heap) (locs : List Loc) (ls : Array Slot), va_P (dC, dI) vwCl (YW cy y0 r v1 f1 w1 g1) H → va_D A (YW cy y0 r v1 f1 w1 g1) → va_S A s.heap H locs → lv_has ls 3 [(2, .int l2_1), (0, .ref y0), (1, .int p1)] → W p l e { frames := 1, cells := 0, slots := 0, locals := 60 } s m ([.ref y0, .int p1] : List Value).toArray below meth c H locs 0 0 Q (F0 m 3 ls []) := by
    intro n1
    induction n1 with
    | zero => intro l2_1 v1 f1 w1 g1 hIv1 hCf1 hRf1 hq1_v1 hq2_v1 hq3_v1 hq4_v1 hq5_v1 hq8_v1 hq9_v1 hq10_v1 hq13_v1 hq14_v1 hq15_v1 hq17_v1 hq18_v1 hq24_v1 hq25_v1 hq35_v1 hq36_v1 hq38_v1 hq39_v1 hT1 hr2_1 hx0_1 hM_v1 hA_f1 hm; exact absurd hm (Nat.not_lt_zero _)
    | succ n1 ih1 =>
      intro l2_1 v1 f1 w1 g1 hIv1 hCf1 hRf1 hq1_v1 hq2_v1 hq3_v1 hq4_v1 hq5_v1 hq8_v1 hq9_v1 hq10_v1 hq13_v1 hq14_v1 hq15_v1 hq17_v1 hq18_v1 hq24_v1 hq25_v1 hq35_v1 hq36_v1 hq38_v1 hq39_v1 hT1 hr2_1 hx0_1 hM_v1 hA_f1 hm1 H locs ls hP hD hS hl
      have b0_v1 : 0 ≤ (v1 0).toInt ∧ (v1 0).toInt ≤ 1600 := Yb_0 hIv1.1
      refine lv_iload_n hx hb dX11_four_3 rfl (lv_at hl 0 rfl) ?_
      refine lv_if_lt (tgt := 39) hx hb dX11_four_4 rfl (fun c2 => ?_) (fun c2 => ?_)
      · skip
        have zc2 : l2_1.toInt < 0 := zLp rfl tc_0 c2
        exact ret (v1, f1, w1, g1) _ _ _ _ _ _ ⟨(hT1.symm.trans (gsY_X11_four_1_q0 c2)), hM_v1, hA_f1, hIv1, hCf1, hRf1, (show v1 1 = v 1 from hq1_v1), (show v1 2 = v 2 from hq2_v1), (show v1 3 = v 3 from hq3_v1), (show v1 4 = v 4 from hq4_v1), (show v1 5 = v 5 from hq5_v1), (show v1 8 = v 8 from hq8_v1), (show v1 9 = v 9 from hq9_v1), (show v1 10 = v 10 from hq10_v1), (show v1 13 = v 13 from hq13_v1), (show v1 14 = v 14 from hq14_v1), (show v1 15 = v 15 from hq15_v1), (show v1 17 = v 17 from hq17_v1), (show v1 18 = v 18 from hq18_v1), (show v1 24 = v 24 from hq24_v1), (show v1 25 = v 25 from hq25_v1), (show v1 35 = v 35 from hq35_v1), (show v1 36 = v 36 from hq36_v1), (show v1 38 = v 38 from hq38_v1), (show v1 39 = v 39 from hq39_v1), (show (v1 0).toInt = (v 0).toInt + 4 from om_271 hr2_1 hx0_1 zc2)⟩ hP hD hS dX11_four_39 (Nat.le_refl _) (Nat.le_refl _)
      · skip
        have zc2 : ¬ (l2_1.toInt < 0) := zLn rfl tc_0 c2
        refine lv_aload_n hx hb dX11_four_7 rfl (lv_at hl 1 rfl) ?_
        refine va_get (D := (dC, dI)) (ci := 11) (v := .ref (r 0)) (C := RX11) (T := TX11) (N := 79) hx hb hts inB_11 hown hE.1 hP 0 rfl rfl 0 (Nat.le_of_ble_eq_true rfl) (hts _ k_1320) (fun _ h9 => h9) rfl dX11_four_8 ?_
        refine lv_aload_n hx hb dX11_four_11 rfl (lv_at hl 1 rfl) ?_
        refine va_get (D := (dC, dI)) (ci := 11) (v := .int (v1 0)) (C := RX11) (T := TX11) (N := 79) hx hb hts inB_11 hown hE.1 hP 0 rfl rfl 1 (Nat.le_of_ble_eq_true rfl) (hts _ k_1321) (fun _ h9 => h9) rfl dX11_four_12 ?_
        refine lv_iload_n hx hb dX11_four_15 rfl (lv_at hl 2 rfl) ?_
        refine lv_iload_n hx hb dX11_four_16 rfl (lv_at hl 0 rfl) ?_
        refine lv_ishr hx hb dX11_four_17 ?_
        refine lv_topi (fun t3 et3 => ?_)
        refine lv_sipush (v := 255) hx hb dX11_four_18 rfl ?_
        refine lv_iand hx hb dX11_four_21 ?_
        refine lv_topi (fun t4 et4 => ?_)
        refine stI hx hb hE hP hD hS 1 rfl (vpI (k := 1600) rfl (show 0 ≤ (v1 0).toInt from om_2 b0_v1) (show (v1 0).toInt < 1600 from om_272 hf0 hx0_1 zc2)) rfl dX11_four_22 (fun H locs hP hD hS => ?_)
        obtain ⟨f5, ef5, hP, hD⟩ : ∃ fz9, fz9 = upd2 f1 0 (upd (f1 0) (v1 0).toNatClampNeg t4) ∧ va_P (dC, dI) vwCl (YW cy y0 r v1 fz9 w1 g1) H ∧ va_D A (YW cy y0 r v1 fz9 w1 g1) := ⟨_, rfl, hP, hD⟩
        have hCf5 : YC f5 := by rw [ef5]; exact hCf1
        have hRf5 : progOK (f5 4) (f5 5) (v1 9).toInt.toNat := by rw [ef5]; exact hRf1
        have hA_f5 : KF [0] f5 f := by rw [ef5]; exact KF.up hA_f1 rfl
        refine lv_aload_n hx hb dX11_four_23 rfl (lv_at hl 1 rfl) ?_
        refine lv_dup hx hb dX11_four_24 rfl ?_
        refine va_get (D := (dC, dI)) (ci := 11) (v := .int (v1 0)) (C := RX11) (T := TX11) (N := 79) hx hb hts inB_11 hown hE.1 hP 0 rfl rfl 1 (Nat.le_of_ble_eq_true rfl) (hts _ k_1321) (fun _ h9 => h9) rfl dX11_four_25 ?_
        refine lv_iconst (v := 1) hx hb dX11_four_28 rfl ?_
        refine lv_iadd hx hb dX11_four_29 ?_
        refine lv_topi (fun t6 et6 => ?_)
        have zt6 : t6.toInt = (v1 0).toInt + 1 := (congrArg Int32.toInt et6).trans (add_i rfl tc_1 (om_4 b0_v1) (om_57 b0_v1))
        refine va_put (D := (dC, dI)) (ci := 11) (v := .int t6) (ty := tyX11 1) (C := RX11) (T := TX11) (N := 79) hx hb hts inB_11 tyX11 tyX11_ok nmX11 hown hE.1 hP hD hS 0 rfl rfl 1 (Nat.le_of_ble_eq_true rfl) (hts _ k_1321) (fun _ h9 => h9) rfl (tyX11_ok 1 (Nat.le_of_ble_eq_true rfl)) rfl rfl (Nat.le_of_ble_eq_true rfl) dX11_four_30 (fun H locs hP hD hS => ?_)
        have hP : va_P (dC, dI) vwCl (YW cy y0 r (upd v1 0 t6) f5 w1 g1) H := hP
        have hD : va_D A (YW cy y0 r (upd v1 0 t6) f5 w1 g1) := hD
        obtain ⟨t8, et8⟩ : ∃ y : Int32, y = l2_1 + (-8) := ⟨_, rfl⟩
        have zt8 : t8.toInt = l2_1.toInt + (-8) := (congrArg Int32.toInt et8).trans (add_i rfl tc_m8 (om_6 zc2) (om_273 hr2_1))
        refine lv_iinc (v := t8) (lv' := [(2, .int t8), (0, .ref y0), (1, .int p1)]) hx hb dX11_four_33 hl (k := 0) rfl et8.symm (Nat.le_of_ble_eq_true rfl) rfl (fun ls hl => ?_)
        refine lv_goto (tgt := 3) hx hb dX11_four_36 rfl ?_
        exact ih1 t8 (upd v1 0 t6) f5 w1 g1 ⟨(Yu_0 (x := t6) hIv1.1 (show (0 : Int) ≤ t6.toInt from om_8 b0_v1 zt6) (show t6.toInt ≤ (1600 : Int) from om_274 hf0 hx0_1 zc2 zt6)), hIv1.2⟩ hCf5 hRf5 hq1_v1 hq2_v1 hq3_v1 hq4_v1 hq5_v1 hq8_v1 hq9_v1 hq10_v1 hq13_v1 hq14_v1 hq15_v1 hq17_v1 hq18_v1 hq24_v1 hq25_v1 hq35_v1 hq36_v1 hq38_v1 hq39_v1 ((gsY_X11_four_1_q1 c2 et3 et4 ef5 et6 et8).symm.trans hT1) ⟨show (-8 : Int) ≤ t8.toInt from om_275 zc2 zt8, show t8.toInt ≤ (24 : Int) from om_276 hr2_1 zt8⟩ (show 8 * t6.toInt + t8.toInt = 8 * (v 0).toInt + 24 from om_277 hx0_1 zt6 zt8) (KV.up (j := 0) (x := t6) hM_v1 rfl) hA_f5 (show (t8.toInt + 8).toNat < n1 from om_278 hm1 zc2 zt8) _ _ _ hP hD hS (lv_sub hl [0, 1, 2] rfl)
  exact lp1 (4294967296 + NF) 24 v f w g hIv hCf hRf rfl rfl rfl rfl rfl rfl rfl rfl rfl rfl rfl rfl rfl rfl rfl rfl rfl rfl rfl gsY_X11_four_1_q2.symm ⟨by decide, by decide⟩ (show 8 * (v 0).toInt + (24 : Int32).toInt = 8 * (v 0).toInt + 24 from om_279 tc_24) hM_v hA_f (show ((24 : Int32).toInt + 8).toNat < 4294967296 + NF from om_280 tc_24) _ _ _ hP hD hS (lv_sub hl [0, 1, 2] rfl)
set_option maxHeartbeats 4000000 in
set_option maxRecDepth 100000 in
theorem sY_X11_feed_1 (NF : Nat) (l : Launch) (dC : Nat → ClassId) (dI : Nat → Nat → Nat) (cy : Nat → ClassId) (y0 : Nat) (r : Nat → Nat) (p1 : Int32) (p2 : Int32) (p3 : Int32) (p4 : Int32) (p5 : Int32) (v : Nat → Int32) (f : Nat → Nat → Int32) (w : Int64) (g : Nat → Int64) (hIv : YI v) (hCf : YC f) (hRf : progOK (f 4) (f 5) (v 9).toInt.toNat)  : ctI l (dC, dI) cy yX11_feed cX11_feed 6 .int 2 82 0 0 ((Nat → Int32) × (Nat → Nat → Int32) × (Int64) × (Nat → Int64)) [.ref y0, .int p1, .int p2, .int p3, .int p4, .int p5] (YW cy y0 r v f w g) (fun r u => gsY_X11_feed_1 NF p1 p2 p3 p4 p5 v f w g = (r, u) ∧ KV [0] u.1 v ∧ KF [0] u.2.1 f ∧ YI u.1 ∧ YC u.2.1 ∧ progOK (u.2.1 4) (u.2.1 5) (u.1 9).toInt.toNat ∧ u.1 1 = v 1 ∧ u.1 2 = v 2 ∧ u.1 3 = v 3 ∧ u.1 4 = v 4 ∧ u.1 5 = v 5 ∧ u.1 8 = v 8 ∧ u.1 9 = v 9 ∧ u.1 10 = v 10 ∧ u.1 13 = v 13 ∧ u.1 14 = v 14 ∧ u.1 15 = v 15 ∧ u.1 17 = v 17 ∧ u.1 18 = v 18 ∧ u.1 24 = v 24 ∧ u.1 25 = v 25 ∧ u.1 35 = v 35 ∧ u.1 36 = v 36 ∧ u.1 38 = v 38 ∧ u.1 39 = v 39) (fun u => YW cy y0 r u.1 u.2.1 u.2.2.1 u.2.2.2) := by
  refine ctI_of (by decide) (Nat.le_of_ble_eq_true rfl) (fun p e s m below meth c A ls Q hx hb hml hts hown hE hP hD hA hl ret => ?_)
  have hM_v : KV [0] v v := fun _ _ => rfl
  have hA_f : KF [0] f f := fun _ _ => rfl
  have hown : s.vm.findClass RX11 = some m.cls := hown
  have hS : va_S A s.heap s.heap [] := va_S.rf
  have hl : lv_has ls 6 [(0, .ref y0), (1, .int p1), (2, .int p2), (3, .int p3), (4, .int p4), (5, .int p5)] := hl
  refine lv_aload_n hx hb dX11_feed_0 rfl (lv_at hl 0 rfl) ?_
  refine va_get (D := (dC, dI)) (ci := 11) (v := .int (v 0)) (C := RX11) (T := TX11) (N := 79) hx hb hts inB_11 hown hE.1 hP 0 rfl rfl 1 (Nat.le_of_ble_eq_true rfl) (hts _ k_1321) (fun _ h9 => h9) rfl dX11_feed_1 ?_
  have b0_v : 0 ≤ (v 0).toInt ∧ (v 0).toInt ≤ 1600 := Yb_0 hIv.1
  refine lv_bipush (v := 20) hx hb dX11_feed_4 rfl ?_
  refine lv_iadd hx hb dX11_feed_6 ?_
  refine lv_topi (fun t1 et1 => ?_)
  have zt1 : t1.toInt = (v 0).toInt + 20 := (congrArg Int32.toInt et1).trans (add_i rfl tc_20 (om_0 b0_v) (om_1 b0_v))
  refine lv_sipush (v := 1600) hx hb dX11_feed_7 rfl ?_
  refine lv_icmp_le (tgt := 15) hx hb dX11_feed_10 rfl (fun c3 => ?_) (fun c3 => ?_)
  · skip
    have zc3 : t1.toInt ≤ 1600 := zMp rfl tc_1600 c3
    refine lv_aload_n hx hb dX11_feed_15 rfl (lv_at hl 0 rfl) ?_
    refine lv_iload_n hx hb dX11_feed_16 rfl (lv_at hl 1 rfl) ?_
    refine cbVv (n := 1) (rest := []) hx hb hml hown hts hE hP hD hS hA (sY_X11_four_1 NF l dC dI cy y0 r p1 v f w g hIv hCf hRf (show (v 0).toInt ≤ 1596 from om_281 zt1 zc3)) k_1563 k_1565 k_40 k_114 k_1566 hd_yX11_four ⟨Nat.le_of_ble_eq_true rfl, Nat.le_of_ble_eq_true rfl⟩ 0 11 rfl rfl (rfl) hl.1 rfl (Nat.le_of_ble_eq_true rfl) dX11_feed_17 (fun u H locs hw hP hD hS => ?_)
    obtain ⟨hG4, hw⟩ := hw
    obtain ⟨v5, f6, w7, g8⟩ := u
    obtain ⟨kV_v5, kF_f6, hIv5, hCf6, hRf6, hk1_v5, hk2_v5, hk3_v5, hk4_v5, hk5_v5, hk8_v5, hk9_v5, hk10_v5, hk13_v5, hk14_v5, hk15_v5, hk17_v5, hk18_v5, hk24_v5, hk25_v5, hk35_v5, hk36_v5, hk38_v5, hk39_v5, pv9⟩ := hw
    have hM_v5 : KV [0] v5 v := KV.tr kV_v5 hM_v rfl
    have hA_f6 : KF [0] f6 f := KF.tr kF_f6 hA_f rfl
    have hP : va_P (dC, dI) vwCl (YW cy y0 r v5 f6 w7 g8) H := hP
    have hD : va_D A (YW cy y0 r v5 f6 w7 g8) := hD
    have pv9 : (v5 0).toInt = (v 0).toInt + 4 := pv9
    refine lv_aload_n hx hb dX11_feed_20 rfl (lv_at hl 0 rfl) ?_
    refine lv_iload_n hx hb dX11_feed_21 rfl (lv_at hl 2 rfl) ?_
    refine cbVv (n := 1) (rest := []) hx hb hml hown hts hE hP hD hS hA (sY_X11_four_1 NF l dC dI cy y0 r p2 v5 f6 w7 g8 hIv5 hCf6 hRf6 (show (v5 0).toInt ≤ 1596 from om_282 zt1 zc3 pv9)) k_1563 k_1565 k_40 k_114 k_1566 hd_yX11_four ⟨Nat.le_of_ble_eq_true rfl, Nat.le_of_ble_eq_true rfl⟩ 0 11 rfl rfl (rfl) hl.1 rfl (Nat.le_of_ble_eq_true rfl) dX11_feed_22 (fun u H locs hw hP hD hS => ?_)
    obtain ⟨hG10, hw⟩ := hw
    obtain ⟨v11, f12, w13, g14⟩ := u
    obtain ⟨kV_v11, kF_f12, hIv11, hCf12, hRf12, hk1_v11, hk2_v11, hk3_v11, hk4_v11, hk5_v11, hk8_v11, hk9_v11, hk10_v11, hk13_v11, hk14_v11, hk15_v11, hk17_v11, hk18_v11, hk24_v11, hk25_v11, hk35_v11, hk36_v11, hk38_v11, hk39_v11, pv15⟩ := hw
    have hM_v11 : KV [0] v11 v := KV.tr kV_v11 hM_v5 rfl
    have hA_f12 : KF [0] f12 f := KF.tr kF_f12 hA_f6 rfl
    have hP : va_P (dC, dI) vwCl (YW cy y0 r v11 f12 w13 g14) H := hP
    have hD : va_D A (YW cy y0 r v11 f12 w13 g14) := hD
    have pv15 : (v11 0).toInt = (v5 0).toInt + 4 := pv15
    refine lv_aload_n hx hb dX11_feed_25 rfl (lv_at hl 0 rfl) ?_
    refine lv_iload_n hx hb dX11_feed_26 rfl (lv_at hl 3 rfl) ?_
    refine cbVv (n := 1) (rest := []) hx hb hml hown hts hE hP hD hS hA (sY_X11_four_1 NF l dC dI cy y0 r p3 v11 f12 w13 g14 hIv11 hCf12 hRf12 (show (v11 0).toInt ≤ 1596 from om_283 zt1 zc3 pv9 pv15)) k_1563 k_1565 k_40 k_114 k_1566 hd_yX11_four ⟨Nat.le_of_ble_eq_true rfl, Nat.le_of_ble_eq_true rfl⟩ 0 11 rfl rfl (rfl) hl.1 rfl (Nat.le_of_ble_eq_true rfl) dX11_feed_27 (fun u H locs hw hP hD hS => ?_)
    obtain ⟨hG16, hw⟩ := hw
    obtain ⟨v17, f18, w19, g20⟩ := u
    obtain ⟨kV_v17, kF_f18, hIv17, hCf18, hRf18, hk1_v17, hk2_v17, hk3_v17, hk4_v17, hk5_v17, hk8_v17, hk9_v17, hk10_v17, hk13_v17, hk14_v17, hk15_v17, hk17_v17, hk18_v17, hk24_v17, hk25_v17, hk35_v17, hk36_v17, hk38_v17, hk39_v17, pv21⟩ := hw
    have hM_v17 : KV [0] v17 v := KV.tr kV_v17 hM_v11 rfl
    have hA_f18 : KF [0] f18 f := KF.tr kF_f18 hA_f12 rfl
    have hP : va_P (dC, dI) vwCl (YW cy y0 r v17 f18 w19 g20) H := hP
    have hD : va_D A (YW cy y0 r v17 f18 w19 g20) := hD
    have pv21 : (v17 0).toInt = (v11 0).toInt + 4 := pv21
    refine lv_aload_n hx hb dX11_feed_30 rfl (lv_at hl 0 rfl) ?_
    refine lv_iload hx hb dX11_feed_31 (lv_at hl 4 rfl) ?_
    refine cbVv (n := 1) (rest := []) hx hb hml hown hts hE hP hD hS hA (sY_X11_four_1 NF l dC dI cy y0 r p4 v17 f18 w19 g20 hIv17 hCf18 hRf18 (show (v17 0).toInt ≤ 1596 from om_284 zt1 zc3 pv9 pv15 pv21)) k_1563 k_1565 k_40 k_114 k_1566 hd_yX11_four ⟨Nat.le_of_ble_eq_true rfl, Nat.le_of_ble_eq_true rfl⟩ 0 11 rfl rfl (rfl) hl.1 rfl (Nat.le_of_ble_eq_true rfl) dX11_feed_33 (fun u H locs hw hP hD hS => ?_)
    obtain ⟨hG22, hw⟩ := hw
    obtain ⟨v23, f24, w25, g26⟩ := u
    obtain ⟨kV_v23, kF_f24, hIv23, hCf24, hRf24, hk1_v23, hk2_v23, hk3_v23, hk4_v23, hk5_v23, hk8_v23, hk9_v23, hk10_v23, hk13_v23, hk14_v23, hk15_v23, hk17_v23, hk18_v23, hk24_v23, hk25_v23, hk35_v23, hk36_v23, hk38_v23, hk39_v23, pv27⟩ := hw
    have hM_v23 : KV [0] v23 v := KV.tr kV_v23 hM_v17 rfl
    have hA_f24 : KF [0] f24 f := KF.tr kF_f24 hA_f18 rfl
    have hP : va_P (dC, dI) vwCl (YW cy y0 r v23 f24 w25 g26) H := hP
    have hD : va_D A (YW cy y0 r v23 f24 w25 g26) := hD
    have pv27 : (v23 0).toInt = (v17 0).toInt + 4 := pv27
    refine lv_aload_n hx hb dX11_feed_36 rfl (lv_at hl 0 rfl) ?_
    refine lv_iload hx hb dX11_feed_37 (lv_at hl 5 rfl) ?_
    refine cbVv (n := 1) (rest := []) hx hb hml hown hts hE hP hD hS hA (sY_X11_four_1 NF l dC dI cy y0 r p5 v23 f24 w25 g26 hIv23 hCf24 hRf24 (show (v23 0).toInt ≤ 1596 from om_285 zt1 zc3 pv9 pv15 pv21 pv27)) k_1563 k_1565 k_40 k_114 k_1566 hd_yX11_four ⟨Nat.le_of_ble_eq_true rfl, Nat.le_of_ble_eq_true rfl⟩ 0 11 rfl rfl (rfl) hl.1 rfl (Nat.le_of_ble_eq_true rfl) dX11_feed_39 (fun u H locs hw hP hD hS => ?_)
    obtain ⟨hG28, hw⟩ := hw
    obtain ⟨v29, f30, w31, g32⟩ := u
    obtain ⟨kV_v29, kF_f30, hIv29, hCf30, hRf30, hk1_v29, hk2_v29, hk3_v29, hk4_v29, hk5_v29, hk8_v29, hk9_v29, hk10_v29, hk13_v29, hk14_v29, hk15_v29, hk17_v29, hk18_v29, hk24_v29, hk25_v29, hk35_v29, hk36_v29, hk38_v29, hk39_v29, pv33⟩ := hw
    have hM_v29 : KV [0] v29 v := KV.tr kV_v29 hM_v23 rfl
    have hA_f30 : KF [0] f30 f := KF.tr kF_f30 hA_f24 rfl
    have hP : va_P (dC, dI) vwCl (YW cy y0 r v29 f30 w31 g32) H := hP
    have hD : va_D A (YW cy y0 r v29 f30 w31 g32) := hD
    have pv33 : (v29 0).toInt = (v23 0).toInt + 4 := pv33
    refine lv_aload_n hx hb dX11_feed_42 rfl (lv_at hl 0 rfl) ?_
    refine va_get (D := (dC, dI)) (ci := 11) (v := .int (v29 0)) (C := RX11) (T := TX11) (N := 79) hx hb hts inB_11 hown hE.1 hP 0 rfl rfl 1 (Nat.le_of_ble_eq_true rfl) (hts _ k_1321) (fun _ h9 => h9) rfl dX11_feed_43 ?_
    exact ret (v29 0) (v29, f30, w31, g32) _ _ _ _ _ _ rfl ⟨(gsY_X11_feed_1_q0 et1 c3 hG4 hG10 hG16 hG22 hG28), hM_v29, hA_f30, hIv29, hCf30, hRf30, (hk1_v29.trans (hk1_v23.trans (hk1_v17.trans (hk1_v11.trans hk1_v5)))), (hk2_v29.trans (hk2_v23.trans (hk2_v17.trans (hk2_v11.trans hk2_v5)))), (hk3_v29.trans (hk3_v23.trans (hk3_v17.trans (hk3_v11.trans hk3_v5)))), (hk4_v29.trans (hk4_v23.trans (hk4_v17.trans (hk4_v11.trans hk4_v5)))), (hk5_v29.trans (hk5_v23.trans (hk5_v17.trans (hk5_v11.trans hk5_v5)))), (hk8_v29.trans (hk8_v23.trans (hk8_v17.trans (hk8_v11.trans hk8_v5)))), (hk9_v29.trans (hk9_v23.trans (hk9_v17.trans (hk9_v11.trans hk9_v5)))), (hk10_v29.trans (hk10_v23.trans (hk10_v17.trans (hk10_v11.trans hk10_v5)))), (hk13_v29.trans (hk13_v23.trans (hk13_v17.trans (hk13_v11.trans hk13_v5)))), (hk14_v29.trans (hk14_v23.trans (hk14_v17.trans (hk14_v11.trans hk14_v5)))), (hk15_v29.trans (hk15_v23.trans (hk15_v17.trans (hk15_v11.trans hk15_v5)))), (hk17_v29.trans (hk17_v23.trans (hk17_v17.trans (hk17_v11.trans hk17_v5)))), (hk18_v29.trans (hk18_v23.trans (hk18_v17.trans (hk18_v11.trans hk18_v5)))), (hk24_v29.trans (hk24_v23.trans (hk24_v17.trans (hk24_v11.trans hk24_v5)))), (hk25_v29.trans (hk25_v23.trans (hk25_v17.trans (hk25_v11.trans hk25_v5)))), (hk35_v29.trans (hk35_v23.trans (hk35_v17.trans (hk35_v11.trans hk35_v5)))), (hk36_v29.trans (hk36_v23.trans (hk36_v17.trans (hk36_v11.trans hk36_v5)))), (hk38_v29.trans (hk38_v23.trans (hk38_v17.trans (hk38_v11.trans hk38_v5)))), (hk39_v29.trans (hk39_v23.trans (hk39_v17.trans (hk39_v11.trans hk39_v5))))⟩ hP hD hS dX11_feed_46 (Nat.le_refl _) (Nat.le_refl _)
  · skip
    refine lv_iconst (v := (-1)) hx hb dX11_feed_13 rfl ?_
    exact ret (-1) (v, f, w, g) _ _ _ _ _ _ rfl ⟨(gsY_X11_feed_1_q1 et1 c3), hM_v, hA_f, hIv, hCf, hRf, rfl, rfl, rfl, rfl, rfl, rfl, rfl, rfl, rfl, rfl, rfl, rfl, rfl, rfl, rfl, rfl, rfl, rfl, rfl⟩ hP hD hS dX11_feed_14 (Nat.le_refl _) (Nat.le_refl _)
set_option maxHeartbeats 4000000 in
set_option maxRecDepth 100000 in
theorem sY_X11_end_1 (NF : Nat) (l : Launch) (dC : Nat → ClassId) (dI : Nat → Nat → Nat) (cy : Nat → ClassId) (y0 : Nat) (r : Nat → Nat) (p1 : Int32) (v : Nat → Int32) (f : Nat → Nat → Int32) (w : Int64) (g : Nat → Int64) (hIv : YI v) (hCf : YC f) (hRf : progOK (f 4) (f 5) (v 9).toInt.toNat)  : ctI l (dC, dI) cy yX11_end cX11_end 2 .int 1 60 0 0 ((Nat → Int32) × (Nat → Nat → Int32) × (Int64) × (Nat → Int64)) [.ref y0, .int p1] (YW cy y0 r v f w g) (fun r u => gsY_X11_end_1 NF p1 v f w g = (r, u) ∧ KV [0] u.1 v ∧ KF [] u.2.1 f ∧ YI u.1 ∧ YC u.2.1 ∧ progOK (u.2.1 4) (u.2.1 5) (u.1 9).toInt.toNat ∧ u.1 1 = v 1 ∧ u.1 2 = v 2 ∧ u.1 3 = v 3 ∧ u.1 4 = v 4 ∧ u.1 5 = v 5 ∧ u.1 8 = v 8 ∧ u.1 9 = v 9 ∧ u.1 10 = v 10 ∧ u.1 13 = v 13 ∧ u.1 14 = v 14 ∧ u.1 15 = v 15 ∧ u.1 17 = v 17 ∧ u.1 18 = v 18 ∧ u.1 24 = v 24 ∧ u.1 25 = v 25 ∧ u.1 35 = v 35 ∧ u.1 36 = v 36 ∧ u.1 38 = v 38 ∧ u.1 39 = v 39) (fun u => YW cy y0 r u.1 u.2.1 u.2.2.1 u.2.2.2) := by
  refine ctI_of (by decide) (Nat.le_of_ble_eq_true rfl) (fun p e s m below meth c A ls Q hx hb hml hts hown hE hP hD hA hl ret => ?_)
  have hM_v : KV [0] v v := fun _ _ => rfl
  have hA_f : KF [] f f := fun _ _ => rfl
  have hown : s.vm.findClass RX11 = some m.cls := hown
  have hS : va_S A s.heap s.heap [] := va_S.rf
  have hl : lv_has ls 2 [(0, .ref y0), (1, .int p1)] := hl
  refine lv_iload_n hx hb dX11_end_0 rfl (lv_at hl 1 rfl) ?_
  refine lv_if_lt (tgt := 12) hx hb dX11_end_1 rfl (fun c1 => ?_) (fun c1 => ?_)
  · skip
    refine lv_iconst (v := (-1)) hx hb dX11_end_12 rfl ?_
    exact ret (-1) (v, f, w, g) _ _ _ _ _ _ rfl ⟨(gsY_X11_end_1_q0 c1), hM_v, hA_f, hIv, hCf, hRf, rfl, rfl, rfl, rfl, rfl, rfl, rfl, rfl, rfl, rfl, rfl, rfl, rfl, rfl, rfl, rfl, rfl, rfl, rfl⟩ hP hD hS dX11_end_13 (Nat.le_refl _) (Nat.le_refl _)
  · skip
    have zc1 : ¬ (p1.toInt < 0) := zLn rfl tc_0 c1
    refine lv_iload_n hx hb dX11_end_4 rfl (lv_at hl 1 rfl) ?_
    refine lv_aload_n hx hb dX11_end_5 rfl (lv_at hl 0 rfl) ?_
    refine va_get (D := (dC, dI)) (ci := 11) (v := .int (v 0)) (C := RX11) (T := TX11) (N := 79) hx hb hts inB_11 hown hE.1 hP 0 rfl rfl 1 (Nat.le_of_ble_eq_true rfl) (hts _ k_1321) (fun _ h9 => h9) rfl dX11_end_6 ?_
    have b0_v : 0 ≤ (v 0).toInt ∧ (v 0).toInt ≤ 1600 := Yb_0 hIv.1
    refine lv_icmp_le (tgt := 14) hx hb dX11_end_9 rfl (fun c2 => ?_) (fun c2 => ?_)
    · skip
      have zc2 : p1.toInt ≤ (v 0).toInt := zMp rfl rfl c2
      refine lv_aload_n hx hb dX11_end_14 rfl (lv_at hl 0 rfl) ?_
      refine lv_iload_n hx hb dX11_end_15 rfl (lv_at hl 1 rfl) ?_
      refine va_put (D := (dC, dI)) (ci := 11) (v := .int p1) (ty := tyX11 1) (C := RX11) (T := TX11) (N := 79) hx hb hts inB_11 tyX11 tyX11_ok nmX11 hown hE.1 hP hD hS 0 rfl rfl 1 (Nat.le_of_ble_eq_true rfl) (hts _ k_1321) (fun _ h9 => h9) rfl (tyX11_ok 1 (Nat.le_of_ble_eq_true rfl)) rfl rfl (Nat.le_of_ble_eq_true rfl) dX11_end_16 (fun H locs hP hD hS => ?_)
      have hP : va_P (dC, dI) vwCl (YW cy y0 r (upd v 0 p1) f w g) H := hP
      have hD : va_D A (YW cy y0 r (upd v 0 p1) f w g) := hD
      refine lv_iload_n hx hb dX11_end_19 rfl (lv_at hl 1 rfl) ?_
      exact ret p1 ((upd v 0 p1), f, w, g) _ _ _ _ _ _ rfl ⟨(gsY_X11_end_1_q1 c1 c2), (KV.up (j := 0) (x := p1) hM_v rfl), hA_f, ⟨(Yu_0 (x := p1) hIv.1 (show (0 : Int) ≤ p1.toInt from om_14 zc1) (show p1.toInt ≤ (1600 : Int) from om_15 b0_v zc2)), hIv.2⟩, hCf, hRf, rfl, rfl, rfl, rfl, rfl, rfl, rfl, rfl, rfl, rfl, rfl, rfl, rfl, rfl, rfl, rfl, rfl, rfl, rfl⟩ hP hD hS dX11_end_20 (Nat.le_refl _) (Nat.le_refl _)
    · skip
      refine lv_iconst (v := (-1)) hx hb dX11_end_12 rfl ?_
      exact ret (-1) (v, f, w, g) _ _ _ _ _ _ rfl ⟨(gsY_X11_end_1_q2 c1 c2), hM_v, hA_f, hIv, hCf, hRf, rfl, rfl, rfl, rfl, rfl, rfl, rfl, rfl, rfl, rfl, rfl, rfl, rfl, rfl, rfl, rfl, rfl, rfl, rfl⟩ hP hD hS dX11_end_13 (Nat.le_refl _) (Nat.le_refl _)
set_option maxHeartbeats 4000000 in
set_option maxRecDepth 100000 in
theorem sY_X11_fault_1 (NF : Nat) (l : Launch) (dC : Nat → ClassId) (dI : Nat → Nat → Nat) (cy : Nat → ClassId) (y0 : Nat) (r : Nat → Nat) (p1 : Int32) (v : Nat → Int32) (f : Nat → Nat → Int32) (w : Int64) (g : Nat → Int64) (hIv : YI v) (hCf : YC f) (hRf : progOK (f 4) (f 5) (v 9).toInt.toNat)  : ctI l (dC, dI) cy yX11_fault cX11_fault 2 .int 1 60 0 0 Unit [.ref y0, .int p1] (YW cy y0 r v f w g) (fun r u => gsY_X11_fault_1 NF p1 v f w g = r) (fun u => YW cy y0 r v f w g) := by
  refine ctI_of (by decide) (Nat.le_of_ble_eq_true rfl) (fun p e s m below meth c A ls Q hx hb hml hts hown hE hP hD hA hl ret => ?_)
  have hown : s.vm.findClass RX11 = some m.cls := hown
  have hS : va_S A s.heap s.heap [] := va_S.rf
  have hl : lv_has ls 2 [(0, .ref y0), (1, .int p1)] := hl
  refine lv_iload_n hx hb dX11_fault_0 rfl (lv_at hl 1 rfl) ?_
  refine lv_if_ne (tgt := 11) hx hb dX11_fault_1 rfl (fun c1 => ?_) (fun c1 => ?_)
  · skip
    refine lv_iload_n hx hb dX11_fault_11 rfl (lv_at hl 1 rfl) ?_
    refine lv_iconst (v := 1) hx hb dX11_fault_12 rfl ?_
    refine lv_icmp_ne (tgt := 23) hx hb dX11_fault_13 rfl (fun c2 => ?_) (fun c2 => ?_)
    · skip
      refine lv_iconst (v := (-1)) hx hb dX11_fault_23 rfl ?_
      exact ret (-1) () _ _ _ _ _ _ rfl (gsY_X11_fault_1_q0 c1 c2) hP hD hS dX11_fault_24 (Nat.le_refl _) (Nat.le_refl _)
    · skip
      refine lv_aload_n hx hb dX11_fault_16 rfl (lv_at hl 0 rfl) ?_
      refine va_get (D := (dC, dI)) (ci := 11) (v := .int (v 2)) (C := RX11) (T := TX11) (N := 79) hx hb hts inB_11 hown hE.1 hP 0 rfl rfl 3 (Nat.le_of_ble_eq_true rfl) (hts _ k_1323) (fun _ h9 => h9) rfl dX11_fault_17 ?_
      refine lv_goto (tgt := 24) hx hb dX11_fault_20 rfl ?_
      exact ret (v 2) () _ _ _ _ _ _ rfl (gsY_X11_fault_1_q1 c1 c2) hP hD hS dX11_fault_24 (Nat.le_refl _) (Nat.le_refl _)
  · skip
    refine lv_aload_n hx hb dX11_fault_4 rfl (lv_at hl 0 rfl) ?_
    refine va_get (D := (dC, dI)) (ci := 11) (v := .int (v 1)) (C := RX11) (T := TX11) (N := 79) hx hb hts inB_11 hown hE.1 hP 0 rfl rfl 2 (Nat.le_of_ble_eq_true rfl) (hts _ k_1322) (fun _ h9 => h9) rfl dX11_fault_5 ?_
    refine lv_goto (tgt := 24) hx hb dX11_fault_8 rfl ?_
    exact ret (v 1) () _ _ _ _ _ _ rfl (gsY_X11_fault_1_q2 c1) hP hD hS dX11_fault_24 (Nat.le_refl _) (Nat.le_refl _)
set_option maxHeartbeats 4000000 in
set_option maxRecDepth 100000 in
theorem sY_X11_here_1 (NF : Nat) (l : Launch) (dC : Nat → ClassId) (dI : Nat → Nat → Nat) (cy : Nat → ClassId) (y0 : Nat) (r : Nat → Nat) (p1 : Int32) (v : Nat → Int32) (f : Nat → Nat → Int32) (w : Int64) (g : Nat → Int64) (hIv : YI v) (hCf : YC f) (hRf : progOK (f 4) (f 5) (v 9).toInt.toNat) (hp1 : (0 : Int) ≤ p1.toInt ∧ p1.toInt ≤ 1600) : ctI l (dC, dI) cy yX11_here cX11_here 2 .int 1 60 0 0 Unit [.ref y0, .int p1] (YW cy y0 r v f w g) (fun r u => gsY_X11_here_1 NF p1 v f w g = r ∧ (r.toInt < 0 ∨ (v 3).toInt + p1.toInt < (v 4).toInt)) (fun u => YW cy y0 r v f w g) := by
  refine ctI_of (by decide) (Nat.le_of_ble_eq_true rfl) (fun p e s m below meth c A ls Q hx hb hml hts hown hE hP hD hA hl ret => ?_)
  have hown : s.vm.findClass RX11 = some m.cls := hown
  have hS : va_S A s.heap s.heap [] := va_S.rf
  have hl : lv_has ls 2 [(0, .ref y0), (1, .int p1)] := hl
  refine lv_aload_n hx hb dX11_here_0 rfl (lv_at hl 0 rfl) ?_
  refine va_get (D := (dC, dI)) (ci := 11) (v := .int (v 3)) (C := RX11) (T := TX11) (N := 79) hx hb hts inB_11 hown hE.1 hP 0 rfl rfl 4 (Nat.le_of_ble_eq_true rfl) (hts _ k_1324) (fun _ h9 => h9) rfl dX11_here_1 ?_
  have b3_v : 0 ≤ (v 3).toInt ∧ (v 3).toInt ≤ 1600 := Yb_3 hIv.1
  refine lv_iload_n hx hb dX11_here_4 rfl (lv_at hl 1 rfl) ?_
  refine lv_iadd hx hb dX11_here_5 ?_
  refine lv_topi (fun t1 et1 => ?_)
  have zt1 : t1.toInt = (v 3).toInt + p1.toInt := (congrArg Int32.toInt et1).trans (add_i rfl rfl (om_286 hp1 b3_v) (om_287 hp1 b3_v))
  refine lv_aload_n hx hb dX11_here_6 rfl (lv_at hl 0 rfl) ?_
  refine va_get (D := (dC, dI)) (ci := 11) (v := .int (v 4)) (C := RX11) (T := TX11) (N := 79) hx hb hts inB_11 hown hE.1 hP 0 rfl rfl 5 (Nat.le_of_ble_eq_true rfl) (hts _ k_1325) (fun _ h9 => h9) rfl dX11_here_7 ?_
  have b4_v : 0 ≤ (v 4).toInt ∧ (v 4).toInt ≤ 1600 := Yb_4 hIv.1
  refine lv_icmp_ge (tgt := 27) hx hb dX11_here_10 rfl (fun c4 => ?_) (fun c4 => ?_)
  · skip
    refine lv_iconst (v := (-1)) hx hb dX11_here_27 rfl ?_
    exact ret (-1) () _ _ _ _ _ _ rfl ⟨(gsY_X11_here_1_q0 et1 c4), (show ((-1) : Int32).toInt < 0 ∨ (v 3).toInt + p1.toInt < (v 4).toInt from om_288 tc_m1)⟩ hP hD hS dX11_here_28 (Nat.le_refl _) (Nat.le_refl _)
  · skip
    have zc4 : ¬ ((v 4).toInt ≤ t1.toInt) := zMn rfl rfl c4
    refine lv_aload_n hx hb dX11_here_13 rfl (lv_at hl 0 rfl) ?_
    refine va_get (D := (dC, dI)) (ci := 11) (v := .ref (r 0)) (C := RX11) (T := TX11) (N := 79) hx hb hts inB_11 hown hE.1 hP 0 rfl rfl 0 (Nat.le_of_ble_eq_true rfl) (hts _ k_1320) (fun _ h9 => h9) rfl dX11_here_14 ?_
    refine lv_aload_n hx hb dX11_here_17 rfl (lv_at hl 0 rfl) ?_
    refine va_get (D := (dC, dI)) (ci := 11) (v := .int (v 3)) (C := RX11) (T := TX11) (N := 79) hx hb hts inB_11 hown hE.1 hP 0 rfl rfl 4 (Nat.le_of_ble_eq_true rfl) (hts _ k_1324) (fun _ h9 => h9) rfl dX11_here_18 ?_
    refine lv_iload_n hx hb dX11_here_21 rfl (lv_at hl 1 rfl) ?_
    refine lv_iadd hx hb dX11_here_22 ?_
    refine tI (y := t1) et1.symm ?_
    refine ldI hx hb hE hP 1 rfl (vpI (k := 1600) rfl (show 0 ≤ t1.toInt from om_289 hp1 b3_v zt1) (show t1.toInt < 1600 from om_16 b4_v zc4)) rfl rfl dX11_here_23 ?_
    refine lv_topi (fun t9 et9 => ?_)
    refine lv_goto (tgt := 28) hx hb dX11_here_24 rfl ?_
    exact ret t9 () _ _ _ _ _ _ rfl ⟨(gsY_X11_here_1_q1 et1 c4 et9), (show t9.toInt < 0 ∨ (v 3).toInt + p1.toInt < (v 4).toInt from om_290 zt1 zc4)⟩ hP hD hS dX11_here_28 (Nat.le_refl _) (Nat.le_refl _)
set_option maxHeartbeats 4000000 in
set_option maxRecDepth 100000 in
theorem sY_X11_isLetter_1 (NF : Nat) (l : Launch) (dC : Nat → ClassId) (dI : Nat → Nat → Nat) (cy : Nat → ClassId) (y0 : Nat) (r : Nat → Nat) (p0 : Int32) (v : Nat → Int32) (f : Nat → Nat → Int32) (w : Int64) (g : Nat → Int64) (hIv : YI v) (hCf : YC f) (hRf : progOK (f 4) (f 5) (v 9).toInt.toNat)  : ctI l (dC, dI) cy yX11_isLetter cX11_isLetter 1 .boolean 1 60 0 0 Unit [.int p0] (YW cy y0 r v f w g) (fun r u => gsY_X11_isLetter_1 NF p0 v f w g = r ∧ ((r = 1 ∧ 97 ≤ p0.toInt) ∨ (r = 0))) (fun u => YW cy y0 r v f w g) := by
  refine ctI_of (by decide) (Nat.le_of_ble_eq_true rfl) (fun p e s m below meth c A ls Q hx hb hml hts hown hE hP hD hA hl ret => ?_)
  have hown : s.vm.findClass RX11 = some m.cls := hown
  have hS : va_S A s.heap s.heap [] := va_S.rf
  have hl : lv_has ls 1 [(0, .int p0)] := hl
  refine lv_iload_n hx hb dX11_isLetter_0 rfl (lv_at hl 0 rfl) ?_
  refine lv_bipush (v := 97) hx hb dX11_isLetter_1 rfl ?_
  refine lv_icmp_lt (tgt := 16) hx hb dX11_isLetter_3 rfl (fun c1 => ?_) (fun c1 => ?_)
  · skip
    refine lv_iconst (v := 0) hx hb dX11_isLetter_16 rfl ?_
    exact ret 0 () _ _ _ _ _ _ rfl ⟨(gsY_X11_isLetter_1_q0 c1), (Or.inr rfl)⟩ hP hD hS dX11_isLetter_17 (Nat.le_refl _) (Nat.le_refl _)
  · skip
    have zc1 : ¬ (p0.toInt < 97) := zLn rfl tc_97 c1
    refine lv_iload_n hx hb dX11_isLetter_6 rfl (lv_at hl 0 rfl) ?_
    refine lv_bipush (v := 122) hx hb dX11_isLetter_7 rfl ?_
    refine lv_icmp_gt (tgt := 16) hx hb dX11_isLetter_9 rfl (fun c2 => ?_) (fun c2 => ?_)
    · skip
      refine lv_iconst (v := 0) hx hb dX11_isLetter_16 rfl ?_
      exact ret 0 () _ _ _ _ _ _ rfl ⟨(gsY_X11_isLetter_1_q1 c1 c2), (Or.inr rfl)⟩ hP hD hS dX11_isLetter_17 (Nat.le_refl _) (Nat.le_refl _)
    · skip
      refine lv_iconst (v := 1) hx hb dX11_isLetter_12 rfl ?_
      refine lv_goto (tgt := 17) hx hb dX11_isLetter_13 rfl ?_
      exact ret 1 () _ _ _ _ _ _ rfl ⟨(gsY_X11_isLetter_1_q2 c1 c2), (Or.inl ⟨rfl, show 97 ≤ p0.toInt from om_291 zc1⟩)⟩ hP hD hS dX11_isLetter_17 (Nat.le_refl _) (Nat.le_refl _)
set_option maxHeartbeats 4000000 in
set_option maxRecDepth 100000 in
theorem sY_X11_isDigit_1 (NF : Nat) (l : Launch) (dC : Nat → ClassId) (dI : Nat → Nat → Nat) (cy : Nat → ClassId) (y0 : Nat) (r : Nat → Nat) (p0 : Int32) (v : Nat → Int32) (f : Nat → Nat → Int32) (w : Int64) (g : Nat → Int64) (hIv : YI v) (hCf : YC f) (hRf : progOK (f 4) (f 5) (v 9).toInt.toNat)  : ctI l (dC, dI) cy yX11_isDigit cX11_isDigit 1 .boolean 1 60 0 0 Unit [.int p0] (YW cy y0 r v f w g) (fun r u => gsY_X11_isDigit_1 NF p0 v f w g = r ∧ ((r = 1 ∧ 48 ≤ p0.toInt) ∨ (r = 0))) (fun u => YW cy y0 r v f w g) := by
  refine ctI_of (by decide) (Nat.le_of_ble_eq_true rfl) (fun p e s m below meth c A ls Q hx hb hml hts hown hE hP hD hA hl ret => ?_)
  have hown : s.vm.findClass RX11 = some m.cls := hown
  have hS : va_S A s.heap s.heap [] := va_S.rf
  have hl : lv_has ls 1 [(0, .int p0)] := hl
  refine lv_iload_n hx hb dX11_isDigit_0 rfl (lv_at hl 0 rfl) ?_
  refine lv_bipush (v := 48) hx hb dX11_isDigit_1 rfl ?_
  refine lv_icmp_lt (tgt := 16) hx hb dX11_isDigit_3 rfl (fun c1 => ?_) (fun c1 => ?_)
  · skip
    refine lv_iconst (v := 0) hx hb dX11_isDigit_16 rfl ?_
    exact ret 0 () _ _ _ _ _ _ rfl ⟨(gsY_X11_isDigit_1_q0 c1), (Or.inr rfl)⟩ hP hD hS dX11_isDigit_17 (Nat.le_refl _) (Nat.le_refl _)
  · skip
    have zc1 : ¬ (p0.toInt < 48) := zLn rfl tc_48 c1
    refine lv_iload_n hx hb dX11_isDigit_6 rfl (lv_at hl 0 rfl) ?_
    refine lv_bipush (v := 57) hx hb dX11_isDigit_7 rfl ?_
    refine lv_icmp_gt (tgt := 16) hx hb dX11_isDigit_9 rfl (fun c2 => ?_) (fun c2 => ?_)
    · skip
      refine lv_iconst (v := 0) hx hb dX11_isDigit_16 rfl ?_
      exact ret 0 () _ _ _ _ _ _ rfl ⟨(gsY_X11_isDigit_1_q1 c1 c2), (Or.inr rfl)⟩ hP hD hS dX11_isDigit_17 (Nat.le_refl _) (Nat.le_refl _)
    · skip
      refine lv_iconst (v := 1) hx hb dX11_isDigit_12 rfl ?_
      refine lv_goto (tgt := 17) hx hb dX11_isDigit_13 rfl ?_
      exact ret 1 () _ _ _ _ _ _ rfl ⟨(gsY_X11_isDigit_1_q2 c1 c2), (Or.inl ⟨rfl, show 48 ≤ p0.toInt from om_292 zc1⟩)⟩ hP hD hS dX11_isDigit_17 (Nat.le_refl _) (Nat.le_refl _)
set_option maxHeartbeats 4000000 in
set_option maxRecDepth 100000 in
theorem sY_X11_isSign_1 (NF : Nat) (l : Launch) (dC : Nat → ClassId) (dI : Nat → Nat → Nat) (cy : Nat → ClassId) (y0 : Nat) (r : Nat → Nat) (p0 : Int32) (v : Nat → Int32) (f : Nat → Nat → Int32) (w : Int64) (g : Nat → Int64) (hIv : YI v) (hCf : YC f) (hRf : progOK (f 4) (f 5) (v 9).toInt.toNat)  : ctI l (dC, dI) cy yX11_isSign cX11_isSign 1 .boolean 1 60 0 0 Unit [.int p0] (YW cy y0 r v f w g) (fun r u => gsY_X11_isSign_1 NF p0 v f w g = r ∧ ((r = 1) ∨ (r = 0))) (fun u => YW cy y0 r v f w g) := by
  refine ctI_of (by decide) (Nat.le_of_ble_eq_true rfl) (fun p e s m below meth c A ls Q hx hb hml hts hown hE hP hD hA hl ret => ?_)
  have hown : s.vm.findClass RX11 = some m.cls := hown
  have hS : va_S A s.heap s.heap [] := va_S.rf
  have hl : lv_has ls 1 [(0, .int p0)] := hl
  refine lv_iload_n hx hb dX11_isSign_0 rfl (lv_at hl 0 rfl) ?_
  refine lv_bipush (v := 59) hx hb dX11_isSign_1 rfl ?_
  refine lv_icmp_eq (tgt := 66) hx hb dX11_isSign_3 rfl (fun c1 => ?_) (fun c1 => ?_)
  · skip
    refine lv_iconst (v := 1) hx hb dX11_isSign_66 rfl ?_
    refine lv_goto (tgt := 71) hx hb dX11_isSign_67 rfl ?_
    exact ret 1 () _ _ _ _ _ _ rfl ⟨(gsY_X11_isSign_1_q0 c1), (Or.inl rfl)⟩ hP hD hS dX11_isSign_71 (Nat.le_refl _) (Nat.le_refl _)
  · skip
    refine lv_iload_n hx hb dX11_isSign_6 rfl (lv_at hl 0 rfl) ?_
    refine lv_bipush (v := 40) hx hb dX11_isSign_7 rfl ?_
    refine lv_icmp_eq (tgt := 66) hx hb dX11_isSign_9 rfl (fun c2 => ?_) (fun c2 => ?_)
    · skip
      refine lv_iconst (v := 1) hx hb dX11_isSign_66 rfl ?_
      refine lv_goto (tgt := 71) hx hb dX11_isSign_67 rfl ?_
      exact ret 1 () _ _ _ _ _ _ rfl ⟨(gsY_X11_isSign_1_q1 c1 c2), (Or.inl rfl)⟩ hP hD hS dX11_isSign_71 (Nat.le_refl _) (Nat.le_refl _)
    · skip
      refine lv_iload_n hx hb dX11_isSign_12 rfl (lv_at hl 0 rfl) ?_
      refine lv_bipush (v := 41) hx hb dX11_isSign_13 rfl ?_
      refine lv_icmp_eq (tgt := 66) hx hb dX11_isSign_15 rfl (fun c3 => ?_) (fun c3 => ?_)
      · skip
        refine lv_iconst (v := 1) hx hb dX11_isSign_66 rfl ?_
        refine lv_goto (tgt := 71) hx hb dX11_isSign_67 rfl ?_
        exact ret 1 () _ _ _ _ _ _ rfl ⟨(gsY_X11_isSign_1_q2 c1 c2 c3), (Or.inl rfl)⟩ hP hD hS dX11_isSign_71 (Nat.le_refl _) (Nat.le_refl _)
      · skip
        refine lv_iload_n hx hb dX11_isSign_18 rfl (lv_at hl 0 rfl) ?_
        refine lv_bipush (v := 60) hx hb dX11_isSign_19 rfl ?_
        refine lv_icmp_eq (tgt := 66) hx hb dX11_isSign_21 rfl (fun c4 => ?_) (fun c4 => ?_)
        · skip
          refine lv_iconst (v := 1) hx hb dX11_isSign_66 rfl ?_
          refine lv_goto (tgt := 71) hx hb dX11_isSign_67 rfl ?_
          exact ret 1 () _ _ _ _ _ _ rfl ⟨(gsY_X11_isSign_1_q3 c1 c2 c3 c4), (Or.inl rfl)⟩ hP hD hS dX11_isSign_71 (Nat.le_refl _) (Nat.le_refl _)
        · skip
          refine lv_iload_n hx hb dX11_isSign_24 rfl (lv_at hl 0 rfl) ?_
          refine lv_bipush (v := 62) hx hb dX11_isSign_25 rfl ?_
          refine lv_icmp_eq (tgt := 66) hx hb dX11_isSign_27 rfl (fun c5 => ?_) (fun c5 => ?_)
          · skip
            refine lv_iconst (v := 1) hx hb dX11_isSign_66 rfl ?_
            refine lv_goto (tgt := 71) hx hb dX11_isSign_67 rfl ?_
            exact ret 1 () _ _ _ _ _ _ rfl ⟨(gsY_X11_isSign_1_q4 c1 c2 c3 c4 c5), (Or.inl rfl)⟩ hP hD hS dX11_isSign_71 (Nat.le_refl _) (Nat.le_refl _)
          · skip
            refine lv_iload_n hx hb dX11_isSign_30 rfl (lv_at hl 0 rfl) ?_
            refine lv_bipush (v := 61) hx hb dX11_isSign_31 rfl ?_
            refine lv_icmp_eq (tgt := 66) hx hb dX11_isSign_33 rfl (fun c6 => ?_) (fun c6 => ?_)
            · skip
              refine lv_iconst (v := 1) hx hb dX11_isSign_66 rfl ?_
              refine lv_goto (tgt := 71) hx hb dX11_isSign_67 rfl ?_
              exact ret 1 () _ _ _ _ _ _ rfl ⟨(gsY_X11_isSign_1_q5 c1 c2 c3 c4 c5 c6), (Or.inl rfl)⟩ hP hD hS dX11_isSign_71 (Nat.le_refl _) (Nat.le_refl _)
            · skip
              refine lv_iload_n hx hb dX11_isSign_36 rfl (lv_at hl 0 rfl) ?_
              refine lv_bipush (v := 43) hx hb dX11_isSign_37 rfl ?_
              refine lv_icmp_eq (tgt := 66) hx hb dX11_isSign_39 rfl (fun c7 => ?_) (fun c7 => ?_)
              · skip
                refine lv_iconst (v := 1) hx hb dX11_isSign_66 rfl ?_
                refine lv_goto (tgt := 71) hx hb dX11_isSign_67 rfl ?_
                exact ret 1 () _ _ _ _ _ _ rfl ⟨(gsY_X11_isSign_1_q6 c1 c2 c3 c4 c5 c6 c7), (Or.inl rfl)⟩ hP hD hS dX11_isSign_71 (Nat.le_refl _) (Nat.le_refl _)
              · skip
                refine lv_iload_n hx hb dX11_isSign_42 rfl (lv_at hl 0 rfl) ?_
                refine lv_bipush (v := 45) hx hb dX11_isSign_43 rfl ?_
                refine lv_icmp_eq (tgt := 66) hx hb dX11_isSign_45 rfl (fun c8 => ?_) (fun c8 => ?_)
                · skip
                  refine lv_iconst (v := 1) hx hb dX11_isSign_66 rfl ?_
                  refine lv_goto (tgt := 71) hx hb dX11_isSign_67 rfl ?_
                  exact ret 1 () _ _ _ _ _ _ rfl ⟨(gsY_X11_isSign_1_q7 c1 c2 c3 c4 c5 c6 c7 c8), (Or.inl rfl)⟩ hP hD hS dX11_isSign_71 (Nat.le_refl _) (Nat.le_refl _)
                · skip
                  refine lv_iload_n hx hb dX11_isSign_48 rfl (lv_at hl 0 rfl) ?_
                  refine lv_bipush (v := 42) hx hb dX11_isSign_49 rfl ?_
                  refine lv_icmp_eq (tgt := 66) hx hb dX11_isSign_51 rfl (fun c9 => ?_) (fun c9 => ?_)
                  · skip
                    refine lv_iconst (v := 1) hx hb dX11_isSign_66 rfl ?_
                    refine lv_goto (tgt := 71) hx hb dX11_isSign_67 rfl ?_
                    exact ret 1 () _ _ _ _ _ _ rfl ⟨(gsY_X11_isSign_1_q8 c1 c2 c3 c4 c5 c6 c7 c8 c9), (Or.inl rfl)⟩ hP hD hS dX11_isSign_71 (Nat.le_refl _) (Nat.le_refl _)
                  · skip
                    refine lv_iload_n hx hb dX11_isSign_54 rfl (lv_at hl 0 rfl) ?_
                    refine lv_bipush (v := 47) hx hb dX11_isSign_55 rfl ?_
                    refine lv_icmp_eq (tgt := 66) hx hb dX11_isSign_57 rfl (fun c10 => ?_) (fun c10 => ?_)
                    · skip
                      refine lv_iconst (v := 1) hx hb dX11_isSign_66 rfl ?_
                      refine lv_goto (tgt := 71) hx hb dX11_isSign_67 rfl ?_
                      exact ret 1 () _ _ _ _ _ _ rfl ⟨(gsY_X11_isSign_1_q9 c1 c2 c3 c4 c5 c6 c7 c8 c9 c10), (Or.inl rfl)⟩ hP hD hS dX11_isSign_71 (Nat.le_refl _) (Nat.le_refl _)
                    · skip
                      refine lv_iload_n hx hb dX11_isSign_60 rfl (lv_at hl 0 rfl) ?_
                      refine lv_bipush (v := 37) hx hb dX11_isSign_61 rfl ?_
                      refine lv_icmp_ne (tgt := 70) hx hb dX11_isSign_63 rfl (fun c11 => ?_) (fun c11 => ?_)
                      · skip
                        refine lv_iconst (v := 0) hx hb dX11_isSign_70 rfl ?_
                        exact ret 0 () _ _ _ _ _ _ rfl ⟨(gsY_X11_isSign_1_q10 c1 c2 c3 c4 c5 c6 c7 c8 c9 c10 c11), (Or.inr rfl)⟩ hP hD hS dX11_isSign_71 (Nat.le_refl _) (Nat.le_refl _)
                      · skip
                        refine lv_iconst (v := 1) hx hb dX11_isSign_66 rfl ?_
                        refine lv_goto (tgt := 71) hx hb dX11_isSign_67 rfl ?_
                        exact ret 1 () _ _ _ _ _ _ rfl ⟨(gsY_X11_isSign_1_q11 c1 c2 c3 c4 c5 c6 c7 c8 c9 c10 c11), (Or.inl rfl)⟩ hP hD hS dX11_isSign_71 (Nat.le_refl _) (Nat.le_refl _)
set_option maxHeartbeats 4000000 in
set_option maxRecDepth 100000 in
theorem sY_X11_token_1 (NF : Nat) (l : Launch) (dC : Nat → ClassId) (dI : Nat → Nat → Nat) (cy : Nat → ClassId) (y0 : Nat) (r : Nat → Nat)  (v : Nat → Int32) (f : Nat → Nat → Int32) (w : Int64) (g : Nat → Int64) (hIv : YI v) (hCf : YC f) (hRf : progOK (f 4) (f 5) (v 9).toInt.toNat)  : ctV l (dC, dI) cy yX11_token cX11_token 3 2 81 0 0 ((Nat → Int32) × (Nat → Nat → Int32) × (Int64) × (Nat → Int64)) [.ref y0] (YW cy y0 r v f w g) (fun u => gsY_X11_token_1 NF v f w g = u ∧ KV [3, 5, 6, 7] u.1 v ∧ KF [] u.2.1 f ∧ YI u.1 ∧ YC u.2.1 ∧ progOK (u.2.1 4) (u.2.1 5) (u.1 9).toInt.toNat ∧ u.1 0 = v 0 ∧ u.1 1 = v 1 ∧ u.1 2 = v 2 ∧ u.1 4 = v 4 ∧ u.1 8 = v 8 ∧ u.1 9 = v 9 ∧ u.1 10 = v 10 ∧ u.1 13 = v 13 ∧ u.1 14 = v 14 ∧ u.1 15 = v 15 ∧ u.1 17 = v 17 ∧ u.1 18 = v 18 ∧ u.1 24 = v 24 ∧ u.1 25 = v 25 ∧ u.1 35 = v 35 ∧ u.1 36 = v 36 ∧ u.1 38 = v 38 ∧ u.1 39 = v 39 ∧ ((v 3).toInt ≤ (u.1 3).toInt) ∧ ((u.1 5).toInt = (v 5).toInt ∨ (v 3).toInt < (u.1 3).toInt ∨ ¬ (u.1 5).toInt = 59) ∧ u.2.1 2 = f 2 ∧ u.2.1 3 = f 3 ∧ u.2.1 6 = f 6) (fun u => YW cy y0 r u.1 u.2.1 u.2.2.1 u.2.2.2) := by
  refine ctV_of (by decide) (Nat.le_of_ble_eq_true rfl) (fun p e s m below meth c A ls Q hx hb hml hts hown hnm hE hP hD hA hl ret => ?_)
  have hUv : (v 35).toInt + (v 36).toInt ≤ 40 := hIv.2
  have hM_v : KV [3, 5, 6, 7] v v := fun _ _ => rfl
  have hA_f : KF [] f f := fun _ _ => rfl
  have b0_v : (0 : Int) ≤ (v 0).toInt ∧ (v 0).toInt ≤ 1600 := Yb_0 hIv.1
  have b1_v : (0 : Int) ≤ (v 1).toInt ∧ (v 1).toInt ≤ 4 := Yb_1 hIv.1
  have b8_v : (0 : Int) ≤ (v 8).toInt ∧ (v 8).toInt ≤ 320 := Yb_8 hIv.1
  have b10_v : (0 : Int) ≤ (v 10).toInt ∧ (v 10).toInt ≤ 160 := Yb_10 hIv.1
  have b13_v : (0 : Int) ≤ (v 13).toInt ∧ (v 13).toInt ≤ 31 := Yb_13 hIv.1
  have b14_v : (0 : Int) ≤ (v 14).toInt ∧ (v 14).toInt ≤ 8 := Yb_14 hIv.1
  have b15_v : (0 : Int) ≤ (v 15).toInt ∧ (v 15).toInt ≤ 1 := Yb_15 hIv.1
  have b17_v : (0 : Int) ≤ (v 17).toInt ∧ (v 17).toInt ≤ 6 := Yb_17 hIv.1
  have b18_v : (0 : Int) ≤ (v 18).toInt ∧ (v 18).toInt ≤ 6 := Yb_18 hIv.1
  have hown : s.vm.findClass RX11 = some m.cls := hown
  have hS : va_S A s.heap s.heap [] := va_S.rf
  have hl : lv_has ls 3 [(0, .ref y0)] := hl
  have lp1 : ∀ (n1 : Nat)  (v1 : Nat → Int32) (f1 : Nat → Nat → Int32) (w1 : Int64) (g1 : Nat → Int64), YI v1 → YC f1 → progOK (f1 4) (f1 5) (v1 9).toInt.toNat → v1 0 = (v 0) → v1 1 = (v 1) → v1 2 = (v 2) → v1 4 = (v 4) → v1 5 = (v 5) → v1 8 = (v 8) → v1 9 = (v 9) → v1 10 = (v 10) → v1 13 = (v 13) → v1 14 = (v 14) → v1 15 = (v 15) → v1 17 = (v 17) → v1 18 = (v 18) → v1 24 = (v 24) → v1 25 = (v 25) → v1 35 = (v 35) → v1 36 = (v 36) → v1 38 = (v 38) → v1 39 = (v 39) → gsY_X11_token_1_L1 NF n1 v1 f1 w1 g1 = (gsY_X11_token_1 NF v f w g) → ((v 3).toInt ≤ (v1 3).toInt) → KV [3, 5, 6, 7] v1 v → KF [] f1 f → f1 2 = (f 2) → f1 3 = (f 3) → f1 6 = (f 6) → (1600 - (v1 3).toInt).toNat < n1 → ∀ (H : Heap) (locs : List Loc) (ls : Array Slot), va_P (dC, dI) vwCl (YW cy y0 r v1 f1 w1 g1) H → va_D A (YW cy y0 r v1 f1 w1 g1) → va_S A s.heap H locs → lv_has ls 3 [(0, .ref y0)] → W p l e { frames := 2, cells := 0, slots := 0, locals := 81 } s m ([.ref y0] : List Value).toArray below meth c H locs 0 0 Q (F0 m 0 ls []) := by
    intro n1
    induction n1 with
    | zero => intro  v1 f1 w1 g1 hIv1 hCf1 hRf1 hq0_v1 hq1_v1 hq2_v1 hq4_v1 hq5_v1 hq8_v1 hq9_v1 hq10_v1 hq13_v1 hq14_v1 hq15_v1 hq17_v1 hq18_v1 hq24_v1 hq25_v1 hq35_v1 hq36_v1 hq38_v1 hq39_v1 hT1 hx0_1 hM_v1 hA_f1 hs2_f1 hs3_f1 hs6_f1 hm; exact absurd hm (Nat.not_lt_zero _)
    | succ n1 ih1 =>
      intro  v1 f1 w1 g1 hIv1 hCf1 hRf1 hq0_v1 hq1_v1 hq2_v1 hq4_v1 hq5_v1 hq8_v1 hq9_v1 hq10_v1 hq13_v1 hq14_v1 hq15_v1 hq17_v1 hq18_v1 hq24_v1 hq25_v1 hq35_v1 hq36_v1 hq38_v1 hq39_v1 hT1 hx0_1 hM_v1 hA_f1 hs2_f1 hs3_f1 hs6_f1 hm1 H locs ls hP hD hS hl
      have hUv1 : (v1 35).toInt + (v1 36).toInt ≤ 40 := hIv1.2
      have zq0_v1 := congrArg Int32.toInt hq0_v1
      have zq1_v1 := congrArg Int32.toInt hq1_v1
      have zq4_v1 := congrArg Int32.toInt hq4_v1
      have zq5_v1 := congrArg Int32.toInt hq5_v1
      have zq8_v1 := congrArg Int32.toInt hq8_v1
      have zq9_v1 := congrArg Int32.toInt hq9_v1
      have zq10_v1 := congrArg Int32.toInt hq10_v1
      have zq13_v1 := congrArg Int32.toInt hq13_v1
      have zq14_v1 := congrArg Int32.toInt hq14_v1
      have zq15_v1 := congrArg Int32.toInt hq15_v1
      have zq17_v1 := congrArg Int32.toInt hq17_v1
      have zq18_v1 := congrArg Int32.toInt hq18_v1
      have b3_v1 : 0 ≤ (v1 3).toInt ∧ (v1 3).toInt ≤ 1600 := Yb_3 hIv1.1
      refine lv_aload_n hx hb dX11_token_0 rfl (lv_at hl 0 rfl) ?_
      refine lv_iconst (v := 0) hx hb dX11_token_1 rfl ?_
      have lt2 : (0 : Int32).toInt = 0 := by decide
      refine cbVi (n := 1) (rest := []) hx hb hml hown hts hE hP hD hS hA (sY_X11_here_1 NF l dC dI cy y0 r 0 v1 f1 w1 g1 hIv1 hCf1 hRf1 ⟨by decide, by decide⟩) k_1583 k_1585 k_43 k_114 k_1586 hd_yX11_here ⟨Nat.le_of_ble_eq_true rfl, Nat.le_of_ble_eq_true rfl⟩ 0 11 rfl rfl (rfl) hl.1 rfl (Nat.le_of_ble_eq_true rfl) dX11_token_2 (fun r3 u H locs hw hP hD hS => ?_)
      obtain ⟨hG4, hw⟩ := hw
      have pp5 := hw
      have b4_v1 : 0 ≤ (v1 4).toInt ∧ (v1 4).toInt ≤ 1600 := Yb_4 hIv1.1
      have b4_v : 0 ≤ (v 4).toInt ∧ (v 4).toInt ≤ 1600 := Yb_4 hIv.1
      have pp5 : r3.toInt < 0 ∨ (v1 3).toInt + (0 : Int32).toInt < (v1 4).toInt := pp5
      refine lv_bipush (v := 32) hx hb dX11_token_5 rfl ?_
      refine lv_icmp_eq (tgt := 20) hx hb dX11_token_7 rfl (fun c6 => ?_) (fun c6 => ?_)
      · skip
        have zc6 : r3.toInt = 32 := zEp rfl tc_32 c6
        refine lv_aload_n hx hb dX11_token_20 rfl (lv_at hl 0 rfl) ?_
        refine lv_dup hx hb dX11_token_21 rfl ?_
        refine va_get (D := (dC, dI)) (ci := 11) (v := .int (v1 3)) (C := RX11) (T := TX11) (N := 79) hx hb hts inB_11 hown hE.1 hP 0 rfl rfl 4 (Nat.le_of_ble_eq_true rfl) (hts _ k_1324) (fun _ h9 => h9) rfl dX11_token_22 ?_
        refine lv_iconst (v := 1) hx hb dX11_token_25 rfl ?_
        refine lv_iadd hx hb dX11_token_26 ?_
        refine lv_topi (fun t7 et7 => ?_)
        have zt7 : t7.toInt = (v1 3).toInt + 1 := (congrArg Int32.toInt et7).trans (add_i rfl tc_1 (om_4 b3_v1) (om_57 b3_v1))
        refine va_put (D := (dC, dI)) (ci := 11) (v := .int t7) (ty := tyX11 4) (C := RX11) (T := TX11) (N := 79) hx hb hts inB_11 tyX11 tyX11_ok nmX11 hown hE.1 hP hD hS 0 rfl rfl 4 (Nat.le_of_ble_eq_true rfl) (hts _ k_1324) (fun _ h9 => h9) rfl (tyX11_ok 4 (Nat.le_of_ble_eq_true rfl)) rfl rfl (Nat.le_of_ble_eq_true rfl) dX11_token_27 (fun H locs hP hD hS => ?_)
        have hP : va_P (dC, dI) vwCl (YW cy y0 r (upd v1 3 t7) f1 w1 g1) H := hP
        have hD : va_D A (YW cy y0 r (upd v1 3 t7) f1 w1 g1) := hD
        refine lv_goto (tgt := 0) hx hb dX11_token_30 rfl ?_
        exact ih1  (upd v1 3 t7) f1 w1 g1 ⟨(Yu_3 (x := t7) hIv1.1 (show (0 : Int) ≤ t7.toInt from om_8 b3_v1 zt7) (show t7.toInt ≤ (1600 : Int) from om_293 b4_v1 pp5 zc6 zt7 tc_0)), hIv1.2⟩ hCf1 hRf1 hq0_v1 hq1_v1 hq2_v1 hq4_v1 hq5_v1 hq8_v1 hq9_v1 hq10_v1 hq13_v1 hq14_v1 hq15_v1 hq17_v1 hq18_v1 hq24_v1 hq25_v1 hq35_v1 hq36_v1 hq38_v1 hq39_v1 ((gsY_X11_token_1_q0 hG4.symm c6 et7).symm.trans hT1) (show (v 3).toInt ≤ t7.toInt from om_35 hx0_1 zt7) (KV.up (j := 3) (x := t7) hM_v1 rfl) hA_f1 hs2_f1 hs3_f1 hs6_f1 (show (1600 - t7.toInt).toNat < n1 from om_294 hm1 b4_v1 pp5 zc6 zt7 tc_0) _ _ _ hP hD hS (lv_sub hl [0] rfl)
      · skip
        have zc6 : ¬ (r3.toInt = 32) := zEn rfl tc_32 c6
        refine lv_aload_n hx hb dX11_token_10 rfl (lv_at hl 0 rfl) ?_
        refine lv_iconst (v := 0) hx hb dX11_token_11 rfl ?_
        refine cbVi (n := 1) (rest := []) hx hb hml hown hts hE hP hD hS hA (sY_X11_here_1 NF l dC dI cy y0 r 0 v1 f1 w1 g1 hIv1 hCf1 hRf1 ⟨by decide, by decide⟩) k_1583 k_1585 k_43 k_114 k_1586 hd_yX11_here ⟨Nat.le_of_ble_eq_true rfl, Nat.le_of_ble_eq_true rfl⟩ 0 11 rfl rfl (rfl) hl.1 rfl (Nat.le_of_ble_eq_true rfl) dX11_token_12 (fun r9 u H locs hw hP hD hS => ?_)
        obtain ⟨hG10, hw⟩ := hw
        have pp11 := hw
        have pp11 : r9.toInt < 0 ∨ (v1 3).toInt + (0 : Int32).toInt < (v1 4).toInt := pp11
        refine lv_bipush (v := 10) hx hb dX11_token_15 rfl ?_
        refine lv_icmp_ne (tgt := 33) hx hb dX11_token_17 rfl (fun c12 => ?_) (fun c12 => ?_)
        · skip
          have zc12 : ¬ (r9.toInt = 10) := zEn rfl tc_10 c12
          refine lv_aload_n hx hb dX11_token_33 rfl (lv_at hl 0 rfl) ?_
          refine lv_aload_n hx hb dX11_token_34 rfl (lv_at hl 0 rfl) ?_
          refine va_get (D := (dC, dI)) (ci := 11) (v := .int (v1 3)) (C := RX11) (T := TX11) (N := 79) hx hb hts inB_11 hown hE.1 hP 0 rfl rfl 4 (Nat.le_of_ble_eq_true rfl) (hts _ k_1324) (fun _ h9 => h9) rfl dX11_token_35 ?_
          refine va_put (D := (dC, dI)) (ci := 11) (v := .int (v1 3)) (ty := tyX11 7) (C := RX11) (T := TX11) (N := 79) hx hb hts inB_11 tyX11 tyX11_ok nmX11 hown hE.1 hP hD hS 0 rfl rfl 7 (Nat.le_of_ble_eq_true rfl) (hts _ k_1327) (fun _ h9 => h9) rfl (tyX11_ok 7 (Nat.le_of_ble_eq_true rfl)) rfl rfl (Nat.le_of_ble_eq_true rfl) dX11_token_38 (fun H locs hP hD hS => ?_)
          have hP : va_P (dC, dI) vwCl (YW cy y0 r (upd v1 6 (v1 3)) f1 w1 g1) H := hP
          have hD : va_D A (YW cy y0 r (upd v1 6 (v1 3)) f1 w1 g1) := hD
          refine lv_aload_n hx hb dX11_token_41 rfl (lv_at hl 0 rfl) ?_
          refine lv_iconst (v := 0) hx hb dX11_token_42 rfl ?_
          refine cbVi (n := 1) (rest := []) hx hb hml hown hts hE hP hD hS hA (sY_X11_here_1 NF l dC dI cy y0 r 0 (upd v1 6 (v1 3)) f1 w1 g1 ⟨(Yu_6 (x := (v1 3)) hIv1.1 (rlo _) (rhi _)), hIv1.2⟩ hCf1 hRf1 ⟨by decide, by decide⟩) k_1583 k_1585 k_43 k_114 k_1586 hd_yX11_here ⟨Nat.le_of_ble_eq_true rfl, Nat.le_of_ble_eq_true rfl⟩ 0 11 rfl rfl (rfl) hl.1 rfl (Nat.le_of_ble_eq_true rfl) dX11_token_43 (fun r13 u H locs hw hP hD hS => ?_)
          obtain ⟨hG14, hw⟩ := hw
          have pp15 := hw
          have pp15 : r13.toInt < 0 ∨ (v1 3).toInt + (0 : Int32).toInt < (v1 4).toInt := pp15
          refine lv_istore_n (lv' := [(1, .int r13), (0, .ref y0)]) hx hb dX11_token_46 rfl hl (Nat.le_of_ble_eq_true rfl) rfl (fun ls hl => ?_)
          refine lv_iconst (v := 0) hx hb dX11_token_47 rfl ?_
          refine lv_istore_n (lv' := [(2, .int 0), (1, .int r13), (0, .ref y0)]) hx hb dX11_token_48 rfl hl (Nat.le_of_ble_eq_true rfl) rfl (fun ls hl => ?_)
          refine lv_aload_n hx hb dX11_token_49 rfl (lv_at hl 2 rfl) ?_
          refine lv_lconst (v := 0) hx hb dX11_token_50 (by decide) ?_
          refine va_put (D := (dC, dI)) (ci := 11) (v := .long 0) (ty := tyX11 9) (C := RX11) (T := TX11) (N := 79) hx hb hts inB_11 tyX11 tyX11_ok nmX11 hown hE.1 hP hD hS 0 rfl rfl 9 (Nat.le_of_ble_eq_true rfl) (hts _ k_1329) (fun _ h9 => h9) rfl (tyX11_ok 9 (Nat.le_of_ble_eq_true rfl)) rfl rfl (Nat.le_of_ble_eq_true rfl) dX11_token_51 (fun H locs hP hD hS => ?_)
          have hP : va_P (dC, dI) vwCl (YW cy y0 r (upd v1 6 (v1 3)) f1 0 g1) H := hP
          have hD : va_D A (YW cy y0 r (upd v1 6 (v1 3)) f1 0 g1) := hD
          refine lv_aload_n hx hb dX11_token_54 rfl (lv_at hl 2 rfl) ?_
          refine lv_iconst (v := 0) hx hb dX11_token_55 rfl ?_
          refine va_put (D := (dC, dI)) (ci := 11) (v := .int 0) (ty := tyX11 8) (C := RX11) (T := TX11) (N := 79) hx hb hts inB_11 tyX11 tyX11_ok nmX11 hown hE.1 hP hD hS 0 rfl rfl 8 (Nat.le_of_ble_eq_true rfl) (hts _ k_1328) (fun _ h9 => h9) rfl (tyX11_ok 8 (Nat.le_of_ble_eq_true rfl)) rfl rfl (Nat.le_of_ble_eq_true rfl) dX11_token_56 (fun H locs hP hD hS => ?_)
          have hP : va_P (dC, dI) vwCl (YW cy y0 r (upd (upd v1 6 (v1 3)) 7 0) f1 0 g1) H := hP
          have hD : va_D A (YW cy y0 r (upd (upd v1 6 (v1 3)) 7 0) f1 0 g1) := hD
          refine lv_iload_n hx hb dX11_token_59 rfl (lv_at hl 1 rfl) ?_
          refine lv_if_ge (tgt := 71) hx hb dX11_token_60 rfl (fun c16 => ?_) (fun c16 => ?_)
          · skip
            have zc16 : 0 ≤ r13.toInt := zMp tc_0 rfl c16
            refine lv_iload_n hx hb dX11_token_71 rfl (lv_at hl 1 rfl) ?_
            refine cbSi (n := 1) (rest := []) hx hb hml hown hts hE hP hD hS hA (sY_X11_isLetter_1 NF l dC dI cy y0 r r13 (upd (upd v1 6 (v1 3)) 7 0) f1 0 g1 ⟨(Yu_7 (x := 0) (Yu_6 (x := (v1 3)) hIv1.1 (rlo _) (rhi _)) (rlo _) (rhi _)), hIv1.2⟩ hCf1 hRf1 ) k_1587 k_1588 k_114 k_1589 he_yX11_isLetter ⟨Nat.le_of_ble_eq_true rfl, Nat.le_of_ble_eq_true rfl⟩ (rfl) hl.1 rfl (Nat.le_of_ble_eq_true rfl) dX11_token_72 (fun r17 u H locs hw hP hD hS => ?_)
            obtain ⟨hG18, hw⟩ := hw
            rcases hw with ⟨g19, g19_0⟩ | ⟨g19⟩
            · skip
              subst g19
              refine lv_if_eq (tgt := 137) hx hb dX11_token_75 rfl (fun c0 => absurd c0 (by decide)) (fun _ => ?_)
              have lp20 : ∀ (n20 : Nat) (l2_20 : Int32) (v20 : Nat → Int32) (f20 : Nat → Nat → Int32) (w20 : Int64) (g20 : Nat → Int64), YI v20 → YC f20 → progOK (f20 4) (f20 5) (v20 9).toInt.toNat → v20 0 = (v 0) → v20 1 = (v 1) → v20 2 = (v 2) → v20 3 = (v1 3) → v20 4 = (v 4) → v20 5 = (v 5) → v20 8 = (v 8) → v20 9 = (v 9) → v20 10 = (v 10) → v20 13 = (v 13) → v20 14 = (v 14) → v20 15 = (v 15) → v20 17 = (v 17) → v20 18 = (v 18) → v20 24 = (v 24) → v20 25 = (v 25) → v20 35 = (v 35) → v20 36 = (v 36) → v20 38 = (v 38) → v20 39 = (v 39) → gsY_X11_token_1_L20 NF v1 n20 l2_20 v20 f20 w20 g20 = (gsY_X11_token_1 NF v f w g) → ((0 : Int) ≤ l2_20.toInt ∧ l2_20.toInt ≤ 1600) → ((v20 3).toInt + l2_20.toInt ≤ (v20 4).toInt) → KV [3, 5, 6, 7] v20 v → KF [] f20 f → f20 2 = (f 2) → f20 3 = (f 3) → f20 6 = (f 6) → (2147483647 - l2_20.toInt).toNat < n20 → ∀ (H : Heap) (locs : List Loc) (ls : Array Slot), va_P (dC, dI) vwCl (YW cy y0 r v20 f20 w20 g20) H → va_D A (YW cy y0 r v20 f20 w20 g20) → va_S A s.heap H locs → lv_has ls 3 [(2, .int l2_20), (1, .int r13), (0, .ref y0)] → W p l e { frames := 2, cells := 0, slots := 0, locals := 81 } s m ([.ref y0] : List Value).toArray below meth c H locs 0 0 Q (F0 m 78 ls []) := by
                intro n20
                induction n20 with
                | zero => intro l2_20 v20 f20 w20 g20 hIv20 hCf20 hRf20 hq0_v20 hq1_v20 hq2_v20 hq3_v20 hq4_v20 hq5_v20 hq8_v20 hq9_v20 hq10_v20 hq13_v20 hq14_v20 hq15_v20 hq17_v20 hq18_v20 hq24_v20 hq25_v20 hq35_v20 hq36_v20 hq38_v20 hq39_v20 hT20 hr2_20 hx0_20 hM_v20 hA_f20 hs2_f20 hs3_f20 hs6_f20 hm; exact absurd hm (Nat.not_lt_zero _)
                | succ n20 ih20 =>
                  intro l2_20 v20 f20 w20 g20 hIv20 hCf20 hRf20 hq0_v20 hq1_v20 hq2_v20 hq3_v20 hq4_v20 hq5_v20 hq8_v20 hq9_v20 hq10_v20 hq13_v20 hq14_v20 hq15_v20 hq17_v20 hq18_v20 hq24_v20 hq25_v20 hq35_v20 hq36_v20 hq38_v20 hq39_v20 hT20 hr2_20 hx0_20 hM_v20 hA_f20 hs2_f20 hs3_f20 hs6_f20 hm20 H locs ls hP hD hS hl
                  try clear zq0_v1
                  try clear zq1_v1
                  have zq3_v20 := congrArg Int32.toInt hq3_v20
                  try clear zq4_v1
                  try clear zq5_v1
                  try clear zq8_v1
                  try clear zq9_v1
                  try clear zq10_v1
                  try clear zq13_v1
                  try clear zq14_v1
                  try clear zq15_v1
                  try clear zq17_v1
                  try clear zq18_v1
                  have b3_v20 : 0 ≤ (v20 3).toInt ∧ (v20 3).toInt ≤ 1600 := Yb_3 hIv20.1
                  have b3_v1 : 0 ≤ (v1 3).toInt ∧ (v1 3).toInt ≤ 1600 := Yb_3 hIv1.1
                  have b4_v20 : 0 ≤ (v20 4).toInt ∧ (v20 4).toInt ≤ 1600 := Yb_4 hIv20.1
                  refine lv_aload_n hx hb dX11_token_78 rfl (lv_at hl 2 rfl) ?_
                  refine lv_iload_n hx hb dX11_token_79 rfl (lv_at hl 0 rfl) ?_
                  refine cbVi (n := 1) (rest := []) hx hb hml hown hts hE hP hD hS hA (sY_X11_here_1 NF l dC dI cy y0 r l2_20 v20 f20 w20 g20 hIv20 hCf20 hRf20 ⟨show (0 : Int) ≤ l2_20.toInt from om_2 hr2_20, show l2_20.toInt ≤ (1600 : Int) from om_48 hr2_20⟩) k_1583 k_1585 k_43 k_114 k_1586 hd_yX11_here ⟨Nat.le_of_ble_eq_true rfl, Nat.le_of_ble_eq_true rfl⟩ 0 11 rfl rfl (rfl) hl.1 rfl (Nat.le_of_ble_eq_true rfl) dX11_token_80 (fun r21 u H locs hw hP hD hS => ?_)
                  obtain ⟨hG22, hw⟩ := hw
                  have pp23 := hw
                  have pp23 : r21.toInt < 0 ∨ (v20 3).toInt + l2_20.toInt < (v20 4).toInt := pp23
                  refine cbSi (n := 1) (rest := []) hx hb hml hown hts hE hP hD hS hA (sY_X11_isLetter_1 NF l dC dI cy y0 r r21 v20 f20 w20 g20 hIv20 hCf20 hRf20 ) k_1587 k_1588 k_114 k_1589 he_yX11_isLetter ⟨Nat.le_of_ble_eq_true rfl, Nat.le_of_ble_eq_true rfl⟩ (rfl) hl.1 rfl (Nat.le_of_ble_eq_true rfl) dX11_token_83 (fun r24 u H locs hw hP hD hS => ?_)
                  obtain ⟨hG25, hw⟩ := hw
                  rcases hw with ⟨g26, g26_0⟩ | ⟨g26⟩
                  · skip
                    subst g26
                    refine lv_if_eq (tgt := 119) hx hb dX11_token_86 rfl (fun c0 => absurd c0 (by decide)) (fun _ => ?_)
                    refine lv_iload_n hx hb dX11_token_89 rfl (lv_at hl 0 rfl) ?_
                    refine lv_bipush (v := 8) hx hb dX11_token_90 rfl ?_
                    refine lv_icmp_ge (tgt := 113) hx hb dX11_token_92 rfl (fun c27 => ?_) (fun c27 => ?_)
                    · skip
                      have zc27 : 8 ≤ l2_20.toInt := zMp tc_8 rfl c27
                      obtain ⟨t28, et28⟩ : ∃ y : Int32, y = l2_20 + 1 := ⟨_, rfl⟩
                      have zt28 : t28.toInt = l2_20.toInt + 1 := (congrArg Int32.toInt et28).trans (add_i rfl tc_1 (om_295 zc27) (om_57 hr2_20))
                      refine lv_iinc (v := t28) (lv' := [(2, .int t28), (1, .int r13), (0, .ref y0)]) hx hb dX11_token_113 hl (k := 0) rfl et28.symm (Nat.le_of_ble_eq_true rfl) rfl (fun ls hl => ?_)
                      refine lv_goto (tgt := 78) hx hb dX11_token_116 rfl ?_
                      have rg30 := fb_rng t28
                      exact ih20 t28 v20 f20 w20 g20 hIv20 hCf20 hRf20 hq0_v20 hq1_v20 hq2_v20 hq3_v20 hq4_v20 hq5_v20 hq8_v20 hq9_v20 hq10_v20 hq13_v20 hq14_v20 hq15_v20 hq17_v20 hq18_v20 hq24_v20 hq25_v20 hq35_v20 hq36_v20 hq38_v20 hq39_v20 ((gsY_X11_token_1_q1 hG22.symm hG25 c27 et28).symm.trans hT20) ⟨show (0 : Int) ≤ t28.toInt from om_296 zc27 zt28, show t28.toInt ≤ (1600 : Int) from om_297 b3_v20 b4_v20 pp23 g26_0 zt28⟩ (show (v20 3).toInt + t28.toInt ≤ (v20 4).toInt from om_298 pp23 g26_0 zt28) hM_v20 hA_f20 hs2_f20 hs3_f20 hs6_f20 (show (2147483647 - t28.toInt).toNat < n20 from om_33 hm20 zt28 rg30) _ _ _ hP hD hS (lv_sub hl [0, 1, 2] rfl)
                    · skip
                      have zc27 : ¬ (8 ≤ l2_20.toInt) := zMn tc_8 rfl c27
                      refine lv_aload_n hx hb dX11_token_95 rfl (lv_at hl 2 rfl) ?_
                      refine lv_aload_n hx hb dX11_token_96 rfl (lv_at hl 2 rfl) ?_
                      refine va_get (D := (dC, dI)) (ci := 11) (v := .long w20) (C := RX11) (T := TX11) (N := 79) hx hb hts inB_11 hown hE.1 hP 0 rfl rfl 9 (Nat.le_of_ble_eq_true rfl) (hts _ k_1329) (fun _ h9 => h9) rfl dX11_token_97 ?_
                      refine lv_bipush (v := 8) hx hb dX11_token_100 rfl ?_
                      refine lv_lshl hx hb dX11_token_102 rfl ?_
                      refine lv_topl (fun j31 ej31 => ?_)
                      refine lv_aload_n hx hb dX11_token_103 rfl (lv_at hl 2 rfl) ?_
                      refine lv_iload_n hx hb dX11_token_104 rfl (lv_at hl 0 rfl) ?_
                      refine cbVi (n := 1) (rest := [.long j31, .ref y0]) hx hb hml hown hts hE hP hD hS hA (sY_X11_here_1 NF l dC dI cy y0 r l2_20 v20 f20 w20 g20 hIv20 hCf20 hRf20 ⟨show (0 : Int) ≤ l2_20.toInt from om_2 hr2_20, show l2_20.toInt ≤ (1600 : Int) from om_299 zc27⟩) k_1583 k_1585 k_43 k_114 k_1586 hd_yX11_here ⟨Nat.le_of_ble_eq_true rfl, Nat.le_of_ble_eq_true rfl⟩ 0 11 rfl rfl (rfl) hl.1 rfl (Nat.le_of_ble_eq_true rfl) dX11_token_105 (fun r32 u H locs hw hP hD hS => ?_)
                      obtain ⟨hG33, hw⟩ := hw
                      have pp34 := hw
                      have pp34 : r32.toInt < 0 ∨ (v20 3).toInt + l2_20.toInt < (v20 4).toInt := pp34
                      refine lv_i2l hx hb dX11_token_108 rfl ?_
                      refine lv_topl (fun j35 ej35 => ?_)
                      refine lv_lor hx hb dX11_token_109 ?_
                      refine lv_topl (fun j36 ej36 => ?_)
                      refine va_put (D := (dC, dI)) (ci := 11) (v := .long j36) (ty := tyX11 9) (C := RX11) (T := TX11) (N := 79) hx hb hts inB_11 tyX11 tyX11_ok nmX11 hown hE.1 hP hD hS 0 rfl rfl 9 (Nat.le_of_ble_eq_true rfl) (hts _ k_1329) (fun _ h9 => h9) rfl (tyX11_ok 9 (Nat.le_of_ble_eq_true rfl)) rfl rfl (Nat.le_of_ble_eq_true rfl) dX11_token_110 (fun H locs hP hD hS => ?_)
                      have hP : va_P (dC, dI) vwCl (YW cy y0 r v20 f20 j36 g20) H := hP
                      have hD : va_D A (YW cy y0 r v20 f20 j36 g20) := hD
                      obtain ⟨t37, et37⟩ : ∃ y : Int32, y = l2_20 + 1 := ⟨_, rfl⟩
                      have zt37 : t37.toInt = l2_20.toInt + 1 := (congrArg Int32.toInt et37).trans (add_i rfl tc_1 (om_4 hr2_20) (om_300 zc27))
                      refine lv_iinc (v := t37) (lv' := [(2, .int t37), (1, .int r13), (0, .ref y0)]) hx hb dX11_token_113 hl (k := 0) rfl et37.symm (Nat.le_of_ble_eq_true rfl) rfl (fun ls hl => ?_)
                      refine lv_goto (tgt := 78) hx hb dX11_token_116 rfl ?_
                      have rg39 := fb_rng t37
                      exact ih20 t37 v20 f20 j36 g20 hIv20 hCf20 hRf20 hq0_v20 hq1_v20 hq2_v20 hq3_v20 hq4_v20 hq5_v20 hq8_v20 hq9_v20 hq10_v20 hq13_v20 hq14_v20 hq15_v20 hq17_v20 hq18_v20 hq24_v20 hq25_v20 hq35_v20 hq36_v20 hq38_v20 hq39_v20 ((gsY_X11_token_1_q2 hG22.symm hG25 c27 ej31 hG33.symm ej35 ej36 et37).symm.trans hT20) ⟨show (0 : Int) ≤ t37.toInt from om_8 hr2_20 zt37, show t37.toInt ≤ (1600 : Int) from om_301 zc27 zt37⟩ (show (v20 3).toInt + t37.toInt ≤ (v20 4).toInt from om_298 pp23 g26_0 zt37) hM_v20 hA_f20 hs2_f20 hs3_f20 hs6_f20 (show (2147483647 - t37.toInt).toNat < n20 from om_33 hm20 zt37 rg39) _ _ _ hP hD hS (lv_sub hl [0, 1, 2] rfl)
                  · skip
                    subst g26
                    refine lv_if_eq (tgt := 119) hx hb dX11_token_86 rfl (fun _ => ?_) (fun c0 => absurd (by decide) c0)
                    refine lv_aload_n hx hb dX11_token_119 rfl (lv_at hl 2 rfl) ?_
                    refine lv_iload_n hx hb dX11_token_120 rfl (lv_at hl 0 rfl) ?_
                    refine lv_bipush (v := 8) hx hb dX11_token_121 rfl ?_
                    refine lv_icmp_le (tgt := 130) hx hb dX11_token_123 rfl (fun c40 => ?_) (fun c40 => ?_)
                    · skip
                      have zc40 : l2_20.toInt ≤ 8 := zMp rfl tc_8 c40
                      refine lv_iconst (v := 1) hx hb dX11_token_130 rfl ?_
                      refine va_put (D := (dC, dI)) (ci := 11) (v := .int 1) (ty := tyX11 6) (C := RX11) (T := TX11) (N := 79) hx hb hts inB_11 tyX11 tyX11_ok nmX11 hown hE.1 hP hD hS 0 rfl rfl 6 (Nat.le_of_ble_eq_true rfl) (hts _ k_1326) (fun _ h9 => h9) rfl (tyX11_ok 6 (Nat.le_of_ble_eq_true rfl)) rfl rfl (Nat.le_of_ble_eq_true rfl) dX11_token_131 (fun H locs hP hD hS => ?_)
                      have hP : va_P (dC, dI) vwCl (YW cy y0 r (upd v20 5 1) f20 w20 g20) H := hP
                      have hD : va_D A (YW cy y0 r (upd v20 5 1) f20 w20 g20) := hD
                      refine lv_goto (tgt := 232) hx hb dX11_token_134 rfl ?_
                      refine lv_aload_n hx hb dX11_token_232 rfl (lv_at hl 2 rfl) ?_
                      refine va_get (D := (dC, dI)) (ci := 11) (v := .int 1) (C := RX11) (T := TX11) (N := 79) hx hb hts inB_11 hown hE.1 hP 0 rfl rfl 6 (Nat.le_of_ble_eq_true rfl) (hts _ k_1326) (fun _ h9 => h9) rfl dX11_token_233 ?_
                      refine lv_iconst (v := 3) hx hb dX11_token_236 rfl ?_
                      refine lv_icmp_eq (tgt := 250) hx hb dX11_token_237 rfl (fun c0 => absurd c0 (by decide)) (fun _ => ?_)
                      refine lv_aload_n hx hb dX11_token_240 rfl (lv_at hl 2 rfl) ?_
                      refine lv_dup hx hb dX11_token_241 rfl ?_
                      refine va_get (D := (dC, dI)) (ci := 11) (v := .int (v20 3)) (C := RX11) (T := TX11) (N := 79) hx hb hts inB_11 hown hE.1 hP 0 rfl rfl 4 (Nat.le_of_ble_eq_true rfl) (hts _ k_1324) (fun _ h9 => h9) rfl dX11_token_242 ?_
                      refine tI (y := (v1 3)) hq3_v20 ?_
                      refine lv_iload_n hx hb dX11_token_245 rfl (lv_at hl 0 rfl) ?_
                      refine lv_iadd hx hb dX11_token_246 ?_
                      refine lv_topi (fun t41 et41 => ?_)
                      have zt41 : t41.toInt = (v1 3).toInt + l2_20.toInt := (congrArg Int32.toInt et41).trans (add_i rfl rfl (om_286 hr2_20 b3_v1) (om_302 b3_v1 zc40))
                      refine va_put (D := (dC, dI)) (ci := 11) (v := .int t41) (ty := tyX11 4) (C := RX11) (T := TX11) (N := 79) hx hb hts inB_11 tyX11 tyX11_ok nmX11 hown hE.1 hP hD hS 0 rfl rfl 4 (Nat.le_of_ble_eq_true rfl) (hts _ k_1324) (fun _ h9 => h9) rfl (tyX11_ok 4 (Nat.le_of_ble_eq_true rfl)) rfl rfl (Nat.le_of_ble_eq_true rfl) dX11_token_247 (fun H locs hP hD hS => ?_)
                      have hP : va_P (dC, dI) vwCl (YW cy y0 r (upd (upd v20 5 1) 3 t41) f20 w20 g20) H := hP
                      have hD : va_D A (YW cy y0 r (upd (upd v20 5 1) 3 t41) f20 w20 g20) := hD
                      exact ret ((upd (upd v20 5 1) 3 t41), f20, w20, g20) _ _ _ _ _ _ ⟨(hT20.symm.trans (gsY_X11_token_1_q3 hG22.symm hG25 c40 et41)), (KV.up (j := 3) (x := t41) (KV.up (j := 5) (x := 1) hM_v20 rfl) rfl), hA_f20, ⟨(Yu_3 (x := t41) (Yu_5 (x := 1) hIv20.1 (rlo _) (rhi _)) (show (0 : Int) ≤ t41.toInt from om_289 hr2_20 b3_v1 zt41) (show t41.toInt ≤ (1600 : Int) from om_303 hx0_20 zq3_v20 b4_v20 zt41)), hIv20.2⟩, hCf20, hRf20, hq0_v20, hq1_v20, hq2_v20, hq4_v20, hq8_v20, hq9_v20, hq10_v20, hq13_v20, hq14_v20, hq15_v20, hq17_v20, hq18_v20, hq24_v20, hq25_v20, hq35_v20, hq36_v20, hq38_v20, hq39_v20, (show (v 3).toInt ≤ t41.toInt from om_304 hx0_1 hr2_20 zt41), (show (1 : Int32).toInt = (v 5).toInt ∨ (v 3).toInt < t41.toInt ∨ ¬ (1 : Int32).toInt = 59 from om_305 tc_1), hs2_f20, hs3_f20, hs6_f20⟩ hP hD hS dX11_token_250 (Nat.le_refl _) (Nat.le_refl _)
                    · skip
                      refine lv_iconst (v := 3) hx hb dX11_token_126 rfl ?_
                      refine lv_goto (tgt := 131) hx hb dX11_token_127 rfl ?_
                      refine va_put (D := (dC, dI)) (ci := 11) (v := .int 3) (ty := tyX11 6) (C := RX11) (T := TX11) (N := 79) hx hb hts inB_11 tyX11 tyX11_ok nmX11 hown hE.1 hP hD hS 0 rfl rfl 6 (Nat.le_of_ble_eq_true rfl) (hts _ k_1326) (fun _ h9 => h9) rfl (tyX11_ok 6 (Nat.le_of_ble_eq_true rfl)) rfl rfl (Nat.le_of_ble_eq_true rfl) dX11_token_131 (fun H locs hP hD hS => ?_)
                      have hP : va_P (dC, dI) vwCl (YW cy y0 r (upd v20 5 3) f20 w20 g20) H := hP
                      have hD : va_D A (YW cy y0 r (upd v20 5 3) f20 w20 g20) := hD
                      refine lv_goto (tgt := 232) hx hb dX11_token_134 rfl ?_
                      refine lv_aload_n hx hb dX11_token_232 rfl (lv_at hl 2 rfl) ?_
                      refine va_get (D := (dC, dI)) (ci := 11) (v := .int 3) (C := RX11) (T := TX11) (N := 79) hx hb hts inB_11 hown hE.1 hP 0 rfl rfl 6 (Nat.le_of_ble_eq_true rfl) (hts _ k_1326) (fun _ h9 => h9) rfl dX11_token_233 ?_
                      refine lv_iconst (v := 3) hx hb dX11_token_236 rfl ?_
                      refine lv_icmp_eq (tgt := 250) hx hb dX11_token_237 rfl (fun _ => ?_) (fun c0 => absurd (by decide) c0)
                      exact ret ((upd v20 5 3), f20, w20, g20) _ _ _ _ _ _ ⟨(hT20.symm.trans (gsY_X11_token_1_q4 hG22.symm hG25 c40)), (KV.up (j := 5) (x := 3) hM_v20 rfl), hA_f20, ⟨(Yu_5 (x := 3) hIv20.1 (rlo _) (rhi _)), hIv20.2⟩, hCf20, hRf20, hq0_v20, hq1_v20, hq2_v20, hq4_v20, hq8_v20, hq9_v20, hq10_v20, hq13_v20, hq14_v20, hq15_v20, hq17_v20, hq18_v20, hq24_v20, hq25_v20, hq35_v20, hq36_v20, hq38_v20, hq39_v20, (show (v 3).toInt ≤ (v20 3).toInt from om_306 hx0_1 zq3_v20), (show (3 : Int32).toInt = (v 5).toInt ∨ (v 3).toInt < (v20 3).toInt ∨ ¬ (3 : Int32).toInt = 59 from om_307 tc_3), hs2_f20, hs3_f20, hs6_f20⟩ hP hD hS dX11_token_250 (Nat.le_refl _) (Nat.le_refl _)
              exact lp20 (4294967296 + NF) 0 (upd (upd v1 6 (v1 3)) 7 0) f1 0 g1 ⟨(Yu_7 (x := 0) (Yu_6 (x := (v1 3)) hIv1.1 (rlo _) (rhi _)) (rlo _) (rhi _)), hIv1.2⟩ hCf1 hRf1 hq0_v1 hq1_v1 hq2_v1 rfl hq4_v1 hq5_v1 hq8_v1 hq9_v1 hq10_v1 hq13_v1 hq14_v1 hq15_v1 hq17_v1 hq18_v1 hq24_v1 hq25_v1 hq35_v1 hq36_v1 hq38_v1 hq39_v1 ((gsY_X11_token_1_q5 hG4.symm c6 hG10.symm c12 hG14.symm c16 hG18).symm.trans hT1) ⟨by decide, by decide⟩ (by have qc0 : (0 : Int32).toInt = 0 := (by decide); have q2 : (0 : Int32).toInt = 0 := (by decide); show (v1 3).toInt + (0 : Int32).toInt ≤ (v1 4).toInt; omega) (KV.up (j := 7) (x := 0) (KV.up (j := 6) (x := (v1 3)) hM_v1 rfl) rfl) hA_f1 hs2_f1 hs3_f1 hs6_f1 (by have q2 : (0 : Int32).toInt = 0 := (by decide); have qc0 : (0 : Int32).toInt = 0 := (by decide); show (2147483647 - (0 : Int32).toInt).toNat < 4294967296 + NF; omega) _ _ _ hP hD hS (lv_sub hl [0, 1, 2] rfl)
            · skip
              subst g19
              refine lv_if_eq (tgt := 137) hx hb dX11_token_75 rfl (fun _ => ?_) (fun c0 => absurd (by decide) c0)
              refine lv_iload_n hx hb dX11_token_137 rfl (lv_at hl 1 rfl) ?_
              refine cbSi (n := 1) (rest := []) hx hb hml hown hts hE hP hD hS hA (sY_X11_isDigit_1 NF l dC dI cy y0 r r13 (upd (upd v1 6 (v1 3)) 7 0) f1 0 g1 ⟨(Yu_7 (x := 0) (Yu_6 (x := (v1 3)) hIv1.1 (rlo _) (rhi _)) (rlo _) (rhi _)), hIv1.2⟩ hCf1 hRf1 ) k_1590 k_1591 k_114 k_1592 he_yX11_isDigit ⟨Nat.le_of_ble_eq_true rfl, Nat.le_of_ble_eq_true rfl⟩ (rfl) hl.1 rfl (Nat.le_of_ble_eq_true rfl) dX11_token_138 (fun r44 u H locs hw hP hD hS => ?_)
              obtain ⟨hG45, hw⟩ := hw
              rcases hw with ⟨g46, g46_0⟩ | ⟨g46⟩
              · skip
                subst g46
                refine lv_if_eq (tgt := 214) hx hb dX11_token_141 rfl (fun c0 => absurd c0 (by decide)) (fun _ => ?_)
                have lp47 : ∀ (n47 : Nat) (l2_47 : Int32) (v47 : Nat → Int32) (f47 : Nat → Nat → Int32) (w47 : Int64) (g47 : Nat → Int64), YI v47 → YC f47 → progOK (f47 4) (f47 5) (v47 9).toInt.toNat → v47 0 = (v 0) → v47 1 = (v 1) → v47 2 = (v 2) → v47 3 = (v1 3) → v47 4 = (v 4) → v47 5 = (v 5) → v47 8 = (v 8) → v47 9 = (v 9) → v47 10 = (v 10) → v47 13 = (v 13) → v47 14 = (v 14) → v47 15 = (v 15) → v47 17 = (v 17) → v47 18 = (v 18) → v47 24 = (v 24) → v47 25 = (v 25) → v47 35 = (v 35) → v47 36 = (v 36) → v47 38 = (v 38) → v47 39 = (v 39) → gsY_X11_token_1_L47 NF v1 n47 l2_47 v47 f47 w47 g47 = (gsY_X11_token_1 NF v f w g) → ((0 : Int) ≤ l2_47.toInt ∧ l2_47.toInt ≤ 1600) → ((v47 3).toInt + l2_47.toInt ≤ (v47 4).toInt) → KV [3, 5, 6, 7] v47 v → KF [] f47 f → f47 2 = (f 2) → f47 3 = (f 3) → f47 6 = (f 6) → (2147483647 - l2_47.toInt).toNat < n47 → ∀ (H : Heap) (locs : List Loc) (ls : Array Slot), va_P (dC, dI) vwCl (YW cy y0 r v47 f47 w47 g47) H → va_D A (YW cy y0 r v47 f47 w47 g47) → va_S A s.heap H locs → lv_has ls 3 [(2, .int l2_47), (1, .int r13), (0, .ref y0)] → W p l e { frames := 2, cells := 0, slots := 0, locals := 81 } s m ([.ref y0] : List Value).toArray below meth c H locs 0 0 Q (F0 m 144 ls []) := by
                  intro n47
                  induction n47 with
                  | zero => intro l2_47 v47 f47 w47 g47 hIv47 hCf47 hRf47 hq0_v47 hq1_v47 hq2_v47 hq3_v47 hq4_v47 hq5_v47 hq8_v47 hq9_v47 hq10_v47 hq13_v47 hq14_v47 hq15_v47 hq17_v47 hq18_v47 hq24_v47 hq25_v47 hq35_v47 hq36_v47 hq38_v47 hq39_v47 hT47 hr2_47 hx0_47 hM_v47 hA_f47 hs2_f47 hs3_f47 hs6_f47 hm; exact absurd hm (Nat.not_lt_zero _)
                  | succ n47 ih47 =>
                    intro l2_47 v47 f47 w47 g47 hIv47 hCf47 hRf47 hq0_v47 hq1_v47 hq2_v47 hq3_v47 hq4_v47 hq5_v47 hq8_v47 hq9_v47 hq10_v47 hq13_v47 hq14_v47 hq15_v47 hq17_v47 hq18_v47 hq24_v47 hq25_v47 hq35_v47 hq36_v47 hq38_v47 hq39_v47 hT47 hr2_47 hx0_47 hM_v47 hA_f47 hs2_f47 hs3_f47 hs6_f47 hm47 H locs ls hP hD hS hl
                    try clear zq0_v1
                    try clear zq1_v1
                    have zq3_v47 := congrArg Int32.toInt hq3_v47
                    try clear zq4_v1
                    try clear zq5_v1
                    try clear zq8_v1
                    try clear zq9_v1
                    try clear zq10_v1
                    try clear zq13_v1
                    try clear zq14_v1
                    try clear zq15_v1
                    try clear zq17_v1
                    try clear zq18_v1
                    have b3_v47 : 0 ≤ (v47 3).toInt ∧ (v47 3).toInt ≤ 1600 := Yb_3 hIv47.1
                    have b3_v1 : 0 ≤ (v1 3).toInt ∧ (v1 3).toInt ≤ 1600 := Yb_3 hIv1.1
                    have b4_v47 : 0 ≤ (v47 4).toInt ∧ (v47 4).toInt ≤ 1600 := Yb_4 hIv47.1
                    refine lv_aload_n hx hb dX11_token_144 rfl (lv_at hl 2 rfl) ?_
                    refine lv_iload_n hx hb dX11_token_145 rfl (lv_at hl 0 rfl) ?_
                    refine cbVi (n := 1) (rest := []) hx hb hml hown hts hE hP hD hS hA (sY_X11_here_1 NF l dC dI cy y0 r l2_47 v47 f47 w47 g47 hIv47 hCf47 hRf47 ⟨show (0 : Int) ≤ l2_47.toInt from om_2 hr2_47, show l2_47.toInt ≤ (1600 : Int) from om_48 hr2_47⟩) k_1583 k_1585 k_43 k_114 k_1586 hd_yX11_here ⟨Nat.le_of_ble_eq_true rfl, Nat.le_of_ble_eq_true rfl⟩ 0 11 rfl rfl (rfl) hl.1 rfl (Nat.le_of_ble_eq_true rfl) dX11_token_146 (fun r48 u H locs hw hP hD hS => ?_)
                    obtain ⟨hG49, hw⟩ := hw
                    have pp50 := hw
                    have pp50 : r48.toInt < 0 ∨ (v47 3).toInt + l2_47.toInt < (v47 4).toInt := pp50
                    refine cbSi (n := 1) (rest := []) hx hb hml hown hts hE hP hD hS hA (sY_X11_isDigit_1 NF l dC dI cy y0 r r48 v47 f47 w47 g47 hIv47 hCf47 hRf47 ) k_1590 k_1591 k_114 k_1592 he_yX11_isDigit ⟨Nat.le_of_ble_eq_true rfl, Nat.le_of_ble_eq_true rfl⟩ (rfl) hl.1 rfl (Nat.le_of_ble_eq_true rfl) dX11_token_149 (fun r51 u H locs hw hP hD hS => ?_)
                    obtain ⟨hG52, hw⟩ := hw
                    rcases hw with ⟨g53, g53_0⟩ | ⟨g53⟩
                    · skip
                      subst g53
                      refine lv_if_eq (tgt := 186) hx hb dX11_token_152 rfl (fun c0 => absurd c0 (by decide)) (fun _ => ?_)
                      refine lv_iload_n hx hb dX11_token_155 rfl (lv_at hl 0 rfl) ?_
                      refine lv_iconst (v := 4) hx hb dX11_token_156 rfl ?_
                      refine lv_icmp_ge (tgt := 180) hx hb dX11_token_157 rfl (fun c54 => ?_) (fun c54 => ?_)
                      · skip
                        have zc54 : 4 ≤ l2_47.toInt := zMp tc_4 rfl c54
                        obtain ⟨t55, et55⟩ : ∃ y : Int32, y = l2_47 + 1 := ⟨_, rfl⟩
                        have zt55 : t55.toInt = l2_47.toInt + 1 := (congrArg Int32.toInt et55).trans (add_i rfl tc_1 (om_308 zc54) (om_57 hr2_47))
                        refine lv_iinc (v := t55) (lv' := [(2, .int t55), (1, .int r13), (0, .ref y0)]) hx hb dX11_token_180 hl (k := 0) rfl et55.symm (Nat.le_of_ble_eq_true rfl) rfl (fun ls hl => ?_)
                        refine lv_goto (tgt := 144) hx hb dX11_token_183 rfl ?_
                        have rg57 := fb_rng t55
                        exact ih47 t55 v47 f47 w47 g47 hIv47 hCf47 hRf47 hq0_v47 hq1_v47 hq2_v47 hq3_v47 hq4_v47 hq5_v47 hq8_v47 hq9_v47 hq10_v47 hq13_v47 hq14_v47 hq15_v47 hq17_v47 hq18_v47 hq24_v47 hq25_v47 hq35_v47 hq36_v47 hq38_v47 hq39_v47 ((gsY_X11_token_1_q6 hG49.symm hG52 c54 et55).symm.trans hT47) ⟨show (0 : Int) ≤ t55.toInt from om_309 zc54 zt55, show t55.toInt ≤ (1600 : Int) from om_310 b3_v47 b4_v47 pp50 g53_0 zt55⟩ (show (v47 3).toInt + t55.toInt ≤ (v47 4).toInt from om_311 pp50 g53_0 zt55) hM_v47 hA_f47 hs2_f47 hs3_f47 hs6_f47 (show (2147483647 - t55.toInt).toNat < n47 from om_33 hm47 zt55 rg57) _ _ _ hP hD hS (lv_sub hl [0, 1, 2] rfl)
                      · skip
                        have zc54 : ¬ (4 ≤ l2_47.toInt) := zMn tc_4 rfl c54
                        refine lv_aload_n hx hb dX11_token_160 rfl (lv_at hl 2 rfl) ?_
                        refine lv_bipush (v := 10) hx hb dX11_token_161 rfl ?_
                        refine lv_aload_n hx hb dX11_token_163 rfl (lv_at hl 2 rfl) ?_
                        refine va_get (D := (dC, dI)) (ci := 11) (v := .int (v47 7)) (C := RX11) (T := TX11) (N := 79) hx hb hts inB_11 hown hE.1 hP 0 rfl rfl 8 (Nat.le_of_ble_eq_true rfl) (hts _ k_1328) (fun _ h9 => h9) rfl dX11_token_164 ?_
                        refine lv_imul hx hb dX11_token_167 ?_
                        refine lv_topi (fun t58 et58 => ?_)
                        refine lv_aload_n hx hb dX11_token_168 rfl (lv_at hl 2 rfl) ?_
                        refine lv_iload_n hx hb dX11_token_169 rfl (lv_at hl 0 rfl) ?_
                        refine cbVi (n := 1) (rest := [.int t58, .ref y0]) hx hb hml hown hts hE hP hD hS hA (sY_X11_here_1 NF l dC dI cy y0 r l2_47 v47 f47 w47 g47 hIv47 hCf47 hRf47 ⟨show (0 : Int) ≤ l2_47.toInt from om_2 hr2_47, show l2_47.toInt ≤ (1600 : Int) from om_312 zc54⟩) k_1583 k_1585 k_43 k_114 k_1586 hd_yX11_here ⟨Nat.le_of_ble_eq_true rfl, Nat.le_of_ble_eq_true rfl⟩ 0 11 rfl rfl (rfl) hl.1 rfl (Nat.le_of_ble_eq_true rfl) dX11_token_170 (fun r59 u H locs hw hP hD hS => ?_)
                        obtain ⟨hG60, hw⟩ := hw
                        have pp61 := hw
                        have pp61 : r59.toInt < 0 ∨ (v47 3).toInt + l2_47.toInt < (v47 4).toInt := pp61
                        refine lv_iadd hx hb dX11_token_173 ?_
                        refine lv_topi (fun t62 et62 => ?_)
                        refine lv_bipush (v := 48) hx hb dX11_token_174 rfl ?_
                        refine lv_isub hx hb dX11_token_176 ?_
                        refine lv_topi (fun t63 et63 => ?_)
                        refine va_put (D := (dC, dI)) (ci := 11) (v := .int t63) (ty := tyX11 8) (C := RX11) (T := TX11) (N := 79) hx hb hts inB_11 tyX11 tyX11_ok nmX11 hown hE.1 hP hD hS 0 rfl rfl 8 (Nat.le_of_ble_eq_true rfl) (hts _ k_1328) (fun _ h9 => h9) rfl (tyX11_ok 8 (Nat.le_of_ble_eq_true rfl)) rfl rfl (Nat.le_of_ble_eq_true rfl) dX11_token_177 (fun H locs hP hD hS => ?_)
                        have hP : va_P (dC, dI) vwCl (YW cy y0 r (upd v47 7 t63) f47 w47 g47) H := hP
                        have hD : va_D A (YW cy y0 r (upd v47 7 t63) f47 w47 g47) := hD
                        obtain ⟨t64, et64⟩ : ∃ y : Int32, y = l2_47 + 1 := ⟨_, rfl⟩
                        have zt64 : t64.toInt = l2_47.toInt + 1 := (congrArg Int32.toInt et64).trans (add_i rfl tc_1 (om_4 hr2_47) (om_313 zc54))
                        refine lv_iinc (v := t64) (lv' := [(2, .int t64), (1, .int r13), (0, .ref y0)]) hx hb dX11_token_180 hl (k := 0) rfl et64.symm (Nat.le_of_ble_eq_true rfl) rfl (fun ls hl => ?_)
                        refine lv_goto (tgt := 144) hx hb dX11_token_183 rfl ?_
                        have rg66 := fb_rng t64
                        exact ih47 t64 (upd v47 7 t63) f47 w47 g47 ⟨(Yu_7 (x := t63) hIv47.1 (rlo _) (rhi _)), hIv47.2⟩ hCf47 hRf47 hq0_v47 hq1_v47 hq2_v47 hq3_v47 hq4_v47 hq5_v47 hq8_v47 hq9_v47 hq10_v47 hq13_v47 hq14_v47 hq15_v47 hq17_v47 hq18_v47 hq24_v47 hq25_v47 hq35_v47 hq36_v47 hq38_v47 hq39_v47 ((gsY_X11_token_1_q7 hG49.symm hG52 c54 et58 hG60.symm et62 et63 et64).symm.trans hT47) ⟨show (0 : Int) ≤ t64.toInt from om_8 hr2_47 zt64, show t64.toInt ≤ (1600 : Int) from om_314 zc54 zt64⟩ (show (v47 3).toInt + t64.toInt ≤ (v47 4).toInt from om_311 pp50 g53_0 zt64) (KV.up (j := 7) (x := t63) hM_v47 rfl) hA_f47 hs2_f47 hs3_f47 hs6_f47 (show (2147483647 - t64.toInt).toNat < n47 from om_33 hm47 zt64 rg66) _ _ _ hP hD hS (lv_sub hl [0, 1, 2] rfl)
                    · skip
                      subst g53
                      refine lv_if_eq (tgt := 186) hx hb dX11_token_152 rfl (fun _ => ?_) (fun c0 => absurd (by decide) c0)
                      refine lv_aload_n hx hb dX11_token_186 rfl (lv_at hl 2 rfl) ?_
                      refine lv_iload_n hx hb dX11_token_187 rfl (lv_at hl 0 rfl) ?_
                      refine lv_iconst (v := 4) hx hb dX11_token_188 rfl ?_
                      refine lv_icmp_gt (tgt := 203) hx hb dX11_token_189 rfl (fun c67 => ?_) (fun c67 => ?_)
                      · skip
                        refine lv_iconst (v := 3) hx hb dX11_token_203 rfl ?_
                        refine lv_goto (tgt := 208) hx hb dX11_token_204 rfl ?_
                        refine va_put (D := (dC, dI)) (ci := 11) (v := .int 3) (ty := tyX11 6) (C := RX11) (T := TX11) (N := 79) hx hb hts inB_11 tyX11 tyX11_ok nmX11 hown hE.1 hP hD hS 0 rfl rfl 6 (Nat.le_of_ble_eq_true rfl) (hts _ k_1326) (fun _ h9 => h9) rfl (tyX11_ok 6 (Nat.le_of_ble_eq_true rfl)) rfl rfl (Nat.le_of_ble_eq_true rfl) dX11_token_208 (fun H locs hP hD hS => ?_)
                        have hP : va_P (dC, dI) vwCl (YW cy y0 r (upd v47 5 3) f47 w47 g47) H := hP
                        have hD : va_D A (YW cy y0 r (upd v47 5 3) f47 w47 g47) := hD
                        refine lv_goto (tgt := 232) hx hb dX11_token_211 rfl ?_
                        refine lv_aload_n hx hb dX11_token_232 rfl (lv_at hl 2 rfl) ?_
                        refine va_get (D := (dC, dI)) (ci := 11) (v := .int 3) (C := RX11) (T := TX11) (N := 79) hx hb hts inB_11 hown hE.1 hP 0 rfl rfl 6 (Nat.le_of_ble_eq_true rfl) (hts _ k_1326) (fun _ h9 => h9) rfl dX11_token_233 ?_
                        refine lv_iconst (v := 3) hx hb dX11_token_236 rfl ?_
                        refine lv_icmp_eq (tgt := 250) hx hb dX11_token_237 rfl (fun _ => ?_) (fun c0 => absurd (by decide) c0)
                        exact ret ((upd v47 5 3), f47, w47, g47) _ _ _ _ _ _ ⟨(hT47.symm.trans (gsY_X11_token_1_q8 hG49.symm hG52 c67)), (KV.up (j := 5) (x := 3) hM_v47 rfl), hA_f47, ⟨(Yu_5 (x := 3) hIv47.1 (rlo _) (rhi _)), hIv47.2⟩, hCf47, hRf47, hq0_v47, hq1_v47, hq2_v47, hq4_v47, hq8_v47, hq9_v47, hq10_v47, hq13_v47, hq14_v47, hq15_v47, hq17_v47, hq18_v47, hq24_v47, hq25_v47, hq35_v47, hq36_v47, hq38_v47, hq39_v47, (show (v 3).toInt ≤ (v47 3).toInt from om_306 hx0_1 zq3_v47), (show (3 : Int32).toInt = (v 5).toInt ∨ (v 3).toInt < (v47 3).toInt ∨ ¬ (3 : Int32).toInt = 59 from om_307 tc_3), hs2_f47, hs3_f47, hs6_f47⟩ hP hD hS dX11_token_250 (Nat.le_refl _) (Nat.le_refl _)
                      · skip
                        have zc67 : ¬ (4 < l2_47.toInt) := zLn tc_4 rfl c67
                        refine lv_aload_n hx hb dX11_token_192 rfl (lv_at hl 2 rfl) ?_
                        refine lv_iload_n hx hb dX11_token_193 rfl (lv_at hl 0 rfl) ?_
                        refine cbVi (n := 1) (rest := [.ref y0]) hx hb hml hown hts hE hP hD hS hA (sY_X11_here_1 NF l dC dI cy y0 r l2_47 v47 f47 w47 g47 hIv47 hCf47 hRf47 ⟨show (0 : Int) ≤ l2_47.toInt from om_2 hr2_47, show l2_47.toInt ≤ (1600 : Int) from om_315 zc67⟩) k_1583 k_1585 k_43 k_114 k_1586 hd_yX11_here ⟨Nat.le_of_ble_eq_true rfl, Nat.le_of_ble_eq_true rfl⟩ 0 11 rfl rfl (rfl) hl.1 rfl (Nat.le_of_ble_eq_true rfl) dX11_token_194 (fun r68 u H locs hw hP hD hS => ?_)
                        obtain ⟨hG69, hw⟩ := hw
                        have pp70 := hw
                        have pp70 : r68.toInt < 0 ∨ (v47 3).toInt + l2_47.toInt < (v47 4).toInt := pp70
                        refine cbSi (n := 1) (rest := [.ref y0]) hx hb hml hown hts hE hP hD hS hA (sY_X11_isLetter_1 NF l dC dI cy y0 r r68 v47 f47 w47 g47 hIv47 hCf47 hRf47 ) k_1587 k_1588 k_114 k_1589 he_yX11_isLetter ⟨Nat.le_of_ble_eq_true rfl, Nat.le_of_ble_eq_true rfl⟩ (rfl) hl.1 rfl (Nat.le_of_ble_eq_true rfl) dX11_token_197 (fun r71 u H locs hw hP hD hS => ?_)
                        obtain ⟨hG72, hw⟩ := hw
                        rcases hw with ⟨g73, g73_0⟩ | ⟨g73⟩
                        · skip
                          subst g73
                          refine lv_if_eq (tgt := 207) hx hb dX11_token_200 rfl (fun c0 => absurd c0 (by decide)) (fun _ => ?_)
                          refine lv_iconst (v := 3) hx hb dX11_token_203 rfl ?_
                          refine lv_goto (tgt := 208) hx hb dX11_token_204 rfl ?_
                          refine va_put (D := (dC, dI)) (ci := 11) (v := .int 3) (ty := tyX11 6) (C := RX11) (T := TX11) (N := 79) hx hb hts inB_11 tyX11 tyX11_ok nmX11 hown hE.1 hP hD hS 0 rfl rfl 6 (Nat.le_of_ble_eq_true rfl) (hts _ k_1326) (fun _ h9 => h9) rfl (tyX11_ok 6 (Nat.le_of_ble_eq_true rfl)) rfl rfl (Nat.le_of_ble_eq_true rfl) dX11_token_208 (fun H locs hP hD hS => ?_)
                          have hP : va_P (dC, dI) vwCl (YW cy y0 r (upd v47 5 3) f47 w47 g47) H := hP
                          have hD : va_D A (YW cy y0 r (upd v47 5 3) f47 w47 g47) := hD
                          refine lv_goto (tgt := 232) hx hb dX11_token_211 rfl ?_
                          refine lv_aload_n hx hb dX11_token_232 rfl (lv_at hl 2 rfl) ?_
                          refine va_get (D := (dC, dI)) (ci := 11) (v := .int 3) (C := RX11) (T := TX11) (N := 79) hx hb hts inB_11 hown hE.1 hP 0 rfl rfl 6 (Nat.le_of_ble_eq_true rfl) (hts _ k_1326) (fun _ h9 => h9) rfl dX11_token_233 ?_
                          refine lv_iconst (v := 3) hx hb dX11_token_236 rfl ?_
                          refine lv_icmp_eq (tgt := 250) hx hb dX11_token_237 rfl (fun _ => ?_) (fun c0 => absurd (by decide) c0)
                          exact ret ((upd v47 5 3), f47, w47, g47) _ _ _ _ _ _ ⟨(hT47.symm.trans (gsY_X11_token_1_q9 hG49.symm hG52 c67 hG69.symm hG72)), (KV.up (j := 5) (x := 3) hM_v47 rfl), hA_f47, ⟨(Yu_5 (x := 3) hIv47.1 (rlo _) (rhi _)), hIv47.2⟩, hCf47, hRf47, hq0_v47, hq1_v47, hq2_v47, hq4_v47, hq8_v47, hq9_v47, hq10_v47, hq13_v47, hq14_v47, hq15_v47, hq17_v47, hq18_v47, hq24_v47, hq25_v47, hq35_v47, hq36_v47, hq38_v47, hq39_v47, (show (v 3).toInt ≤ (v47 3).toInt from om_306 hx0_1 zq3_v47), (show (3 : Int32).toInt = (v 5).toInt ∨ (v 3).toInt < (v47 3).toInt ∨ ¬ (3 : Int32).toInt = 59 from om_307 tc_3), hs2_f47, hs3_f47, hs6_f47⟩ hP hD hS dX11_token_250 (Nat.le_refl _) (Nat.le_refl _)
                        · skip
                          subst g73
                          refine lv_if_eq (tgt := 207) hx hb dX11_token_200 rfl (fun _ => ?_) (fun c0 => absurd (by decide) c0)
                          refine lv_iconst (v := 2) hx hb dX11_token_207 rfl ?_
                          refine va_put (D := (dC, dI)) (ci := 11) (v := .int 2) (ty := tyX11 6) (C := RX11) (T := TX11) (N := 79) hx hb hts inB_11 tyX11 tyX11_ok nmX11 hown hE.1 hP hD hS 0 rfl rfl 6 (Nat.le_of_ble_eq_true rfl) (hts _ k_1326) (fun _ h9 => h9) rfl (tyX11_ok 6 (Nat.le_of_ble_eq_true rfl)) rfl rfl (Nat.le_of_ble_eq_true rfl) dX11_token_208 (fun H locs hP hD hS => ?_)
                          have hP : va_P (dC, dI) vwCl (YW cy y0 r (upd v47 5 2) f47 w47 g47) H := hP
                          have hD : va_D A (YW cy y0 r (upd v47 5 2) f47 w47 g47) := hD
                          refine lv_goto (tgt := 232) hx hb dX11_token_211 rfl ?_
                          refine lv_aload_n hx hb dX11_token_232 rfl (lv_at hl 2 rfl) ?_
                          refine va_get (D := (dC, dI)) (ci := 11) (v := .int 2) (C := RX11) (T := TX11) (N := 79) hx hb hts inB_11 hown hE.1 hP 0 rfl rfl 6 (Nat.le_of_ble_eq_true rfl) (hts _ k_1326) (fun _ h9 => h9) rfl dX11_token_233 ?_
                          refine lv_iconst (v := 3) hx hb dX11_token_236 rfl ?_
                          refine lv_icmp_eq (tgt := 250) hx hb dX11_token_237 rfl (fun c0 => absurd c0 (by decide)) (fun _ => ?_)
                          refine lv_aload_n hx hb dX11_token_240 rfl (lv_at hl 2 rfl) ?_
                          refine lv_dup hx hb dX11_token_241 rfl ?_
                          refine va_get (D := (dC, dI)) (ci := 11) (v := .int (v47 3)) (C := RX11) (T := TX11) (N := 79) hx hb hts inB_11 hown hE.1 hP 0 rfl rfl 4 (Nat.le_of_ble_eq_true rfl) (hts _ k_1324) (fun _ h9 => h9) rfl dX11_token_242 ?_
                          refine tI (y := (v1 3)) hq3_v47 ?_
                          refine lv_iload_n hx hb dX11_token_245 rfl (lv_at hl 0 rfl) ?_
                          refine lv_iadd hx hb dX11_token_246 ?_
                          refine lv_topi (fun t74 et74 => ?_)
                          have zt74 : t74.toInt = (v1 3).toInt + l2_47.toInt := (congrArg Int32.toInt et74).trans (add_i rfl rfl (om_286 hr2_47 b3_v1) (om_316 b3_v1 zc67))
                          refine va_put (D := (dC, dI)) (ci := 11) (v := .int t74) (ty := tyX11 4) (C := RX11) (T := TX11) (N := 79) hx hb hts inB_11 tyX11 tyX11_ok nmX11 hown hE.1 hP hD hS 0 rfl rfl 4 (Nat.le_of_ble_eq_true rfl) (hts _ k_1324) (fun _ h9 => h9) rfl (tyX11_ok 4 (Nat.le_of_ble_eq_true rfl)) rfl rfl (Nat.le_of_ble_eq_true rfl) dX11_token_247 (fun H locs hP hD hS => ?_)
                          have hP : va_P (dC, dI) vwCl (YW cy y0 r (upd (upd v47 5 2) 3 t74) f47 w47 g47) H := hP
                          have hD : va_D A (YW cy y0 r (upd (upd v47 5 2) 3 t74) f47 w47 g47) := hD
                          exact ret ((upd (upd v47 5 2) 3 t74), f47, w47, g47) _ _ _ _ _ _ ⟨(hT47.symm.trans (gsY_X11_token_1_q10 hG49.symm hG52 c67 hG69.symm hG72 et74)), (KV.up (j := 3) (x := t74) (KV.up (j := 5) (x := 2) hM_v47 rfl) rfl), hA_f47, ⟨(Yu_3 (x := t74) (Yu_5 (x := 2) hIv47.1 (rlo _) (rhi _)) (show (0 : Int) ≤ t74.toInt from om_289 hr2_47 b3_v1 zt74) (show t74.toInt ≤ (1600 : Int) from om_303 hx0_47 zq3_v47 b4_v47 zt74)), hIv47.2⟩, hCf47, hRf47, hq0_v47, hq1_v47, hq2_v47, hq4_v47, hq8_v47, hq9_v47, hq10_v47, hq13_v47, hq14_v47, hq15_v47, hq17_v47, hq18_v47, hq24_v47, hq25_v47, hq35_v47, hq36_v47, hq38_v47, hq39_v47, (show (v 3).toInt ≤ t74.toInt from om_304 hx0_1 hr2_47 zt74), (show (2 : Int32).toInt = (v 5).toInt ∨ (v 3).toInt < t74.toInt ∨ ¬ (2 : Int32).toInt = 59 from om_317 tc_2), hs2_f47, hs3_f47, hs6_f47⟩ hP hD hS dX11_token_250 (Nat.le_refl _) (Nat.le_refl _)
                exact lp47 (4294967296 + NF) 0 (upd (upd v1 6 (v1 3)) 7 0) f1 0 g1 ⟨(Yu_7 (x := 0) (Yu_6 (x := (v1 3)) hIv1.1 (rlo _) (rhi _)) (rlo _) (rhi _)), hIv1.2⟩ hCf1 hRf1 hq0_v1 hq1_v1 hq2_v1 rfl hq4_v1 hq5_v1 hq8_v1 hq9_v1 hq10_v1 hq13_v1 hq14_v1 hq15_v1 hq17_v1 hq18_v1 hq24_v1 hq25_v1 hq35_v1 hq36_v1 hq38_v1 hq39_v1 ((gsY_X11_token_1_q11 hG4.symm c6 hG10.symm c12 hG14.symm c16 hG18 hG45).symm.trans hT1) ⟨by decide, by decide⟩ (by have qc0 : (0 : Int32).toInt = 0 := (by decide); have q2 : (0 : Int32).toInt = 0 := (by decide); show (v1 3).toInt + (0 : Int32).toInt ≤ (v1 4).toInt; omega) (KV.up (j := 7) (x := 0) (KV.up (j := 6) (x := (v1 3)) hM_v1 rfl) rfl) hA_f1 hs2_f1 hs3_f1 hs6_f1 (by have q2 : (0 : Int32).toInt = 0 := (by decide); have qc0 : (0 : Int32).toInt = 0 := (by decide); show (2147483647 - (0 : Int32).toInt).toNat < 4294967296 + NF; omega) _ _ _ hP hD hS (lv_sub hl [0, 1, 2] rfl)
              · skip
                subst g46
                refine lv_if_eq (tgt := 214) hx hb dX11_token_141 rfl (fun _ => ?_) (fun c0 => absurd (by decide) c0)
                refine lv_iconst (v := 1) hx hb dX11_token_214 rfl ?_
                refine lv_istore_n (lv' := [(2, .int 1), (1, .int r13), (0, .ref y0)]) hx hb dX11_token_215 rfl hl (Nat.le_of_ble_eq_true rfl) rfl (fun ls hl => ?_)
                refine lv_aload_n hx hb dX11_token_216 rfl (lv_at hl 2 rfl) ?_
                refine lv_iload_n hx hb dX11_token_217 rfl (lv_at hl 1 rfl) ?_
                refine cbSi (n := 1) (rest := [.ref y0]) hx hb hml hown hts hE hP hD hS hA (sY_X11_isSign_1 NF l dC dI cy y0 r r13 (upd (upd v1 6 (v1 3)) 7 0) f1 0 g1 ⟨(Yu_7 (x := 0) (Yu_6 (x := (v1 3)) hIv1.1 (rlo _) (rhi _)) (rlo _) (rhi _)), hIv1.2⟩ hCf1 hRf1 ) k_1593 k_1594 k_114 k_1595 he_yX11_isSign ⟨Nat.le_of_ble_eq_true rfl, Nat.le_of_ble_eq_true rfl⟩ (rfl) hl.1 rfl (Nat.le_of_ble_eq_true rfl) dX11_token_218 (fun r77 u H locs hw hP hD hS => ?_)
                obtain ⟨hG78, hw⟩ := hw
                rcases hw with ⟨g79⟩ | ⟨g79⟩
                · skip
                  subst g79
                  refine lv_if_eq (tgt := 228) hx hb dX11_token_221 rfl (fun c0 => absurd c0 (by decide)) (fun _ => ?_)
                  refine lv_iload_n hx hb dX11_token_224 rfl (lv_at hl 1 rfl) ?_
                  refine lv_goto (tgt := 229) hx hb dX11_token_225 rfl ?_
                  refine va_put (D := (dC, dI)) (ci := 11) (v := .int r13) (ty := tyX11 6) (C := RX11) (T := TX11) (N := 79) hx hb hts inB_11 tyX11 tyX11_ok nmX11 hown hE.1 hP hD hS 0 rfl rfl 6 (Nat.le_of_ble_eq_true rfl) (hts _ k_1326) (fun _ h9 => h9) rfl (tyX11_ok 6 (Nat.le_of_ble_eq_true rfl)) rfl rfl (Nat.le_of_ble_eq_true rfl) dX11_token_229 (fun H locs hP hD hS => ?_)
                  have hP : va_P (dC, dI) vwCl (YW cy y0 r (upd (upd (upd v1 6 (v1 3)) 7 0) 5 r13) f1 0 g1) H := hP
                  have hD : va_D A (YW cy y0 r (upd (upd (upd v1 6 (v1 3)) 7 0) 5 r13) f1 0 g1) := hD
                  refine lv_aload_n hx hb dX11_token_232 rfl (lv_at hl 2 rfl) ?_
                  refine va_get (D := (dC, dI)) (ci := 11) (v := .int r13) (C := RX11) (T := TX11) (N := 79) hx hb hts inB_11 hown hE.1 hP 0 rfl rfl 6 (Nat.le_of_ble_eq_true rfl) (hts _ k_1326) (fun _ h9 => h9) rfl dX11_token_233 ?_
                  refine lv_iconst (v := 3) hx hb dX11_token_236 rfl ?_
                  refine lv_icmp_eq (tgt := 250) hx hb dX11_token_237 rfl (fun c80 => ?_) (fun c80 => ?_)
                  · skip
                    have zc80 : r13.toInt = 3 := zEp rfl tc_3 c80
                    exact ret ((upd (upd (upd v1 6 (v1 3)) 7 0) 5 r13), f1, 0, g1) _ _ _ _ _ _ ⟨(hT1.symm.trans (gsY_X11_token_1_q12 hG4.symm c6 hG10.symm c12 hG14.symm c16 hG18 hG45 hG78 c80)), (KV.up (j := 5) (x := r13) (KV.up (j := 7) (x := 0) (KV.up (j := 6) (x := (v1 3)) hM_v1 rfl) rfl) rfl), hA_f1, ⟨(Yu_5 (x := r13) (Yu_7 (x := 0) (Yu_6 (x := (v1 3)) hIv1.1 (rlo _) (rhi _)) (rlo _) (rhi _)) (rlo _) (rhi _)), hIv1.2⟩, hCf1, hRf1, (show v1 0 = v 0 from hq0_v1), (show v1 1 = v 1 from hq1_v1), (show v1 2 = v 2 from hq2_v1), (show v1 4 = v 4 from hq4_v1), (show v1 8 = v 8 from hq8_v1), (show v1 9 = v 9 from hq9_v1), (show v1 10 = v 10 from hq10_v1), (show v1 13 = v 13 from hq13_v1), (show v1 14 = v 14 from hq14_v1), (show v1 15 = v 15 from hq15_v1), (show v1 17 = v 17 from hq17_v1), (show v1 18 = v 18 from hq18_v1), (show v1 24 = v 24 from hq24_v1), (show v1 25 = v 25 from hq25_v1), (show v1 35 = v 35 from hq35_v1), (show v1 36 = v 36 from hq36_v1), (show v1 38 = v 38 from hq38_v1), (show v1 39 = v 39 from hq39_v1), (show (v 3).toInt ≤ (v1 3).toInt from om_318 hx0_1), (show r13.toInt = (v 5).toInt ∨ (v 3).toInt < (v1 3).toInt ∨ ¬ r13.toInt = 59 from om_307 zc80), hs2_f1, hs3_f1, hs6_f1⟩ hP hD hS dX11_token_250 (Nat.le_refl _) (Nat.le_refl _)
                  · skip
                    refine lv_aload_n hx hb dX11_token_240 rfl (lv_at hl 2 rfl) ?_
                    refine lv_dup hx hb dX11_token_241 rfl ?_
                    refine va_get (D := (dC, dI)) (ci := 11) (v := .int (v1 3)) (C := RX11) (T := TX11) (N := 79) hx hb hts inB_11 hown hE.1 hP 0 rfl rfl 4 (Nat.le_of_ble_eq_true rfl) (hts _ k_1324) (fun _ h9 => h9) rfl dX11_token_242 ?_
                    refine lv_iload_n hx hb dX11_token_245 rfl (lv_at hl 0 rfl) ?_
                    refine lv_iadd hx hb dX11_token_246 ?_
                    refine lv_topi (fun t81 et81 => ?_)
                    have zt81 : t81.toInt = (v1 3).toInt + 1 := (congrArg Int32.toInt et81).trans (add_i rfl tc_1 (om_4 b3_v1) (om_57 b3_v1))
                    refine va_put (D := (dC, dI)) (ci := 11) (v := .int t81) (ty := tyX11 4) (C := RX11) (T := TX11) (N := 79) hx hb hts inB_11 tyX11 tyX11_ok nmX11 hown hE.1 hP hD hS 0 rfl rfl 4 (Nat.le_of_ble_eq_true rfl) (hts _ k_1324) (fun _ h9 => h9) rfl (tyX11_ok 4 (Nat.le_of_ble_eq_true rfl)) rfl rfl (Nat.le_of_ble_eq_true rfl) dX11_token_247 (fun H locs hP hD hS => ?_)
                    have hP : va_P (dC, dI) vwCl (YW cy y0 r (upd (upd (upd (upd v1 6 (v1 3)) 7 0) 5 r13) 3 t81) f1 0 g1) H := hP
                    have hD : va_D A (YW cy y0 r (upd (upd (upd (upd v1 6 (v1 3)) 7 0) 5 r13) 3 t81) f1 0 g1) := hD
                    exact ret ((upd (upd (upd (upd v1 6 (v1 3)) 7 0) 5 r13) 3 t81), f1, 0, g1) _ _ _ _ _ _ ⟨(hT1.symm.trans (gsY_X11_token_1_q13 hG4.symm c6 hG10.symm c12 hG14.symm c16 hG18 hG45 hG78 c80 et81)), (KV.up (j := 3) (x := t81) (KV.up (j := 5) (x := r13) (KV.up (j := 7) (x := 0) (KV.up (j := 6) (x := (v1 3)) hM_v1 rfl) rfl) rfl) rfl), hA_f1, ⟨(Yu_3 (x := t81) (Yu_5 (x := r13) (Yu_7 (x := 0) (Yu_6 (x := (v1 3)) hIv1.1 (rlo _) (rhi _)) (rlo _) (rhi _)) (rlo _) (rhi _)) (show (0 : Int) ≤ t81.toInt from om_8 b3_v1 zt81) (show t81.toInt ≤ (1600 : Int) from om_319 b4_v1 pp15 zc16 zt81 tc_0)), hIv1.2⟩, hCf1, hRf1, (show v1 0 = v 0 from hq0_v1), (show v1 1 = v 1 from hq1_v1), (show v1 2 = v 2 from hq2_v1), (show v1 4 = v 4 from hq4_v1), (show v1 8 = v 8 from hq8_v1), (show v1 9 = v 9 from hq9_v1), (show v1 10 = v 10 from hq10_v1), (show v1 13 = v 13 from hq13_v1), (show v1 14 = v 14 from hq14_v1), (show v1 15 = v 15 from hq15_v1), (show v1 17 = v 17 from hq17_v1), (show v1 18 = v 18 from hq18_v1), (show v1 24 = v 24 from hq24_v1), (show v1 25 = v 25 from hq25_v1), (show v1 35 = v 35 from hq35_v1), (show v1 36 = v 36 from hq36_v1), (show v1 38 = v 38 from hq38_v1), (show v1 39 = v 39 from hq39_v1), (show (v 3).toInt ≤ t81.toInt from om_35 hx0_1 zt81), (show r13.toInt = (v 5).toInt ∨ (v 3).toInt < t81.toInt ∨ ¬ r13.toInt = 59 from om_320 hx0_1 zt81), hs2_f1, hs3_f1, hs6_f1⟩ hP hD hS dX11_token_250 (Nat.le_refl _) (Nat.le_refl _)
                · skip
                  subst g79
                  refine lv_if_eq (tgt := 228) hx hb dX11_token_221 rfl (fun _ => ?_) (fun c0 => absurd (by decide) c0)
                  refine lv_iconst (v := 3) hx hb dX11_token_228 rfl ?_
                  refine va_put (D := (dC, dI)) (ci := 11) (v := .int 3) (ty := tyX11 6) (C := RX11) (T := TX11) (N := 79) hx hb hts inB_11 tyX11 tyX11_ok nmX11 hown hE.1 hP hD hS 0 rfl rfl 6 (Nat.le_of_ble_eq_true rfl) (hts _ k_1326) (fun _ h9 => h9) rfl (tyX11_ok 6 (Nat.le_of_ble_eq_true rfl)) rfl rfl (Nat.le_of_ble_eq_true rfl) dX11_token_229 (fun H locs hP hD hS => ?_)
                  have hP : va_P (dC, dI) vwCl (YW cy y0 r (upd (upd (upd v1 6 (v1 3)) 7 0) 5 3) f1 0 g1) H := hP
                  have hD : va_D A (YW cy y0 r (upd (upd (upd v1 6 (v1 3)) 7 0) 5 3) f1 0 g1) := hD
                  refine lv_aload_n hx hb dX11_token_232 rfl (lv_at hl 2 rfl) ?_
                  refine va_get (D := (dC, dI)) (ci := 11) (v := .int 3) (C := RX11) (T := TX11) (N := 79) hx hb hts inB_11 hown hE.1 hP 0 rfl rfl 6 (Nat.le_of_ble_eq_true rfl) (hts _ k_1326) (fun _ h9 => h9) rfl dX11_token_233 ?_
                  refine lv_iconst (v := 3) hx hb dX11_token_236 rfl ?_
                  refine lv_icmp_eq (tgt := 250) hx hb dX11_token_237 rfl (fun _ => ?_) (fun c0 => absurd (by decide) c0)
                  exact ret ((upd (upd (upd v1 6 (v1 3)) 7 0) 5 3), f1, 0, g1) _ _ _ _ _ _ ⟨(hT1.symm.trans (gsY_X11_token_1_q14 hG4.symm c6 hG10.symm c12 hG14.symm c16 hG18 hG45 hG78)), (KV.up (j := 5) (x := 3) (KV.up (j := 7) (x := 0) (KV.up (j := 6) (x := (v1 3)) hM_v1 rfl) rfl) rfl), hA_f1, ⟨(Yu_5 (x := 3) (Yu_7 (x := 0) (Yu_6 (x := (v1 3)) hIv1.1 (rlo _) (rhi _)) (rlo _) (rhi _)) (rlo _) (rhi _)), hIv1.2⟩, hCf1, hRf1, (show v1 0 = v 0 from hq0_v1), (show v1 1 = v 1 from hq1_v1), (show v1 2 = v 2 from hq2_v1), (show v1 4 = v 4 from hq4_v1), (show v1 8 = v 8 from hq8_v1), (show v1 9 = v 9 from hq9_v1), (show v1 10 = v 10 from hq10_v1), (show v1 13 = v 13 from hq13_v1), (show v1 14 = v 14 from hq14_v1), (show v1 15 = v 15 from hq15_v1), (show v1 17 = v 17 from hq17_v1), (show v1 18 = v 18 from hq18_v1), (show v1 24 = v 24 from hq24_v1), (show v1 25 = v 25 from hq25_v1), (show v1 35 = v 35 from hq35_v1), (show v1 36 = v 36 from hq36_v1), (show v1 38 = v 38 from hq38_v1), (show v1 39 = v 39 from hq39_v1), (show (v 3).toInt ≤ (v1 3).toInt from om_318 hx0_1), (show (3 : Int32).toInt = (v 5).toInt ∨ (v 3).toInt < (v1 3).toInt ∨ ¬ (3 : Int32).toInt = 59 from om_307 tc_3), hs2_f1, hs3_f1, hs6_f1⟩ hP hD hS dX11_token_250 (Nat.le_refl _) (Nat.le_refl _)
          · skip
            refine lv_aload_n hx hb dX11_token_63 rfl (lv_at hl 2 rfl) ?_
            refine lv_iconst (v := 0) hx hb dX11_token_64 rfl ?_
            refine va_put (D := (dC, dI)) (ci := 11) (v := .int 0) (ty := tyX11 6) (C := RX11) (T := TX11) (N := 79) hx hb hts inB_11 tyX11 tyX11_ok nmX11 hown hE.1 hP hD hS 0 rfl rfl 6 (Nat.le_of_ble_eq_true rfl) (hts _ k_1326) (fun _ h9 => h9) rfl (tyX11_ok 6 (Nat.le_of_ble_eq_true rfl)) rfl rfl (Nat.le_of_ble_eq_true rfl) dX11_token_65 (fun H locs hP hD hS => ?_)
            have hP : va_P (dC, dI) vwCl (YW cy y0 r (upd (upd (upd v1 6 (v1 3)) 7 0) 5 0) f1 0 g1) H := hP
            have hD : va_D A (YW cy y0 r (upd (upd (upd v1 6 (v1 3)) 7 0) 5 0) f1 0 g1) := hD
            refine lv_goto (tgt := 232) hx hb dX11_token_68 rfl ?_
            refine lv_aload_n hx hb dX11_token_232 rfl (lv_at hl 2 rfl) ?_
            refine va_get (D := (dC, dI)) (ci := 11) (v := .int 0) (C := RX11) (T := TX11) (N := 79) hx hb hts inB_11 hown hE.1 hP 0 rfl rfl 6 (Nat.le_of_ble_eq_true rfl) (hts _ k_1326) (fun _ h9 => h9) rfl dX11_token_233 ?_
            refine lv_iconst (v := 3) hx hb dX11_token_236 rfl ?_
            refine lv_icmp_eq (tgt := 250) hx hb dX11_token_237 rfl (fun c0 => absurd c0 (by decide)) (fun _ => ?_)
            refine lv_aload_n hx hb dX11_token_240 rfl (lv_at hl 2 rfl) ?_
            refine lv_dup hx hb dX11_token_241 rfl ?_
            refine va_get (D := (dC, dI)) (ci := 11) (v := .int (v1 3)) (C := RX11) (T := TX11) (N := 79) hx hb hts inB_11 hown hE.1 hP 0 rfl rfl 4 (Nat.le_of_ble_eq_true rfl) (hts _ k_1324) (fun _ h9 => h9) rfl dX11_token_242 ?_
            refine lv_iload_n hx hb dX11_token_245 rfl (lv_at hl 0 rfl) ?_
            refine lv_iadd hx hb dX11_token_246 ?_
            refine lv_topi (fun t83 et83 => ?_)
            have zt83 : t83.toInt = (v1 3).toInt + 0 := (congrArg Int32.toInt et83).trans (add_i rfl tc_0 (om_321 b3_v1) (om_322 b3_v1))
            refine va_put (D := (dC, dI)) (ci := 11) (v := .int t83) (ty := tyX11 4) (C := RX11) (T := TX11) (N := 79) hx hb hts inB_11 tyX11 tyX11_ok nmX11 hown hE.1 hP hD hS 0 rfl rfl 4 (Nat.le_of_ble_eq_true rfl) (hts _ k_1324) (fun _ h9 => h9) rfl (tyX11_ok 4 (Nat.le_of_ble_eq_true rfl)) rfl rfl (Nat.le_of_ble_eq_true rfl) dX11_token_247 (fun H locs hP hD hS => ?_)
            have hP : va_P (dC, dI) vwCl (YW cy y0 r (upd (upd (upd (upd v1 6 (v1 3)) 7 0) 5 0) 3 t83) f1 0 g1) H := hP
            have hD : va_D A (YW cy y0 r (upd (upd (upd (upd v1 6 (v1 3)) 7 0) 5 0) 3 t83) f1 0 g1) := hD
            exact ret ((upd (upd (upd (upd v1 6 (v1 3)) 7 0) 5 0) 3 t83), f1, 0, g1) _ _ _ _ _ _ ⟨(hT1.symm.trans (gsY_X11_token_1_q15 hG4.symm c6 hG10.symm c12 hG14.symm c16 et83)), (KV.up (j := 3) (x := t83) (KV.up (j := 5) (x := 0) (KV.up (j := 7) (x := 0) (KV.up (j := 6) (x := (v1 3)) hM_v1 rfl) rfl) rfl) rfl), hA_f1, ⟨(Yu_3 (x := t83) (Yu_5 (x := 0) (Yu_7 (x := 0) (Yu_6 (x := (v1 3)) hIv1.1 (rlo _) (rhi _)) (rlo _) (rhi _)) (rlo _) (rhi _)) (show (0 : Int) ≤ t83.toInt from om_323 b3_v1 zt83) (show t83.toInt ≤ (1600 : Int) from om_324 b3_v1 zt83)), hIv1.2⟩, hCf1, hRf1, (show v1 0 = v 0 from hq0_v1), (show v1 1 = v 1 from hq1_v1), (show v1 2 = v 2 from hq2_v1), (show v1 4 = v 4 from hq4_v1), (show v1 8 = v 8 from hq8_v1), (show v1 9 = v 9 from hq9_v1), (show v1 10 = v 10 from hq10_v1), (show v1 13 = v 13 from hq13_v1), (show v1 14 = v 14 from hq14_v1), (show v1 15 = v 15 from hq15_v1), (show v1 17 = v 17 from hq17_v1), (show v1 18 = v 18 from hq18_v1), (show v1 24 = v 24 from hq24_v1), (show v1 25 = v 25 from hq25_v1), (show v1 35 = v 35 from hq35_v1), (show v1 36 = v 36 from hq36_v1), (show v1 38 = v 38 from hq38_v1), (show v1 39 = v 39 from hq39_v1), (show (v 3).toInt ≤ t83.toInt from om_325 hx0_1 zt83), (show (0 : Int32).toInt = (v 5).toInt ∨ (v 3).toInt < t83.toInt ∨ ¬ (0 : Int32).toInt = 59 from om_326 tc_0), hs2_f1, hs3_f1, hs6_f1⟩ hP hD hS dX11_token_250 (Nat.le_refl _) (Nat.le_refl _)
        · skip
          have zc12 : r9.toInt = 10 := zEp rfl tc_10 c12
          refine lv_aload_n hx hb dX11_token_20 rfl (lv_at hl 0 rfl) ?_
          refine lv_dup hx hb dX11_token_21 rfl ?_
          refine va_get (D := (dC, dI)) (ci := 11) (v := .int (v1 3)) (C := RX11) (T := TX11) (N := 79) hx hb hts inB_11 hown hE.1 hP 0 rfl rfl 4 (Nat.le_of_ble_eq_true rfl) (hts _ k_1324) (fun _ h9 => h9) rfl dX11_token_22 ?_
          refine lv_iconst (v := 1) hx hb dX11_token_25 rfl ?_
          refine lv_iadd hx hb dX11_token_26 ?_
          refine lv_topi (fun t85 et85 => ?_)
          have zt85 : t85.toInt = (v1 3).toInt + 1 := (congrArg Int32.toInt et85).trans (add_i rfl tc_1 (om_4 b3_v1) (om_57 b3_v1))
          refine va_put (D := (dC, dI)) (ci := 11) (v := .int t85) (ty := tyX11 4) (C := RX11) (T := TX11) (N := 79) hx hb hts inB_11 tyX11 tyX11_ok nmX11 hown hE.1 hP hD hS 0 rfl rfl 4 (Nat.le_of_ble_eq_true rfl) (hts _ k_1324) (fun _ h9 => h9) rfl (tyX11_ok 4 (Nat.le_of_ble_eq_true rfl)) rfl rfl (Nat.le_of_ble_eq_true rfl) dX11_token_27 (fun H locs hP hD hS => ?_)
          have hP : va_P (dC, dI) vwCl (YW cy y0 r (upd v1 3 t85) f1 w1 g1) H := hP
          have hD : va_D A (YW cy y0 r (upd v1 3 t85) f1 w1 g1) := hD
          refine lv_goto (tgt := 0) hx hb dX11_token_30 rfl ?_
          exact ih1  (upd v1 3 t85) f1 w1 g1 ⟨(Yu_3 (x := t85) hIv1.1 (show (0 : Int) ≤ t85.toInt from om_8 b3_v1 zt85) (show t85.toInt ≤ (1600 : Int) from om_327 b4_v1 pp11 zc12 zt85 tc_0)), hIv1.2⟩ hCf1 hRf1 hq0_v1 hq1_v1 hq2_v1 hq4_v1 hq5_v1 hq8_v1 hq9_v1 hq10_v1 hq13_v1 hq14_v1 hq15_v1 hq17_v1 hq18_v1 hq24_v1 hq25_v1 hq35_v1 hq36_v1 hq38_v1 hq39_v1 ((gsY_X11_token_1_q16 hG4.symm c6 hG10.symm c12 et85).symm.trans hT1) (show (v 3).toInt ≤ t85.toInt from om_35 hx0_1 zt85) (KV.up (j := 3) (x := t85) hM_v1 rfl) hA_f1 hs2_f1 hs3_f1 hs6_f1 (show (1600 - t85.toInt).toNat < n1 from om_328 hm1 b4_v1 pp11 zc12 zt85 tc_0) _ _ _ hP hD hS (lv_sub hl [0] rfl)
  exact lp1 (4294967296 + NF)  v f w g hIv hCf hRf rfl rfl rfl rfl rfl rfl rfl rfl rfl rfl rfl rfl rfl rfl rfl rfl rfl rfl rfl gsY_X11_token_1_q17.symm (show (v 3).toInt ≤ (v 3).toInt from om_329) hM_v hA_f rfl rfl rfl (show (1600 - (v 3).toInt).toNat < 4294967296 + NF from om_330 (fb_rng (v 3))) _ _ _ hP hD hS (lv_sub hl [0] rfl)
set_option maxHeartbeats 4000000 in
set_option maxRecDepth 100000 in
theorem sY_X11_wrong_1 (NF : Nat) (l : Launch) (dC : Nat → ClassId) (dI : Nat → Nat → Nat) (cy : Nat → ClassId) (y0 : Nat) (r : Nat → Nat) (p1 : Int32) (v : Nat → Int32) (f : Nat → Nat → Int32) (w : Int64) (g : Nat → Int64) (hIv : YI v) (hCf : YC f) (hRf : progOK (f 4) (f 5) (v 9).toInt.toNat) (hp1 : (1 : Int) ≤ p1.toInt ∧ p1.toInt ≤ 4) : ctV l (dC, dI) cy yX11_wrong cX11_wrong 2 1 60 0 0 ((Nat → Int32) × (Nat → Nat → Int32) × (Int64) × (Nat → Int64)) [.ref y0, .int p1] (YW cy y0 r v f w g) (fun u => gsY_X11_wrong_1 NF p1 v f w g = u ∧ KV [1, 2] u.1 v ∧ KF [] u.2.1 f ∧ YI u.1 ∧ YC u.2.1 ∧ progOK (u.2.1 4) (u.2.1 5) (u.1 9).toInt.toNat ∧ u.1 0 = v 0 ∧ u.1 3 = v 3 ∧ u.1 4 = v 4 ∧ u.1 5 = v 5 ∧ u.1 8 = v 8 ∧ u.1 9 = v 9 ∧ u.1 10 = v 10 ∧ u.1 13 = v 13 ∧ u.1 14 = v 14 ∧ u.1 15 = v 15 ∧ u.1 17 = v 17 ∧ u.1 18 = v 18 ∧ u.1 24 = v 24 ∧ u.1 25 = v 25 ∧ u.1 35 = v 35 ∧ u.1 36 = v 36 ∧ u.1 38 = v 38 ∧ u.1 39 = v 39 ∧ ((v 3).toInt ≤ (u.1 3).toInt) ∧ ((u.1 5).toInt = (v 5).toInt ∨ (v 3).toInt < (u.1 3).toInt ∨ ¬ (u.1 5).toInt = 59) ∧ (0 < (u.1 1).toInt) ∧ u.2.1 2 = f 2 ∧ u.2.1 3 = f 3 ∧ u.2.1 6 = f 6) (fun u => YW cy y0 r u.1 u.2.1 u.2.2.1 u.2.2.2) := by
  refine ctV_of (by decide) (Nat.le_of_ble_eq_true rfl) (fun p e s m below meth c A ls Q hx hb hml hts hown hnm hE hP hD hA hl ret => ?_)
  have hM_v : KV [1, 2] v v := fun _ _ => rfl
  have hA_f : KF [] f f := fun _ _ => rfl
  have hown : s.vm.findClass RX11 = some m.cls := hown
  have hS : va_S A s.heap s.heap [] := va_S.rf
  have hl : lv_has ls 2 [(0, .ref y0), (1, .int p1)] := hl
  refine lv_aload_n hx hb dX11_wrong_0 rfl (lv_at hl 0 rfl) ?_
  refine va_get (D := (dC, dI)) (ci := 11) (v := .int (v 1)) (C := RX11) (T := TX11) (N := 79) hx hb hts inB_11 hown hE.1 hP 0 rfl rfl 2 (Nat.le_of_ble_eq_true rfl) (hts _ k_1322) (fun _ h9 => h9) rfl dX11_wrong_1 ?_
  refine lv_if_le (tgt := 8) hx hb dX11_wrong_4 rfl (fun c1 => ?_) (fun c1 => ?_)
  · skip
    refine lv_aload_n hx hb dX11_wrong_8 rfl (lv_at hl 0 rfl) ?_
    refine lv_aload_n hx hb dX11_wrong_9 rfl (lv_at hl 0 rfl) ?_
    refine va_get (D := (dC, dI)) (ci := 11) (v := .int (v 5)) (C := RX11) (T := TX11) (N := 79) hx hb hts inB_11 hown hE.1 hP 0 rfl rfl 6 (Nat.le_of_ble_eq_true rfl) (hts _ k_1326) (fun _ h9 => h9) rfl dX11_wrong_10 ?_
    refine lv_iconst (v := 3) hx hb dX11_wrong_13 rfl ?_
    refine lv_icmp_ne (tgt := 21) hx hb dX11_wrong_14 rfl (fun c2 => ?_) (fun c2 => ?_)
    · skip
      refine lv_iload_n hx hb dX11_wrong_21 rfl (lv_at hl 1 rfl) ?_
      refine va_put (D := (dC, dI)) (ci := 11) (v := .int p1) (ty := tyX11 2) (C := RX11) (T := TX11) (N := 79) hx hb hts inB_11 tyX11 tyX11_ok nmX11 hown hE.1 hP hD hS 0 rfl rfl 2 (Nat.le_of_ble_eq_true rfl) (hts _ k_1322) (fun _ h9 => h9) rfl (tyX11_ok 2 (Nat.le_of_ble_eq_true rfl)) rfl rfl (Nat.le_of_ble_eq_true rfl) dX11_wrong_22 (fun H locs hP hD hS => ?_)
      have hP : va_P (dC, dI) vwCl (YW cy y0 r (upd v 1 p1) f w g) H := hP
      have hD : va_D A (YW cy y0 r (upd v 1 p1) f w g) := hD
      refine lv_aload_n hx hb dX11_wrong_25 rfl (lv_at hl 0 rfl) ?_
      refine lv_aload_n hx hb dX11_wrong_26 rfl (lv_at hl 0 rfl) ?_
      refine va_get (D := (dC, dI)) (ci := 11) (v := .int (v 6)) (C := RX11) (T := TX11) (N := 79) hx hb hts inB_11 hown hE.1 hP 0 rfl rfl 7 (Nat.le_of_ble_eq_true rfl) (hts _ k_1327) (fun _ h9 => h9) rfl dX11_wrong_27 ?_
      refine va_put (D := (dC, dI)) (ci := 11) (v := .int (v 6)) (ty := tyX11 3) (C := RX11) (T := TX11) (N := 79) hx hb hts inB_11 tyX11 tyX11_ok nmX11 hown hE.1 hP hD hS 0 rfl rfl 3 (Nat.le_of_ble_eq_true rfl) (hts _ k_1323) (fun _ h9 => h9) rfl (tyX11_ok 3 (Nat.le_of_ble_eq_true rfl)) rfl rfl (Nat.le_of_ble_eq_true rfl) dX11_wrong_30 (fun H locs hP hD hS => ?_)
      have hP : va_P (dC, dI) vwCl (YW cy y0 r (upd (upd v 1 p1) 2 (v 6)) f w g) H := hP
      have hD : va_D A (YW cy y0 r (upd (upd v 1 p1) 2 (v 6)) f w g) := hD
      exact ret ((upd (upd v 1 p1) 2 (v 6)), f, w, g) _ _ _ _ _ _ ⟨(gsY_X11_wrong_1_q0 c1 c2), (KV.up (j := 2) (x := (v 6)) (KV.up (j := 1) (x := p1) hM_v rfl) rfl), hA_f, ⟨(Yu_2 (x := (v 6)) (Yu_1 (x := p1) hIv.1 (show (0 : Int) ≤ p1.toInt from om_331 hp1) (show p1.toInt ≤ (4 : Int) from om_332 hp1)) (rlo _) (rhi _)), hIv.2⟩, hCf, hRf, rfl, rfl, rfl, rfl, rfl, rfl, rfl, rfl, rfl, rfl, rfl, rfl, rfl, rfl, rfl, rfl, rfl, rfl, (show (v 3).toInt ≤ (v 3).toInt from om_329), (show (v 5).toInt = (v 5).toInt ∨ (v 3).toInt < (v 3).toInt ∨ ¬ (v 5).toInt = 59 from om_333), (show 0 < p1.toInt from om_334 hp1), rfl, rfl, rfl⟩ hP hD hS dX11_wrong_33 (Nat.le_refl _) (Nat.le_refl _)
    · skip
      refine lv_iconst (v := 1) hx hb dX11_wrong_17 rfl ?_
      refine lv_goto (tgt := 22) hx hb dX11_wrong_18 rfl ?_
      refine va_put (D := (dC, dI)) (ci := 11) (v := .int 1) (ty := tyX11 2) (C := RX11) (T := TX11) (N := 79) hx hb hts inB_11 tyX11 tyX11_ok nmX11 hown hE.1 hP hD hS 0 rfl rfl 2 (Nat.le_of_ble_eq_true rfl) (hts _ k_1322) (fun _ h9 => h9) rfl (tyX11_ok 2 (Nat.le_of_ble_eq_true rfl)) rfl rfl (Nat.le_of_ble_eq_true rfl) dX11_wrong_22 (fun H locs hP hD hS => ?_)
      have hP : va_P (dC, dI) vwCl (YW cy y0 r (upd v 1 1) f w g) H := hP
      have hD : va_D A (YW cy y0 r (upd v 1 1) f w g) := hD
      refine lv_aload_n hx hb dX11_wrong_25 rfl (lv_at hl 0 rfl) ?_
      refine lv_aload_n hx hb dX11_wrong_26 rfl (lv_at hl 0 rfl) ?_
      refine va_get (D := (dC, dI)) (ci := 11) (v := .int (v 6)) (C := RX11) (T := TX11) (N := 79) hx hb hts inB_11 hown hE.1 hP 0 rfl rfl 7 (Nat.le_of_ble_eq_true rfl) (hts _ k_1327) (fun _ h9 => h9) rfl dX11_wrong_27 ?_
      refine va_put (D := (dC, dI)) (ci := 11) (v := .int (v 6)) (ty := tyX11 3) (C := RX11) (T := TX11) (N := 79) hx hb hts inB_11 tyX11 tyX11_ok nmX11 hown hE.1 hP hD hS 0 rfl rfl 3 (Nat.le_of_ble_eq_true rfl) (hts _ k_1323) (fun _ h9 => h9) rfl (tyX11_ok 3 (Nat.le_of_ble_eq_true rfl)) rfl rfl (Nat.le_of_ble_eq_true rfl) dX11_wrong_30 (fun H locs hP hD hS => ?_)
      have hP : va_P (dC, dI) vwCl (YW cy y0 r (upd (upd v 1 1) 2 (v 6)) f w g) H := hP
      have hD : va_D A (YW cy y0 r (upd (upd v 1 1) 2 (v 6)) f w g) := hD
      exact ret ((upd (upd v 1 1) 2 (v 6)), f, w, g) _ _ _ _ _ _ ⟨(gsY_X11_wrong_1_q1 c1 c2), (KV.up (j := 2) (x := (v 6)) (KV.up (j := 1) (x := 1) hM_v rfl) rfl), hA_f, ⟨(Yu_2 (x := (v 6)) (Yu_1 (x := 1) hIv.1 (by decide) (by decide)) (rlo _) (rhi _)), hIv.2⟩, hCf, hRf, rfl, rfl, rfl, rfl, rfl, rfl, rfl, rfl, rfl, rfl, rfl, rfl, rfl, rfl, rfl, rfl, rfl, rfl, (show (v 3).toInt ≤ (v 3).toInt from om_329), (show (v 5).toInt = (v 5).toInt ∨ (v 3).toInt < (v 3).toInt ∨ ¬ (v 5).toInt = 59 from om_333), (show 0 < (1 : Int32).toInt from om_335 tc_1), rfl, rfl, rfl⟩ hP hD hS dX11_wrong_33 (Nat.le_refl _) (Nat.le_refl _)
  · skip
    have zc1 : ¬ ((v 1).toInt ≤ 0) := zMn rfl tc_0 c1
    exact ret (v, f, w, g) _ _ _ _ _ _ ⟨(gsY_X11_wrong_1_q2 c1), hM_v, hA_f, hIv, hCf, hRf, rfl, rfl, rfl, rfl, rfl, rfl, rfl, rfl, rfl, rfl, rfl, rfl, rfl, rfl, rfl, rfl, rfl, rfl, (show (v 3).toInt ≤ (v 3).toInt from om_329), (show (v 5).toInt = (v 5).toInt ∨ (v 3).toInt < (v 3).toInt ∨ ¬ (v 5).toInt = 59 from om_333), (show 0 < (v 1).toInt from om_336 zc1), rfl, rfl, rfl⟩ hP hD hS dX11_wrong_7 (Nat.le_refl _) (Nat.le_refl _)
set_option maxHeartbeats 4000000 in
set_option maxRecDepth 100000 in
theorem sY_X11_isWord_1 (NF : Nat) (l : Launch) (dC : Nat → ClassId) (dI : Nat → Nat → Nat) (cy : Nat → ClassId) (y0 : Nat) (r : Nat → Nat) (j1 : Int64) (v : Nat → Int32) (f : Nat → Nat → Int32) (w : Int64) (g : Nat → Int64) (hIv : YI v) (hCf : YC f) (hRf : progOK (f 4) (f 5) (v 9).toInt.toNat)  : ctI l (dC, dI) cy yX11_isWord cX11_isWord 3 .boolean 1 60 0 0 Unit [.ref y0, .long j1] (YW cy y0 r v f w g) (fun r u => gsY_X11_isWord_1 NF j1 v f w g = r ∧ ((r = 1 ∧ (v 5).toInt = 1) ∨ (r = 0))) (fun u => YW cy y0 r v f w g) := by
  refine ctI_of (by decide) (Nat.le_of_ble_eq_true rfl) (fun p e s m below meth c A ls Q hx hb hml hts hown hE hP hD hA hl ret => ?_)
  have hown : s.vm.findClass RX11 = some m.cls := hown
  have hS : va_S A s.heap s.heap [] := va_S.rf
  have hl : lv_has ls 3 [(0, .ref y0), (1, .long j1)] := hl
  refine lv_aload_n hx hb dX11_isWord_0 rfl (lv_at hl 0 rfl) ?_
  refine va_get (D := (dC, dI)) (ci := 11) (v := .int (v 5)) (C := RX11) (T := TX11) (N := 79) hx hb hts inB_11 hown hE.1 hP 0 rfl rfl 6 (Nat.le_of_ble_eq_true rfl) (hts _ k_1326) (fun _ h9 => h9) rfl dX11_isWord_1 ?_
  refine lv_iconst (v := 1) hx hb dX11_isWord_4 rfl ?_
  refine lv_icmp_ne (tgt := 21) hx hb dX11_isWord_5 rfl (fun c1 => ?_) (fun c1 => ?_)
  · skip
    refine lv_iconst (v := 0) hx hb dX11_isWord_21 rfl ?_
    exact ret 0 () _ _ _ _ _ _ rfl ⟨(gsY_X11_isWord_1_q0 c1), (Or.inr rfl)⟩ hP hD hS dX11_isWord_22 (Nat.le_refl _) (Nat.le_refl _)
  · skip
    have zc1 : (v 5).toInt = 1 := zEp rfl tc_1 c1
    refine lv_aload_n hx hb dX11_isWord_8 rfl (lv_at hl 0 rfl) ?_
    refine va_get (D := (dC, dI)) (ci := 11) (v := .long w) (C := RX11) (T := TX11) (N := 79) hx hb hts inB_11 hown hE.1 hP 0 rfl rfl 9 (Nat.le_of_ble_eq_true rfl) (hts _ k_1329) (fun _ h9 => h9) rfl dX11_isWord_9 ?_
    refine lv_lload_n hx hb dX11_isWord_12 rfl (lv_at hl 1 rfl) ?_
    refine W.lcmp hx hb dX11_isWord_13 ?_
    refine lv_topi (fun t2 et2 => ?_)
    refine lv_if_ne (tgt := 21) hx hb dX11_isWord_14 rfl (fun c3 => ?_) (fun c3 => ?_)
    · skip
      refine lv_iconst (v := 0) hx hb dX11_isWord_21 rfl ?_
      exact ret 0 () _ _ _ _ _ _ rfl ⟨(gsY_X11_isWord_1_q1 c1 et2 c3), (Or.inr rfl)⟩ hP hD hS dX11_isWord_22 (Nat.le_refl _) (Nat.le_refl _)
    · skip
      refine lv_iconst (v := 1) hx hb dX11_isWord_17 rfl ?_
      refine lv_goto (tgt := 22) hx hb dX11_isWord_18 rfl ?_
      exact ret 1 () _ _ _ _ _ _ rfl ⟨(gsY_X11_isWord_1_q2 c1 et2 c3), (Or.inl ⟨rfl, show (v 5).toInt = 1 from om_337 zc1⟩)⟩ hP hD hS dX11_isWord_22 (Nat.le_refl _) (Nat.le_refl _)
set_option maxHeartbeats 4000000 in
set_option maxRecDepth 100000 in
theorem sY_X11_want_1 (NF : Nat) (l : Launch) (dC : Nat → ClassId) (dI : Nat → Nat → Nat) (cy : Nat → ClassId) (y0 : Nat) (r : Nat → Nat) (j1 : Int64) (v : Nat → Int32) (f : Nat → Nat → Int32) (w : Int64) (g : Nat → Int64) (hIv : YI v) (hCf : YC f) (hRf : progOK (f 4) (f 5) (v 9).toInt.toNat)  : ctV l (dC, dI) cy yX11_want cX11_want 3 3 103 0 0 ((Nat → Int32) × (Nat → Nat → Int32) × (Int64) × (Nat → Int64)) [.ref y0, .long j1] (YW cy y0 r v f w g) (fun u => gsY_X11_want_1 NF j1 v f w g = u ∧ KV [1, 2, 3, 5, 6, 7] u.1 v ∧ KF [] u.2.1 f ∧ YI u.1 ∧ YC u.2.1 ∧ progOK (u.2.1 4) (u.2.1 5) (u.1 9).toInt.toNat ∧ u.1 0 = v 0 ∧ u.1 4 = v 4 ∧ u.1 8 = v 8 ∧ u.1 9 = v 9 ∧ u.1 10 = v 10 ∧ u.1 13 = v 13 ∧ u.1 14 = v 14 ∧ u.1 15 = v 15 ∧ u.1 17 = v 17 ∧ u.1 18 = v 18 ∧ u.1 24 = v 24 ∧ u.1 25 = v 25 ∧ u.1 35 = v 35 ∧ u.1 36 = v 36 ∧ u.1 38 = v 38 ∧ u.1 39 = v 39 ∧ ((v 3).toInt ≤ (u.1 3).toInt) ∧ ((u.1 5).toInt = (v 5).toInt ∨ (v 3).toInt < (u.1 3).toInt ∨ ¬ (u.1 5).toInt = 59) ∧ u.2.1 2 = f 2 ∧ u.2.1 3 = f 3 ∧ u.2.1 6 = f 6) (fun u => YW cy y0 r u.1 u.2.1 u.2.2.1 u.2.2.2) := by
  refine ctV_of (by decide) (Nat.le_of_ble_eq_true rfl) (fun p e s m below meth c A ls Q hx hb hml hts hown hnm hE hP hD hA hl ret => ?_)
  have hUv : (v 35).toInt + (v 36).toInt ≤ 40 := hIv.2
  have hM_v : KV [1, 2, 3, 5, 6, 7] v v := fun _ _ => rfl
  have hA_f : KF [] f f := fun _ _ => rfl
  have b0_v : (0 : Int) ≤ (v 0).toInt ∧ (v 0).toInt ≤ 1600 := Yb_0 hIv.1
  have b1_v : (0 : Int) ≤ (v 1).toInt ∧ (v 1).toInt ≤ 4 := Yb_1 hIv.1
  have b8_v : (0 : Int) ≤ (v 8).toInt ∧ (v 8).toInt ≤ 320 := Yb_8 hIv.1
  have b10_v : (0 : Int) ≤ (v 10).toInt ∧ (v 10).toInt ≤ 160 := Yb_10 hIv.1
  have b13_v : (0 : Int) ≤ (v 13).toInt ∧ (v 13).toInt ≤ 31 := Yb_13 hIv.1
  have b14_v : (0 : Int) ≤ (v 14).toInt ∧ (v 14).toInt ≤ 8 := Yb_14 hIv.1
  have b15_v : (0 : Int) ≤ (v 15).toInt ∧ (v 15).toInt ≤ 1 := Yb_15 hIv.1
  have b17_v : (0 : Int) ≤ (v 17).toInt ∧ (v 17).toInt ≤ 6 := Yb_17 hIv.1
  have b18_v : (0 : Int) ≤ (v 18).toInt ∧ (v 18).toInt ≤ 6 := Yb_18 hIv.1
  have hGR : GR (v 3).toInt (v 5).toInt (v 3).toInt (v 5).toInt := GR.refl _ _
  have hown : s.vm.findClass RX11 = some m.cls := hown
  have hS : va_S A s.heap s.heap [] := va_S.rf
  have hl : lv_has ls 3 [(0, .ref y0), (1, .long j1)] := hl
  refine lv_aload_n hx hb dX11_want_0 rfl (lv_at hl 0 rfl) ?_
  refine va_get (D := (dC, dI)) (ci := 11) (v := .int (v 1)) (C := RX11) (T := TX11) (N := 79) hx hb hts inB_11 hown hE.1 hP 0 rfl rfl 2 (Nat.le_of_ble_eq_true rfl) (hts _ k_1322) (fun _ h9 => h9) rfl dX11_want_1 ?_
  have b1_v : 0 ≤ (v 1).toInt ∧ (v 1).toInt ≤ 4 := Yb_1 hIv.1
  refine lv_if_le (tgt := 8) hx hb dX11_want_4 rfl (fun c1 => ?_) (fun c1 => ?_)
  · skip
    have zc1 : (v 1).toInt ≤ 0 := zMp rfl tc_0 c1
    refine lv_aload_n hx hb dX11_want_8 rfl (lv_at hl 0 rfl) ?_
    refine lv_lload_n hx hb dX11_want_9 rfl (lv_at hl 1 rfl) ?_
    refine cbVi (n := 1) (rest := []) hx hb hml hown hts hE hP hD hS hA (sY_X11_isWord_1 NF l dC dI cy y0 r j1 v f w g hIv hCf hRf ) k_1601 k_1603 k_45 k_114 k_1604 hd_yX11_isWord ⟨Nat.le_of_ble_eq_true rfl, Nat.le_of_ble_eq_true rfl⟩ 0 11 rfl rfl (rfl) hl.1 rfl (Nat.le_of_ble_eq_true rfl) dX11_want_10 (fun r2 u H locs hw hP hD hS => ?_)
    obtain ⟨hG3, hw⟩ := hw
    rcases hw with ⟨g4, g4_0⟩ | ⟨g4⟩
    · skip
      subst g4
      refine lv_if_ne (tgt := 24) hx hb dX11_want_13 rfl (fun _ => ?_) (fun c0 => absurd c0 (by decide))
      refine lv_aload_n hx hb dX11_want_24 rfl (lv_at hl 0 rfl) ?_
      refine cbVv (n := 0) (rest := []) hx hb hml hown hts hE hP hD hS hA (sY_X11_token_1 NF l dC dI cy y0 r  v f w g hIv hCf hRf ) k_1579 k_1581 k_42 k_114 k_1582 hd_yX11_token ⟨Nat.le_of_ble_eq_true rfl, Nat.le_of_ble_eq_true rfl⟩ 0 11 rfl rfl (rfl) hl.1 rfl (Nat.le_of_ble_eq_true rfl) dX11_want_25 (fun u H locs hw hP hD hS => ?_)
      obtain ⟨hG5, hw⟩ := hw
      obtain ⟨v6, f7, w8, g9⟩ := u
      obtain ⟨kV_v6, kF_f7, hIv6, hCf7, hRf7, hk0_v6, hk1_v6, hk2_v6, hk4_v6, hk8_v6, hk9_v6, hk10_v6, hk13_v6, hk14_v6, hk15_v6, hk17_v6, hk18_v6, hk24_v6, hk25_v6, hk35_v6, hk36_v6, hk38_v6, hk39_v6, pv10, pv11, kq12, kq13, kq14⟩ := hw
      have hM_v6 : KV [1, 2, 3, 5, 6, 7] v6 v := KV.tr kV_v6 hM_v rfl
      have hA_f7 : KF [] f7 f := KF.tr kF_f7 hA_f rfl
      have hP : va_P (dC, dI) vwCl (YW cy y0 r v6 f7 w8 g9) H := hP
      have hD : va_D A (YW cy y0 r v6 f7 w8 g9) := hD
      have b3_v6 : 0 ≤ (v6 3).toInt ∧ (v6 3).toInt ≤ 1600 := Yb_3 hIv6.1
      have pv10 : (v 3).toInt ≤ (v6 3).toInt := pv10
      have pv11 : (v6 5).toInt = (v 5).toInt ∨ (v 3).toInt < (v6 3).toInt ∨ ¬ (v6 5).toInt = 59 := pv11
      have hs2_f7 : f7 2 = (f 2) := kq12
      have hs3_f7 : f7 3 = (f 3) := kq13
      have hs6_f7 : f7 6 = (f 6) := kq14
      have hUv6 : (v6 35).toInt + (v6 36).toInt ≤ 40 := hIv6.2
      have hq0_v6 : v6 0 = (v 0) := hk0_v6
      have zq0_v6 := congrArg Int32.toInt hq0_v6
      have hq1_v6 : v6 1 = (v 1) := hk1_v6
      have zq1_v6 := congrArg Int32.toInt hq1_v6
      have hq8_v6 : v6 8 = (v 8) := hk8_v6
      have zq8_v6 := congrArg Int32.toInt hq8_v6
      have hq9_v6 : v6 9 = (v 9) := hk9_v6
      have zq9_v6 := congrArg Int32.toInt hq9_v6
      have hq10_v6 : v6 10 = (v 10) := hk10_v6
      have zq10_v6 := congrArg Int32.toInt hq10_v6
      have hq13_v6 : v6 13 = (v 13) := hk13_v6
      have zq13_v6 := congrArg Int32.toInt hq13_v6
      have hq14_v6 : v6 14 = (v 14) := hk14_v6
      have zq14_v6 := congrArg Int32.toInt hq14_v6
      have hq15_v6 : v6 15 = (v 15) := hk15_v6
      have zq15_v6 := congrArg Int32.toInt hq15_v6
      have hq17_v6 : v6 17 = (v 17) := hk17_v6
      have zq17_v6 := congrArg Int32.toInt hq17_v6
      have hq18_v6 : v6 18 = (v 18) := hk18_v6
      have zq18_v6 := congrArg Int32.toInt hq18_v6
      have hGR : GR (v 3).toInt (v 5).toInt (v6 3).toInt (v6 5).toInt := GR.tr hGR (show GR (v 3).toInt (v 5).toInt (v6 3).toInt (v6 5).toInt from ⟨pv10, pv11⟩) (by first | with_reducible rfl | with_reducible assumption | rfl | omega) (by first | with_reducible rfl | with_reducible assumption | rfl | omega)
      clear pv11
      exact ret (v6, f7, w8, g9) _ _ _ _ _ _ ⟨(gsY_X11_want_1_q0 c1 hG3 hG5), hM_v6, hA_f7, hIv6, hCf7, hRf7, hk0_v6, hk4_v6, hk8_v6, hk9_v6, hk10_v6, hk13_v6, hk14_v6, hk15_v6, hk17_v6, hk18_v6, hk24_v6, hk25_v6, hk35_v6, hk36_v6, hk38_v6, hk39_v6, (by show (v 3).toInt ≤ (v6 3).toInt; exact (GR.cast hGR (by first | with_reducible rfl | with_reducible assumption | rfl | omega) (by first | with_reducible rfl | with_reducible assumption | rfl | omega)).1), (by show (v6 5).toInt = (v 5).toInt ∨ (v 3).toInt < (v6 3).toInt ∨ ¬ (v6 5).toInt = 59; exact (GR.cast hGR (by first | with_reducible rfl | with_reducible assumption | rfl | omega) (by first | with_reducible rfl | with_reducible assumption | rfl | omega)).2), hs2_f7, hs3_f7, hs6_f7⟩ hP hD hS dX11_want_28 (Nat.le_refl _) (Nat.le_refl _)
    · skip
      subst g4
      refine lv_if_ne (tgt := 24) hx hb dX11_want_13 rfl (fun c0 => absurd (by decide) c0) (fun _ => ?_)
      refine lv_aload_n hx hb dX11_want_16 rfl (lv_at hl 0 rfl) ?_
      refine lv_iconst (v := 2) hx hb dX11_want_17 rfl ?_
      refine cbVv (n := 1) (rest := []) hx hb hml hown hts hE hP hD hS hA (sY_X11_wrong_1 NF l dC dI cy y0 r 2 v f w g hIv hCf hRf ⟨by decide, by decide⟩) k_1641 k_1643 k_50 k_114 k_1644 hd_yX11_wrong ⟨Nat.le_of_ble_eq_true rfl, Nat.le_of_ble_eq_true rfl⟩ 0 11 rfl rfl (rfl) hl.1 rfl (Nat.le_of_ble_eq_true rfl) dX11_want_18 (fun u H locs hw hP hD hS => ?_)
      obtain ⟨hG15, hw⟩ := hw
      obtain ⟨v16, f17, w18, g19⟩ := u
      obtain ⟨kV_v16, kF_f17, hIv16, hCf17, hRf17, hk0_v16, hk3_v16, hk4_v16, hk5_v16, hk8_v16, hk9_v16, hk10_v16, hk13_v16, hk14_v16, hk15_v16, hk17_v16, hk18_v16, hk24_v16, hk25_v16, hk35_v16, hk36_v16, hk38_v16, hk39_v16, pv20, pv21, pv22, kq23, kq24, kq25⟩ := hw
      have hM_v16 : KV [1, 2, 3, 5, 6, 7] v16 v := KV.tr kV_v16 hM_v rfl
      have hA_f17 : KF [] f17 f := KF.tr kF_f17 hA_f rfl
      have hP : va_P (dC, dI) vwCl (YW cy y0 r v16 f17 w18 g19) H := hP
      have hD : va_D A (YW cy y0 r v16 f17 w18 g19) := hD
      have b3_v16 : 0 ≤ (v16 3).toInt ∧ (v16 3).toInt ≤ 1600 := Yb_3 hIv16.1
      have b1_v16 : 0 ≤ (v16 1).toInt ∧ (v16 1).toInt ≤ 4 := Yb_1 hIv16.1
      have pv20 : (v 3).toInt ≤ (v16 3).toInt := pv20
      have pv21 : (v16 5).toInt = (v 5).toInt ∨ (v 3).toInt < (v16 3).toInt ∨ ¬ (v16 5).toInt = 59 := pv21
      have pv22 : 0 < (v16 1).toInt := pv22
      have hs2_f17 : f17 2 = (f 2) := kq23
      have hs3_f17 : f17 3 = (f 3) := kq24
      have hs6_f17 : f17 6 = (f 6) := kq25
      have hUv16 : (v16 35).toInt + (v16 36).toInt ≤ 40 := hIv16.2
      have hq0_v16 : v16 0 = (v 0) := hk0_v16
      have zq0_v16 := congrArg Int32.toInt hq0_v16
      have hq3_v16 : v16 3 = (v 3) := hk3_v16
      have zq3_v16 := congrArg Int32.toInt hq3_v16
      have hq5_v16 : v16 5 = (v 5) := hk5_v16
      have zq5_v16 := congrArg Int32.toInt hq5_v16
      have hq8_v16 : v16 8 = (v 8) := hk8_v16
      have zq8_v16 := congrArg Int32.toInt hq8_v16
      have hq9_v16 : v16 9 = (v 9) := hk9_v16
      have zq9_v16 := congrArg Int32.toInt hq9_v16
      have hq10_v16 : v16 10 = (v 10) := hk10_v16
      have zq10_v16 := congrArg Int32.toInt hq10_v16
      have hq13_v16 : v16 13 = (v 13) := hk13_v16
      have zq13_v16 := congrArg Int32.toInt hq13_v16
      have hq14_v16 : v16 14 = (v 14) := hk14_v16
      have zq14_v16 := congrArg Int32.toInt hq14_v16
      have hq15_v16 : v16 15 = (v 15) := hk15_v16
      have zq15_v16 := congrArg Int32.toInt hq15_v16
      have hq17_v16 : v16 17 = (v 17) := hk17_v16
      have zq17_v16 := congrArg Int32.toInt hq17_v16
      have hq18_v16 : v16 18 = (v 18) := hk18_v16
      have zq18_v16 := congrArg Int32.toInt hq18_v16
      have hGR : GR (v 3).toInt (v 5).toInt (v16 3).toInt (v16 5).toInt := GR.tr hGR (show GR (v 3).toInt (v 5).toInt (v16 3).toInt (v16 5).toInt from ⟨pv20, pv21⟩) (by first | with_reducible rfl | with_reducible assumption | rfl | omega) (by first | with_reducible rfl | with_reducible assumption | rfl | omega)
      clear pv21
      refine lv_goto (tgt := 28) hx hb dX11_want_21 rfl ?_
      exact ret (v16, f17, w18, g19) _ _ _ _ _ _ ⟨(gsY_X11_want_1_q1 c1 hG3 hG15), hM_v16, hA_f17, hIv16, hCf17, hRf17, hk0_v16, hk4_v16, hk8_v16, hk9_v16, hk10_v16, hk13_v16, hk14_v16, hk15_v16, hk17_v16, hk18_v16, hk24_v16, hk25_v16, hk35_v16, hk36_v16, hk38_v16, hk39_v16, (by show (v 3).toInt ≤ (v16 3).toInt; exact (GR.cast hGR (by first | with_reducible rfl | with_reducible assumption | rfl | omega) (by first | with_reducible rfl | with_reducible assumption | rfl | omega)).1), (by show (v16 5).toInt = (v 5).toInt ∨ (v 3).toInt < (v16 3).toInt ∨ ¬ (v16 5).toInt = 59; exact (GR.cast hGR (by first | with_reducible rfl | with_reducible assumption | rfl | omega) (by first | with_reducible rfl | with_reducible assumption | rfl | omega)).2), hs2_f17, hs3_f17, hs6_f17⟩ hP hD hS dX11_want_28 (Nat.le_refl _) (Nat.le_refl _)
  · skip
    have zc1 : ¬ ((v 1).toInt ≤ 0) := zMn rfl tc_0 c1
    exact ret (v, f, w, g) _ _ _ _ _ _ ⟨(gsY_X11_want_1_q2 c1), hM_v, hA_f, hIv, hCf, hRf, rfl, rfl, rfl, rfl, rfl, rfl, rfl, rfl, rfl, rfl, rfl, rfl, rfl, rfl, rfl, rfl, (by show (v 3).toInt ≤ (v 3).toInt; exact (GR.cast hGR (by first | with_reducible rfl | with_reducible assumption | rfl | omega) (by first | with_reducible rfl | with_reducible assumption | rfl | omega)).1), (by show (v 5).toInt = (v 5).toInt ∨ (v 3).toInt < (v 3).toInt ∨ ¬ (v 5).toInt = 59; exact (GR.cast hGR (by first | with_reducible rfl | with_reducible assumption | rfl | omega) (by first | with_reducible rfl | with_reducible assumption | rfl | omega)).2), rfl, rfl, rfl⟩ hP hD hS dX11_want_7 (Nat.le_refl _) (Nat.le_refl _)
set_option maxHeartbeats 4000000 in
set_option maxRecDepth 100000 in
theorem sY_X11_toldNumber_1 (NF : Nat) (l : Launch) (dC : Nat → ClassId) (dI : Nat → Nat → Nat) (cy : Nat → ClassId) (y0 : Nat) (r : Nat → Nat) (p1 : Int32) (p2 : Int32) (v : Nat → Int32) (f : Nat → Nat → Int32) (w : Int64) (g : Nat → Int64) (hIv : YI v) (hCf : YC f) (hRf : progOK (f 4) (f 5) (v 9).toInt.toNat)  : ctI l (dC, dI) cy yX11_toldNumber cX11_toldNumber 4 .int 3 103 0 0 ((Nat → Int32) × (Nat → Nat → Int32) × (Int64) × (Nat → Int64)) [.ref y0, .int p1, .int p2] (YW cy y0 r v f w g) (fun r u => gsY_X11_toldNumber_1 NF p1 p2 v f w g = (r, u) ∧ KV [1, 2, 3, 5, 6, 7] u.1 v ∧ KF [] u.2.1 f ∧ YI u.1 ∧ YC u.2.1 ∧ progOK (u.2.1 4) (u.2.1 5) (u.1 9).toInt.toNat ∧ u.1 0 = v 0 ∧ u.1 4 = v 4 ∧ u.1 8 = v 8 ∧ u.1 9 = v 9 ∧ u.1 10 = v 10 ∧ u.1 13 = v 13 ∧ u.1 14 = v 14 ∧ u.1 15 = v 15 ∧ u.1 17 = v 17 ∧ u.1 18 = v 18 ∧ u.1 24 = v 24 ∧ u.1 25 = v 25 ∧ u.1 35 = v 35 ∧ u.1 36 = v 36 ∧ u.1 38 = v 38 ∧ u.1 39 = v 39 ∧ ((v 3).toInt ≤ (u.1 3).toInt) ∧ ((u.1 5).toInt = (v 5).toInt ∨ (v 3).toInt < (u.1 3).toInt ∨ ¬ (u.1 5).toInt = 59) ∧ u.2.1 2 = f 2 ∧ u.2.1 3 = f 3 ∧ u.2.1 6 = f 6) (fun u => YW cy y0 r u.1 u.2.1 u.2.2.1 u.2.2.2) := by
  refine ctI_of (by decide) (Nat.le_of_ble_eq_true rfl) (fun p e s m below meth c A ls Q hx hb hml hts hown hE hP hD hA hl ret => ?_)
  have hUv : (v 35).toInt + (v 36).toInt ≤ 40 := hIv.2
  have hM_v : KV [1, 2, 3, 5, 6, 7] v v := fun _ _ => rfl
  have hA_f : KF [] f f := fun _ _ => rfl
  have b0_v : (0 : Int) ≤ (v 0).toInt ∧ (v 0).toInt ≤ 1600 := Yb_0 hIv.1
  have b1_v : (0 : Int) ≤ (v 1).toInt ∧ (v 1).toInt ≤ 4 := Yb_1 hIv.1
  have b8_v : (0 : Int) ≤ (v 8).toInt ∧ (v 8).toInt ≤ 320 := Yb_8 hIv.1
  have b10_v : (0 : Int) ≤ (v 10).toInt ∧ (v 10).toInt ≤ 160 := Yb_10 hIv.1
  have b13_v : (0 : Int) ≤ (v 13).toInt ∧ (v 13).toInt ≤ 31 := Yb_13 hIv.1
  have b14_v : (0 : Int) ≤ (v 14).toInt ∧ (v 14).toInt ≤ 8 := Yb_14 hIv.1
  have b15_v : (0 : Int) ≤ (v 15).toInt ∧ (v 15).toInt ≤ 1 := Yb_15 hIv.1
  have b17_v : (0 : Int) ≤ (v 17).toInt ∧ (v 17).toInt ≤ 6 := Yb_17 hIv.1
  have b18_v : (0 : Int) ≤ (v 18).toInt ∧ (v 18).toInt ≤ 6 := Yb_18 hIv.1
  have hGR : GR (v 3).toInt (v 5).toInt (v 3).toInt (v 5).toInt := GR.refl _ _
  have hown : s.vm.findClass RX11 = some m.cls := hown
  have hS : va_S A s.heap s.heap [] := va_S.rf
  have hl : lv_has ls 4 [(0, .ref y0), (1, .int p1), (2, .int p2)] := hl
  refine lv_aload_n hx hb dX11_toldNumber_0 rfl (lv_at hl 0 rfl) ?_
  refine va_get (D := (dC, dI)) (ci := 11) (v := .int (v 1)) (C := RX11) (T := TX11) (N := 79) hx hb hts inB_11 hown hE.1 hP 0 rfl rfl 2 (Nat.le_of_ble_eq_true rfl) (hts _ k_1322) (fun _ h9 => h9) rfl dX11_toldNumber_1 ?_
  have b1_v : 0 ≤ (v 1).toInt ∧ (v 1).toInt ≤ 4 := Yb_1 hIv.1
  refine lv_if_le (tgt := 9) hx hb dX11_toldNumber_4 rfl (fun c1 => ?_) (fun c1 => ?_)
  · skip
    have zc1 : (v 1).toInt ≤ 0 := zMp rfl tc_0 c1
    refine lv_aload_n hx hb dX11_toldNumber_9 rfl (lv_at hl 0 rfl) ?_
    refine va_get (D := (dC, dI)) (ci := 11) (v := .int (v 5)) (C := RX11) (T := TX11) (N := 79) hx hb hts inB_11 hown hE.1 hP 0 rfl rfl 6 (Nat.le_of_ble_eq_true rfl) (hts _ k_1326) (fun _ h9 => h9) rfl dX11_toldNumber_10 ?_
    refine lv_iconst (v := 2) hx hb dX11_toldNumber_13 rfl ?_
    refine lv_icmp_eq (tgt := 25) hx hb dX11_toldNumber_14 rfl (fun c2 => ?_) (fun c2 => ?_)
    · skip
      have zc2 : (v 5).toInt = 2 := zEp rfl tc_2 c2
      refine lv_aload_n hx hb dX11_toldNumber_25 rfl (lv_at hl 0 rfl) ?_
      refine va_get (D := (dC, dI)) (ci := 11) (v := .int (v 7)) (C := RX11) (T := TX11) (N := 79) hx hb hts inB_11 hown hE.1 hP 0 rfl rfl 8 (Nat.le_of_ble_eq_true rfl) (hts _ k_1328) (fun _ h9 => h9) rfl dX11_toldNumber_26 ?_
      refine lv_iload_n hx hb dX11_toldNumber_29 rfl (lv_at hl 1 rfl) ?_
      refine lv_icmp_lt (tgt := 41) hx hb dX11_toldNumber_30 rfl (fun c3 => ?_) (fun c3 => ?_)
      · skip
        have zc3 : (v 7).toInt < p1.toInt := zLp rfl rfl c3
        have rg4 := fb_rng (v 7)
        have rg5 := fb_rng p1
        refine lv_aload_n hx hb dX11_toldNumber_41 rfl (lv_at hl 0 rfl) ?_
        refine lv_iconst (v := 4) hx hb dX11_toldNumber_42 rfl ?_
        refine cbVv (n := 1) (rest := []) hx hb hml hown hts hE hP hD hS hA (sY_X11_wrong_1 NF l dC dI cy y0 r 4 v f w g hIv hCf hRf ⟨by decide, by decide⟩) k_1641 k_1643 k_50 k_114 k_1644 hd_yX11_wrong ⟨Nat.le_of_ble_eq_true rfl, Nat.le_of_ble_eq_true rfl⟩ 0 11 rfl rfl (rfl) hl.1 rfl (Nat.le_of_ble_eq_true rfl) dX11_toldNumber_43 (fun u H locs hw hP hD hS => ?_)
        obtain ⟨hG6, hw⟩ := hw
        obtain ⟨v7, f8, w9, g10⟩ := u
        obtain ⟨kV_v7, kF_f8, hIv7, hCf8, hRf8, hk0_v7, hk3_v7, hk4_v7, hk5_v7, hk8_v7, hk9_v7, hk10_v7, hk13_v7, hk14_v7, hk15_v7, hk17_v7, hk18_v7, hk24_v7, hk25_v7, hk35_v7, hk36_v7, hk38_v7, hk39_v7, pv11, pv12, pv13, kq14, kq15, kq16⟩ := hw
        have hM_v7 : KV [1, 2, 3, 5, 6, 7] v7 v := KV.tr kV_v7 hM_v rfl
        have hA_f8 : KF [] f8 f := KF.tr kF_f8 hA_f rfl
        have hP : va_P (dC, dI) vwCl (YW cy y0 r v7 f8 w9 g10) H := hP
        have hD : va_D A (YW cy y0 r v7 f8 w9 g10) := hD
        have b3_v7 : 0 ≤ (v7 3).toInt ∧ (v7 3).toInt ≤ 1600 := Yb_3 hIv7.1
        have b1_v7 : 0 ≤ (v7 1).toInt ∧ (v7 1).toInt ≤ 4 := Yb_1 hIv7.1
        have pv11 : (v 3).toInt ≤ (v7 3).toInt := pv11
        have pv12 : (v7 5).toInt = (v 5).toInt ∨ (v 3).toInt < (v7 3).toInt ∨ ¬ (v7 5).toInt = 59 := pv12
        have pv13 : 0 < (v7 1).toInt := pv13
        have hs2_f8 : f8 2 = (f 2) := kq14
        have hs3_f8 : f8 3 = (f 3) := kq15
        have hs6_f8 : f8 6 = (f 6) := kq16
        have hUv7 : (v7 35).toInt + (v7 36).toInt ≤ 40 := hIv7.2
        have hq0_v7 : v7 0 = (v 0) := hk0_v7
        have zq0_v7 := congrArg Int32.toInt hq0_v7
        have hq3_v7 : v7 3 = (v 3) := hk3_v7
        have zq3_v7 := congrArg Int32.toInt hq3_v7
        have hq5_v7 : v7 5 = (v 5) := hk5_v7
        have zq5_v7 := congrArg Int32.toInt hq5_v7
        have hq8_v7 : v7 8 = (v 8) := hk8_v7
        have zq8_v7 := congrArg Int32.toInt hq8_v7
        have hq9_v7 : v7 9 = (v 9) := hk9_v7
        have zq9_v7 := congrArg Int32.toInt hq9_v7
        have hq10_v7 : v7 10 = (v 10) := hk10_v7
        have zq10_v7 := congrArg Int32.toInt hq10_v7
        have hq13_v7 : v7 13 = (v 13) := hk13_v7
        have zq13_v7 := congrArg Int32.toInt hq13_v7
        have hq14_v7 : v7 14 = (v 14) := hk14_v7
        have zq14_v7 := congrArg Int32.toInt hq14_v7
        have hq15_v7 : v7 15 = (v 15) := hk15_v7
        have zq15_v7 := congrArg Int32.toInt hq15_v7
        have hq17_v7 : v7 17 = (v 17) := hk17_v7
        have zq17_v7 := congrArg Int32.toInt hq17_v7
        have hq18_v7 : v7 18 = (v 18) := hk18_v7
        have zq18_v7 := congrArg Int32.toInt hq18_v7
        have hGR : GR (v 3).toInt (v 5).toInt (v7 3).toInt (v7 5).toInt := GR.tr hGR (show GR (v 3).toInt (v 5).toInt (v7 3).toInt (v7 5).toInt from ⟨pv11, pv12⟩) (by first | with_reducible rfl | with_reducible assumption | rfl | omega) (by first | with_reducible rfl | with_reducible assumption | rfl | omega)
        clear pv12
        refine lv_aload_n hx hb dX11_toldNumber_46 rfl (lv_at hl 0 rfl) ?_
        refine va_get (D := (dC, dI)) (ci := 11) (v := .int (v7 7)) (C := RX11) (T := TX11) (N := 79) hx hb hts inB_11 hown hE.1 hP 0 rfl rfl 8 (Nat.le_of_ble_eq_true rfl) (hts _ k_1328) (fun _ h9 => h9) rfl dX11_toldNumber_47 ?_
        refine lv_istore_n (lv' := [(3, .int (v7 7)), (0, .ref y0), (1, .int p1), (2, .int p2)]) hx hb dX11_toldNumber_50 rfl hl (Nat.le_of_ble_eq_true rfl) rfl (fun ls hl => ?_)
        refine lv_aload_n hx hb dX11_toldNumber_51 rfl (lv_at hl 1 rfl) ?_
        refine va_get (D := (dC, dI)) (ci := 11) (v := .int (v7 1)) (C := RX11) (T := TX11) (N := 79) hx hb hts inB_11 hown hE.1 hP 0 rfl rfl 2 (Nat.le_of_ble_eq_true rfl) (hts _ k_1322) (fun _ h9 => h9) rfl dX11_toldNumber_52 ?_
        have b1_v7 : 0 ≤ (v7 1).toInt ∧ (v7 1).toInt ≤ 4 := Yb_1 hIv7.1
        refine lv_if_ne (tgt := 62) hx hb dX11_toldNumber_55 rfl (fun c17 => ?_) (fun c17 => ?_)
        · skip
          have zc17 : ¬ ((v7 1).toInt = 0) := zEn rfl tc_0 c17
          refine lv_iload_n hx hb dX11_toldNumber_62 rfl (lv_at hl 0 rfl) ?_
          exact ret (v7 7) (v7, f8, w9, g10) _ _ _ _ _ _ rfl ⟨(gsY_X11_toldNumber_1_q0 c1 c2 c3 hG6 c17), hM_v7, hA_f8, hIv7, hCf8, hRf8, hk0_v7, hk4_v7, hk8_v7, hk9_v7, hk10_v7, hk13_v7, hk14_v7, hk15_v7, hk17_v7, hk18_v7, hk24_v7, hk25_v7, hk35_v7, hk36_v7, hk38_v7, hk39_v7, (by show (v 3).toInt ≤ (v7 3).toInt; exact (GR.cast hGR (by first | with_reducible rfl | with_reducible assumption | rfl | omega) (by first | with_reducible rfl | with_reducible assumption | rfl | omega)).1), (by show (v7 5).toInt = (v 5).toInt ∨ (v 3).toInt < (v7 3).toInt ∨ ¬ (v7 5).toInt = 59; exact (GR.cast hGR (by first | with_reducible rfl | with_reducible assumption | rfl | omega) (by first | with_reducible rfl | with_reducible assumption | rfl | omega)).2), hs2_f8, hs3_f8, hs6_f8⟩ hP hD hS dX11_toldNumber_63 (Nat.le_refl _) (Nat.le_refl _)
        · skip
          have zc17 : (v7 1).toInt = 0 := zEp rfl tc_0 c17
          refine lv_aload_n hx hb dX11_toldNumber_58 rfl (lv_at hl 1 rfl) ?_
          refine cbVv (n := 0) (rest := []) hx hb hml hown hts hE hP hD hS hA (sY_X11_token_1 NF l dC dI cy y0 r  v7 f8 w9 g10 hIv7 hCf8 hRf8 ) k_1579 k_1581 k_42 k_114 k_1582 hd_yX11_token ⟨Nat.le_of_ble_eq_true rfl, Nat.le_of_ble_eq_true rfl⟩ 0 11 rfl rfl (rfl) hl.1 rfl (Nat.le_of_ble_eq_true rfl) dX11_toldNumber_59 (fun u H locs hw hP hD hS => ?_)
          obtain ⟨hG18, hw⟩ := hw
          obtain ⟨v19, f20, w21, g22⟩ := u
          obtain ⟨kV_v19, kF_f20, hIv19, hCf20, hRf20, hk0_v19, hk1_v19, hk2_v19, hk4_v19, hk8_v19, hk9_v19, hk10_v19, hk13_v19, hk14_v19, hk15_v19, hk17_v19, hk18_v19, hk24_v19, hk25_v19, hk35_v19, hk36_v19, hk38_v19, hk39_v19, pv23, pv24, kq25, kq26, kq27⟩ := hw
          have hM_v19 : KV [1, 2, 3, 5, 6, 7] v19 v := KV.tr kV_v19 hM_v7 rfl
          have hA_f20 : KF [] f20 f := KF.tr kF_f20 hA_f8 rfl
          have hP : va_P (dC, dI) vwCl (YW cy y0 r v19 f20 w21 g22) H := hP
          have hD : va_D A (YW cy y0 r v19 f20 w21 g22) := hD
          have b3_v19 : 0 ≤ (v19 3).toInt ∧ (v19 3).toInt ≤ 1600 := Yb_3 hIv19.1
          have pv23 : (v7 3).toInt ≤ (v19 3).toInt := pv23
          have pv24 : (v19 5).toInt = (v7 5).toInt ∨ (v7 3).toInt < (v19 3).toInt ∨ ¬ (v19 5).toInt = 59 := pv24
          have hs2_f20 : f20 2 = (f 2) := kq25.trans hs2_f8
          have hs3_f20 : f20 3 = (f 3) := kq26.trans hs3_f8
          have hs6_f20 : f20 6 = (f 6) := kq27.trans hs6_f8
          have hUv19 : (v19 35).toInt + (v19 36).toInt ≤ 40 := hIv19.2
          have hq0_v19 : v19 0 = (v 0) := hk0_v19.trans hq0_v7
          have zq0_v19 := congrArg Int32.toInt hq0_v19
          try clear zq0_v7
          have hq1_v19 : v19 1 = (v7 1) := hk1_v19
          have zq1_v19 := congrArg Int32.toInt hq1_v19
          have hq8_v19 : v19 8 = (v 8) := hk8_v19.trans hq8_v7
          have zq8_v19 := congrArg Int32.toInt hq8_v19
          try clear zq8_v7
          have hq9_v19 : v19 9 = (v 9) := hk9_v19.trans hq9_v7
          have zq9_v19 := congrArg Int32.toInt hq9_v19
          try clear zq9_v7
          have hq10_v19 : v19 10 = (v 10) := hk10_v19.trans hq10_v7
          have zq10_v19 := congrArg Int32.toInt hq10_v19
          try clear zq10_v7
          have hq13_v19 : v19 13 = (v 13) := hk13_v19.trans hq13_v7
          have zq13_v19 := congrArg Int32.toInt hq13_v19
          try clear zq13_v7
          have hq14_v19 : v19 14 = (v 14) := hk14_v19.trans hq14_v7
          have zq14_v19 := congrArg Int32.toInt hq14_v19
          try clear zq14_v7
          have hq15_v19 : v19 15 = (v 15) := hk15_v19.trans hq15_v7
          have zq15_v19 := congrArg Int32.toInt hq15_v19
          try clear zq15_v7
          have hq17_v19 : v19 17 = (v 17) := hk17_v19.trans hq17_v7
          have zq17_v19 := congrArg Int32.toInt hq17_v19
          try clear zq17_v7
          have hq18_v19 : v19 18 = (v 18) := hk18_v19.trans hq18_v7
          have zq18_v19 := congrArg Int32.toInt hq18_v19
          try clear zq18_v7
          have hGR : GR (v 3).toInt (v 5).toInt (v19 3).toInt (v19 5).toInt := GR.tr hGR (show GR (v7 3).toInt (v7 5).toInt (v19 3).toInt (v19 5).toInt from ⟨pv23, pv24⟩) (by first | with_reducible rfl | with_reducible assumption | rfl | omega) (by first | with_reducible rfl | with_reducible assumption | rfl | omega)
          clear pv24
          refine lv_iload_n hx hb dX11_toldNumber_62 rfl (lv_at hl 0 rfl) ?_
          exact ret (v7 7) (v19, f20, w21, g22) _ _ _ _ _ _ rfl ⟨(gsY_X11_toldNumber_1_q1 c1 c2 c3 hG6 c17 hG18), hM_v19, hA_f20, hIv19, hCf20, hRf20, (hk0_v19.trans hk0_v7), (hk4_v19.trans hk4_v7), (hk8_v19.trans hk8_v7), (hk9_v19.trans hk9_v7), (hk10_v19.trans hk10_v7), (hk13_v19.trans hk13_v7), (hk14_v19.trans hk14_v7), (hk15_v19.trans hk15_v7), (hk17_v19.trans hk17_v7), (hk18_v19.trans hk18_v7), (hk24_v19.trans hk24_v7), (hk25_v19.trans hk25_v7), (hk35_v19.trans hk35_v7), (hk36_v19.trans hk36_v7), (hk38_v19.trans hk38_v7), (hk39_v19.trans hk39_v7), (by show (v 3).toInt ≤ (v19 3).toInt; exact (GR.cast hGR (by first | with_reducible rfl | with_reducible assumption | rfl | omega) (by first | with_reducible rfl | with_reducible assumption | rfl | omega)).1), (by show (v19 5).toInt = (v 5).toInt ∨ (v 3).toInt < (v19 3).toInt ∨ ¬ (v19 5).toInt = 59; exact (GR.cast hGR (by first | with_reducible rfl | with_reducible assumption | rfl | omega) (by first | with_reducible rfl | with_reducible assumption | rfl | omega)).2), hs2_f20, hs3_f20, hs6_f20⟩ hP hD hS dX11_toldNumber_63 (Nat.le_refl _) (Nat.le_refl _)
      · skip
        have zc3 : ¬ ((v 7).toInt < p1.toInt) := zLn rfl rfl c3
        have rg28 := fb_rng (v 7)
        have rg29 := fb_rng p1
        refine lv_aload_n hx hb dX11_toldNumber_33 rfl (lv_at hl 0 rfl) ?_
        refine va_get (D := (dC, dI)) (ci := 11) (v := .int (v 7)) (C := RX11) (T := TX11) (N := 79) hx hb hts inB_11 hown hE.1 hP 0 rfl rfl 8 (Nat.le_of_ble_eq_true rfl) (hts _ k_1328) (fun _ h9 => h9) rfl dX11_toldNumber_34 ?_
        refine lv_iload_n hx hb dX11_toldNumber_37 rfl (lv_at hl 2 rfl) ?_
        refine lv_icmp_le (tgt := 46) hx hb dX11_toldNumber_38 rfl (fun c30 => ?_) (fun c30 => ?_)
        · skip
          have zc30 : (v 7).toInt ≤ p2.toInt := zMp rfl rfl c30
          have rg31 := fb_rng p2
          refine lv_aload_n hx hb dX11_toldNumber_46 rfl (lv_at hl 0 rfl) ?_
          refine va_get (D := (dC, dI)) (ci := 11) (v := .int (v 7)) (C := RX11) (T := TX11) (N := 79) hx hb hts inB_11 hown hE.1 hP 0 rfl rfl 8 (Nat.le_of_ble_eq_true rfl) (hts _ k_1328) (fun _ h9 => h9) rfl dX11_toldNumber_47 ?_
          refine lv_istore_n (lv' := [(3, .int (v 7)), (0, .ref y0), (1, .int p1), (2, .int p2)]) hx hb dX11_toldNumber_50 rfl hl (Nat.le_of_ble_eq_true rfl) rfl (fun ls hl => ?_)
          refine lv_aload_n hx hb dX11_toldNumber_51 rfl (lv_at hl 1 rfl) ?_
          refine va_get (D := (dC, dI)) (ci := 11) (v := .int (v 1)) (C := RX11) (T := TX11) (N := 79) hx hb hts inB_11 hown hE.1 hP 0 rfl rfl 2 (Nat.le_of_ble_eq_true rfl) (hts _ k_1322) (fun _ h9 => h9) rfl dX11_toldNumber_52 ?_
          refine lv_if_ne (tgt := 62) hx hb dX11_toldNumber_55 rfl (fun c32 => ?_) (fun c32 => ?_)
          · skip
            have zc32 : ¬ ((v 1).toInt = 0) := zEn rfl tc_0 c32
            refine lv_iload_n hx hb dX11_toldNumber_62 rfl (lv_at hl 0 rfl) ?_
            exact ret (v 7) (v, f, w, g) _ _ _ _ _ _ rfl ⟨(gsY_X11_toldNumber_1_q2 c1 c2 c3 c30 c32), hM_v, hA_f, hIv, hCf, hRf, rfl, rfl, rfl, rfl, rfl, rfl, rfl, rfl, rfl, rfl, rfl, rfl, rfl, rfl, rfl, rfl, (by show (v 3).toInt ≤ (v 3).toInt; exact (GR.cast hGR (by first | with_reducible rfl | with_reducible assumption | rfl | omega) (by first | with_reducible rfl | with_reducible assumption | rfl | omega)).1), (by show (v 5).toInt = (v 5).toInt ∨ (v 3).toInt < (v 3).toInt ∨ ¬ (v 5).toInt = 59; exact (GR.cast hGR (by first | with_reducible rfl | with_reducible assumption | rfl | omega) (by first | with_reducible rfl | with_reducible assumption | rfl | omega)).2), rfl, rfl, rfl⟩ hP hD hS dX11_toldNumber_63 (Nat.le_refl _) (Nat.le_refl _)
          · skip
            have zc32 : (v 1).toInt = 0 := zEp rfl tc_0 c32
            refine lv_aload_n hx hb dX11_toldNumber_58 rfl (lv_at hl 1 rfl) ?_
            refine cbVv (n := 0) (rest := []) hx hb hml hown hts hE hP hD hS hA (sY_X11_token_1 NF l dC dI cy y0 r  v f w g hIv hCf hRf ) k_1579 k_1581 k_42 k_114 k_1582 hd_yX11_token ⟨Nat.le_of_ble_eq_true rfl, Nat.le_of_ble_eq_true rfl⟩ 0 11 rfl rfl (rfl) hl.1 rfl (Nat.le_of_ble_eq_true rfl) dX11_toldNumber_59 (fun u H locs hw hP hD hS => ?_)
            obtain ⟨hG33, hw⟩ := hw
            obtain ⟨v34, f35, w36, g37⟩ := u
            obtain ⟨kV_v34, kF_f35, hIv34, hCf35, hRf35, hk0_v34, hk1_v34, hk2_v34, hk4_v34, hk8_v34, hk9_v34, hk10_v34, hk13_v34, hk14_v34, hk15_v34, hk17_v34, hk18_v34, hk24_v34, hk25_v34, hk35_v34, hk36_v34, hk38_v34, hk39_v34, pv38, pv39, kq40, kq41, kq42⟩ := hw
            have hM_v34 : KV [1, 2, 3, 5, 6, 7] v34 v := KV.tr kV_v34 hM_v rfl
            have hA_f35 : KF [] f35 f := KF.tr kF_f35 hA_f rfl
            have hP : va_P (dC, dI) vwCl (YW cy y0 r v34 f35 w36 g37) H := hP
            have hD : va_D A (YW cy y0 r v34 f35 w36 g37) := hD
            have b3_v34 : 0 ≤ (v34 3).toInt ∧ (v34 3).toInt ≤ 1600 := Yb_3 hIv34.1
            have pv38 : (v 3).toInt ≤ (v34 3).toInt := pv38
            have pv39 : (v34 5).toInt = (v 5).toInt ∨ (v 3).toInt < (v34 3).toInt ∨ ¬ (v34 5).toInt = 59 := pv39
            have hs2_f35 : f35 2 = (f 2) := kq40
            have hs3_f35 : f35 3 = (f 3) := kq41
            have hs6_f35 : f35 6 = (f 6) := kq42
            have hUv34 : (v34 35).toInt + (v34 36).toInt ≤ 40 := hIv34.2
            have hq0_v34 : v34 0 = (v 0) := hk0_v34
            have zq0_v34 := congrArg Int32.toInt hq0_v34
            have hq1_v34 : v34 1 = (v 1) := hk1_v34
            have zq1_v34 := congrArg Int32.toInt hq1_v34
            have hq8_v34 : v34 8 = (v 8) := hk8_v34
            have zq8_v34 := congrArg Int32.toInt hq8_v34
            have hq9_v34 : v34 9 = (v 9) := hk9_v34
            have zq9_v34 := congrArg Int32.toInt hq9_v34
            have hq10_v34 : v34 10 = (v 10) := hk10_v34
            have zq10_v34 := congrArg Int32.toInt hq10_v34
            have hq13_v34 : v34 13 = (v 13) := hk13_v34
            have zq13_v34 := congrArg Int32.toInt hq13_v34
            have hq14_v34 : v34 14 = (v 14) := hk14_v34
            have zq14_v34 := congrArg Int32.toInt hq14_v34
            have hq15_v34 : v34 15 = (v 15) := hk15_v34
            have zq15_v34 := congrArg Int32.toInt hq15_v34
            have hq17_v34 : v34 17 = (v 17) := hk17_v34
            have zq17_v34 := congrArg Int32.toInt hq17_v34
            have hq18_v34 : v34 18 = (v 18) := hk18_v34
            have zq18_v34 := congrArg Int32.toInt hq18_v34
            have hGR : GR (v 3).toInt (v 5).toInt (v34 3).toInt (v34 5).toInt := GR.tr hGR (show GR (v 3).toInt (v 5).toInt (v34 3).toInt (v34 5).toInt from ⟨pv38, pv39⟩) (by first | with_reducible rfl | with_reducible assumption | rfl | omega) (by first | with_reducible rfl | with_reducible assumption | rfl | omega)
            clear pv39
            refine lv_iload_n hx hb dX11_toldNumber_62 rfl (lv_at hl 0 rfl) ?_
            exact ret (v 7) (v34, f35, w36, g37) _ _ _ _ _ _ rfl ⟨(gsY_X11_toldNumber_1_q3 c1 c2 c3 c30 c32 hG33), hM_v34, hA_f35, hIv34, hCf35, hRf35, hk0_v34, hk4_v34, hk8_v34, hk9_v34, hk10_v34, hk13_v34, hk14_v34, hk15_v34, hk17_v34, hk18_v34, hk24_v34, hk25_v34, hk35_v34, hk36_v34, hk38_v34, hk39_v34, (by show (v 3).toInt ≤ (v34 3).toInt; exact (GR.cast hGR (by first | with_reducible rfl | with_reducible assumption | rfl | omega) (by first | with_reducible rfl | with_reducible assumption | rfl | omega)).1), (by show (v34 5).toInt = (v 5).toInt ∨ (v 3).toInt < (v34 3).toInt ∨ ¬ (v34 5).toInt = 59; exact (GR.cast hGR (by first | with_reducible rfl | with_reducible assumption | rfl | omega) (by first | with_reducible rfl | with_reducible assumption | rfl | omega)).2), hs2_f35, hs3_f35, hs6_f35⟩ hP hD hS dX11_toldNumber_63 (Nat.le_refl _) (Nat.le_refl _)
        · skip
          have zc30 : ¬ ((v 7).toInt ≤ p2.toInt) := zMn rfl rfl c30
          have rg43 := fb_rng p2
          refine lv_aload_n hx hb dX11_toldNumber_41 rfl (lv_at hl 0 rfl) ?_
          refine lv_iconst (v := 4) hx hb dX11_toldNumber_42 rfl ?_
          refine cbVv (n := 1) (rest := []) hx hb hml hown hts hE hP hD hS hA (sY_X11_wrong_1 NF l dC dI cy y0 r 4 v f w g hIv hCf hRf ⟨by decide, by decide⟩) k_1641 k_1643 k_50 k_114 k_1644 hd_yX11_wrong ⟨Nat.le_of_ble_eq_true rfl, Nat.le_of_ble_eq_true rfl⟩ 0 11 rfl rfl (rfl) hl.1 rfl (Nat.le_of_ble_eq_true rfl) dX11_toldNumber_43 (fun u H locs hw hP hD hS => ?_)
          obtain ⟨hG44, hw⟩ := hw
          obtain ⟨v45, f46, w47, g48⟩ := u
          obtain ⟨kV_v45, kF_f46, hIv45, hCf46, hRf46, hk0_v45, hk3_v45, hk4_v45, hk5_v45, hk8_v45, hk9_v45, hk10_v45, hk13_v45, hk14_v45, hk15_v45, hk17_v45, hk18_v45, hk24_v45, hk25_v45, hk35_v45, hk36_v45, hk38_v45, hk39_v45, pv49, pv50, pv51, kq52, kq53, kq54⟩ := hw
          have hM_v45 : KV [1, 2, 3, 5, 6, 7] v45 v := KV.tr kV_v45 hM_v rfl
          have hA_f46 : KF [] f46 f := KF.tr kF_f46 hA_f rfl
          have hP : va_P (dC, dI) vwCl (YW cy y0 r v45 f46 w47 g48) H := hP
          have hD : va_D A (YW cy y0 r v45 f46 w47 g48) := hD
          have b3_v45 : 0 ≤ (v45 3).toInt ∧ (v45 3).toInt ≤ 1600 := Yb_3 hIv45.1
          have b1_v45 : 0 ≤ (v45 1).toInt ∧ (v45 1).toInt ≤ 4 := Yb_1 hIv45.1
          have pv49 : (v 3).toInt ≤ (v45 3).toInt := pv49
          have pv50 : (v45 5).toInt = (v 5).toInt ∨ (v 3).toInt < (v45 3).toInt ∨ ¬ (v45 5).toInt = 59 := pv50
          have pv51 : 0 < (v45 1).toInt := pv51
          have hs2_f46 : f46 2 = (f 2) := kq52
          have hs3_f46 : f46 3 = (f 3) := kq53
          have hs6_f46 : f46 6 = (f 6) := kq54
          have hUv45 : (v45 35).toInt + (v45 36).toInt ≤ 40 := hIv45.2
          have hq0_v45 : v45 0 = (v 0) := hk0_v45
          have zq0_v45 := congrArg Int32.toInt hq0_v45
          have hq3_v45 : v45 3 = (v 3) := hk3_v45
          have zq3_v45 := congrArg Int32.toInt hq3_v45
          have hq5_v45 : v45 5 = (v 5) := hk5_v45
          have zq5_v45 := congrArg Int32.toInt hq5_v45
          have hq8_v45 : v45 8 = (v 8) := hk8_v45
          have zq8_v45 := congrArg Int32.toInt hq8_v45
          have hq9_v45 : v45 9 = (v 9) := hk9_v45
          have zq9_v45 := congrArg Int32.toInt hq9_v45
          have hq10_v45 : v45 10 = (v 10) := hk10_v45
          have zq10_v45 := congrArg Int32.toInt hq10_v45
          have hq13_v45 : v45 13 = (v 13) := hk13_v45
          have zq13_v45 := congrArg Int32.toInt hq13_v45
          have hq14_v45 : v45 14 = (v 14) := hk14_v45
          have zq14_v45 := congrArg Int32.toInt hq14_v45
          have hq15_v45 : v45 15 = (v 15) := hk15_v45
          have zq15_v45 := congrArg Int32.toInt hq15_v45
          have hq17_v45 : v45 17 = (v 17) := hk17_v45
          have zq17_v45 := congrArg Int32.toInt hq17_v45
          have hq18_v45 : v45 18 = (v 18) := hk18_v45
          have zq18_v45 := congrArg Int32.toInt hq18_v45
          have hGR : GR (v 3).toInt (v 5).toInt (v45 3).toInt (v45 5).toInt := GR.tr hGR (show GR (v 3).toInt (v 5).toInt (v45 3).toInt (v45 5).toInt from ⟨pv49, pv50⟩) (by first | with_reducible rfl | with_reducible assumption | rfl | omega) (by first | with_reducible rfl | with_reducible assumption | rfl | omega)
          clear pv50
          refine lv_aload_n hx hb dX11_toldNumber_46 rfl (lv_at hl 0 rfl) ?_
          refine va_get (D := (dC, dI)) (ci := 11) (v := .int (v45 7)) (C := RX11) (T := TX11) (N := 79) hx hb hts inB_11 hown hE.1 hP 0 rfl rfl 8 (Nat.le_of_ble_eq_true rfl) (hts _ k_1328) (fun _ h9 => h9) rfl dX11_toldNumber_47 ?_
          refine lv_istore_n (lv' := [(3, .int (v45 7)), (0, .ref y0), (1, .int p1), (2, .int p2)]) hx hb dX11_toldNumber_50 rfl hl (Nat.le_of_ble_eq_true rfl) rfl (fun ls hl => ?_)
          refine lv_aload_n hx hb dX11_toldNumber_51 rfl (lv_at hl 1 rfl) ?_
          refine va_get (D := (dC, dI)) (ci := 11) (v := .int (v45 1)) (C := RX11) (T := TX11) (N := 79) hx hb hts inB_11 hown hE.1 hP 0 rfl rfl 2 (Nat.le_of_ble_eq_true rfl) (hts _ k_1322) (fun _ h9 => h9) rfl dX11_toldNumber_52 ?_
          have b1_v45 : 0 ≤ (v45 1).toInt ∧ (v45 1).toInt ≤ 4 := Yb_1 hIv45.1
          refine lv_if_ne (tgt := 62) hx hb dX11_toldNumber_55 rfl (fun c55 => ?_) (fun c55 => ?_)
          · skip
            have zc55 : ¬ ((v45 1).toInt = 0) := zEn rfl tc_0 c55
            refine lv_iload_n hx hb dX11_toldNumber_62 rfl (lv_at hl 0 rfl) ?_
            exact ret (v45 7) (v45, f46, w47, g48) _ _ _ _ _ _ rfl ⟨(gsY_X11_toldNumber_1_q4 c1 c2 c3 c30 hG44 c55), hM_v45, hA_f46, hIv45, hCf46, hRf46, hk0_v45, hk4_v45, hk8_v45, hk9_v45, hk10_v45, hk13_v45, hk14_v45, hk15_v45, hk17_v45, hk18_v45, hk24_v45, hk25_v45, hk35_v45, hk36_v45, hk38_v45, hk39_v45, (by show (v 3).toInt ≤ (v45 3).toInt; exact (GR.cast hGR (by first | with_reducible rfl | with_reducible assumption | rfl | omega) (by first | with_reducible rfl | with_reducible assumption | rfl | omega)).1), (by show (v45 5).toInt = (v 5).toInt ∨ (v 3).toInt < (v45 3).toInt ∨ ¬ (v45 5).toInt = 59; exact (GR.cast hGR (by first | with_reducible rfl | with_reducible assumption | rfl | omega) (by first | with_reducible rfl | with_reducible assumption | rfl | omega)).2), hs2_f46, hs3_f46, hs6_f46⟩ hP hD hS dX11_toldNumber_63 (Nat.le_refl _) (Nat.le_refl _)
          · skip
            have zc55 : (v45 1).toInt = 0 := zEp rfl tc_0 c55
            refine lv_aload_n hx hb dX11_toldNumber_58 rfl (lv_at hl 1 rfl) ?_
            refine cbVv (n := 0) (rest := []) hx hb hml hown hts hE hP hD hS hA (sY_X11_token_1 NF l dC dI cy y0 r  v45 f46 w47 g48 hIv45 hCf46 hRf46 ) k_1579 k_1581 k_42 k_114 k_1582 hd_yX11_token ⟨Nat.le_of_ble_eq_true rfl, Nat.le_of_ble_eq_true rfl⟩ 0 11 rfl rfl (rfl) hl.1 rfl (Nat.le_of_ble_eq_true rfl) dX11_toldNumber_59 (fun u H locs hw hP hD hS => ?_)
            obtain ⟨hG56, hw⟩ := hw
            obtain ⟨v57, f58, w59, g60⟩ := u
            obtain ⟨kV_v57, kF_f58, hIv57, hCf58, hRf58, hk0_v57, hk1_v57, hk2_v57, hk4_v57, hk8_v57, hk9_v57, hk10_v57, hk13_v57, hk14_v57, hk15_v57, hk17_v57, hk18_v57, hk24_v57, hk25_v57, hk35_v57, hk36_v57, hk38_v57, hk39_v57, pv61, pv62, kq63, kq64, kq65⟩ := hw
            have hM_v57 : KV [1, 2, 3, 5, 6, 7] v57 v := KV.tr kV_v57 hM_v45 rfl
            have hA_f58 : KF [] f58 f := KF.tr kF_f58 hA_f46 rfl
            have hP : va_P (dC, dI) vwCl (YW cy y0 r v57 f58 w59 g60) H := hP
            have hD : va_D A (YW cy y0 r v57 f58 w59 g60) := hD
            have b3_v57 : 0 ≤ (v57 3).toInt ∧ (v57 3).toInt ≤ 1600 := Yb_3 hIv57.1
            have pv61 : (v45 3).toInt ≤ (v57 3).toInt := pv61
            have pv62 : (v57 5).toInt = (v45 5).toInt ∨ (v45 3).toInt < (v57 3).toInt ∨ ¬ (v57 5).toInt = 59 := pv62
            have hs2_f58 : f58 2 = (f 2) := kq63.trans hs2_f46
            have hs3_f58 : f58 3 = (f 3) := kq64.trans hs3_f46
            have hs6_f58 : f58 6 = (f 6) := kq65.trans hs6_f46
            have hUv57 : (v57 35).toInt + (v57 36).toInt ≤ 40 := hIv57.2
            have hq0_v57 : v57 0 = (v 0) := hk0_v57.trans hq0_v45
            have zq0_v57 := congrArg Int32.toInt hq0_v57
            try clear zq0_v45
            have hq1_v57 : v57 1 = (v45 1) := hk1_v57
            have zq1_v57 := congrArg Int32.toInt hq1_v57
            have hq8_v57 : v57 8 = (v 8) := hk8_v57.trans hq8_v45
            have zq8_v57 := congrArg Int32.toInt hq8_v57
            try clear zq8_v45
            have hq9_v57 : v57 9 = (v 9) := hk9_v57.trans hq9_v45
            have zq9_v57 := congrArg Int32.toInt hq9_v57
            try clear zq9_v45
            have hq10_v57 : v57 10 = (v 10) := hk10_v57.trans hq10_v45
            have zq10_v57 := congrArg Int32.toInt hq10_v57
            try clear zq10_v45
            have hq13_v57 : v57 13 = (v 13) := hk13_v57.trans hq13_v45
            have zq13_v57 := congrArg Int32.toInt hq13_v57
            try clear zq13_v45
            have hq14_v57 : v57 14 = (v 14) := hk14_v57.trans hq14_v45
            have zq14_v57 := congrArg Int32.toInt hq14_v57
            try clear zq14_v45
            have hq15_v57 : v57 15 = (v 15) := hk15_v57.trans hq15_v45
            have zq15_v57 := congrArg Int32.toInt hq15_v57
            try clear zq15_v45
            have hq17_v57 : v57 17 = (v 17) := hk17_v57.trans hq17_v45
            have zq17_v57 := congrArg Int32.toInt hq17_v57
            try clear zq17_v45
            have hq18_v57 : v57 18 = (v 18) := hk18_v57.trans hq18_v45
            have zq18_v57 := congrArg Int32.toInt hq18_v57
            try clear zq18_v45
            have hGR : GR (v 3).toInt (v 5).toInt (v57 3).toInt (v57 5).toInt := GR.tr hGR (show GR (v45 3).toInt (v45 5).toInt (v57 3).toInt (v57 5).toInt from ⟨pv61, pv62⟩) (by first | with_reducible rfl | with_reducible assumption | rfl | omega) (by first | with_reducible rfl | with_reducible assumption | rfl | omega)
            clear pv62
            refine lv_iload_n hx hb dX11_toldNumber_62 rfl (lv_at hl 0 rfl) ?_
            exact ret (v45 7) (v57, f58, w59, g60) _ _ _ _ _ _ rfl ⟨(gsY_X11_toldNumber_1_q5 c1 c2 c3 c30 hG44 c55 hG56), hM_v57, hA_f58, hIv57, hCf58, hRf58, (hk0_v57.trans hk0_v45), (hk4_v57.trans hk4_v45), (hk8_v57.trans hk8_v45), (hk9_v57.trans hk9_v45), (hk10_v57.trans hk10_v45), (hk13_v57.trans hk13_v45), (hk14_v57.trans hk14_v45), (hk15_v57.trans hk15_v45), (hk17_v57.trans hk17_v45), (hk18_v57.trans hk18_v45), (hk24_v57.trans hk24_v45), (hk25_v57.trans hk25_v45), (hk35_v57.trans hk35_v45), (hk36_v57.trans hk36_v45), (hk38_v57.trans hk38_v45), (hk39_v57.trans hk39_v45), (by show (v 3).toInt ≤ (v57 3).toInt; exact (GR.cast hGR (by first | with_reducible rfl | with_reducible assumption | rfl | omega) (by first | with_reducible rfl | with_reducible assumption | rfl | omega)).1), (by show (v57 5).toInt = (v 5).toInt ∨ (v 3).toInt < (v57 3).toInt ∨ ¬ (v57 5).toInt = 59; exact (GR.cast hGR (by first | with_reducible rfl | with_reducible assumption | rfl | omega) (by first | with_reducible rfl | with_reducible assumption | rfl | omega)).2), hs2_f58, hs3_f58, hs6_f58⟩ hP hD hS dX11_toldNumber_63 (Nat.le_refl _) (Nat.le_refl _)
    · skip
      have zc2 : ¬ ((v 5).toInt = 2) := zEn rfl tc_2 c2
      refine lv_aload_n hx hb dX11_toldNumber_17 rfl (lv_at hl 0 rfl) ?_
      refine lv_iconst (v := 2) hx hb dX11_toldNumber_18 rfl ?_
      refine cbVv (n := 1) (rest := []) hx hb hml hown hts hE hP hD hS hA (sY_X11_wrong_1 NF l dC dI cy y0 r 2 v f w g hIv hCf hRf ⟨by decide, by decide⟩) k_1641 k_1643 k_50 k_114 k_1644 hd_yX11_wrong ⟨Nat.le_of_ble_eq_true rfl, Nat.le_of_ble_eq_true rfl⟩ 0 11 rfl rfl (rfl) hl.1 rfl (Nat.le_of_ble_eq_true rfl) dX11_toldNumber_19 (fun u H locs hw hP hD hS => ?_)
      obtain ⟨hG66, hw⟩ := hw
      obtain ⟨v67, f68, w69, g70⟩ := u
      obtain ⟨kV_v67, kF_f68, hIv67, hCf68, hRf68, hk0_v67, hk3_v67, hk4_v67, hk5_v67, hk8_v67, hk9_v67, hk10_v67, hk13_v67, hk14_v67, hk15_v67, hk17_v67, hk18_v67, hk24_v67, hk25_v67, hk35_v67, hk36_v67, hk38_v67, hk39_v67, pv71, pv72, pv73, kq74, kq75, kq76⟩ := hw
      have hM_v67 : KV [1, 2, 3, 5, 6, 7] v67 v := KV.tr kV_v67 hM_v rfl
      have hA_f68 : KF [] f68 f := KF.tr kF_f68 hA_f rfl
      have hP : va_P (dC, dI) vwCl (YW cy y0 r v67 f68 w69 g70) H := hP
      have hD : va_D A (YW cy y0 r v67 f68 w69 g70) := hD
      have b3_v67 : 0 ≤ (v67 3).toInt ∧ (v67 3).toInt ≤ 1600 := Yb_3 hIv67.1
      have b1_v67 : 0 ≤ (v67 1).toInt ∧ (v67 1).toInt ≤ 4 := Yb_1 hIv67.1
      have pv71 : (v 3).toInt ≤ (v67 3).toInt := pv71
      have pv72 : (v67 5).toInt = (v 5).toInt ∨ (v 3).toInt < (v67 3).toInt ∨ ¬ (v67 5).toInt = 59 := pv72
      have pv73 : 0 < (v67 1).toInt := pv73
      have hs2_f68 : f68 2 = (f 2) := kq74
      have hs3_f68 : f68 3 = (f 3) := kq75
      have hs6_f68 : f68 6 = (f 6) := kq76
      have hUv67 : (v67 35).toInt + (v67 36).toInt ≤ 40 := hIv67.2
      have hq0_v67 : v67 0 = (v 0) := hk0_v67
      have zq0_v67 := congrArg Int32.toInt hq0_v67
      have hq3_v67 : v67 3 = (v 3) := hk3_v67
      have zq3_v67 := congrArg Int32.toInt hq3_v67
      have hq5_v67 : v67 5 = (v 5) := hk5_v67
      have zq5_v67 := congrArg Int32.toInt hq5_v67
      have hq8_v67 : v67 8 = (v 8) := hk8_v67
      have zq8_v67 := congrArg Int32.toInt hq8_v67
      have hq9_v67 : v67 9 = (v 9) := hk9_v67
      have zq9_v67 := congrArg Int32.toInt hq9_v67
      have hq10_v67 : v67 10 = (v 10) := hk10_v67
      have zq10_v67 := congrArg Int32.toInt hq10_v67
      have hq13_v67 : v67 13 = (v 13) := hk13_v67
      have zq13_v67 := congrArg Int32.toInt hq13_v67
      have hq14_v67 : v67 14 = (v 14) := hk14_v67
      have zq14_v67 := congrArg Int32.toInt hq14_v67
      have hq15_v67 : v67 15 = (v 15) := hk15_v67
      have zq15_v67 := congrArg Int32.toInt hq15_v67
      have hq17_v67 : v67 17 = (v 17) := hk17_v67
      have zq17_v67 := congrArg Int32.toInt hq17_v67
      have hq18_v67 : v67 18 = (v 18) := hk18_v67
      have zq18_v67 := congrArg Int32.toInt hq18_v67
      have hGR : GR (v 3).toInt (v 5).toInt (v67 3).toInt (v67 5).toInt := GR.tr hGR (show GR (v 3).toInt (v 5).toInt (v67 3).toInt (v67 5).toInt from ⟨pv71, pv72⟩) (by first | with_reducible rfl | with_reducible assumption | rfl | omega) (by first | with_reducible rfl | with_reducible assumption | rfl | omega)
      clear pv72
      refine lv_goto (tgt := 46) hx hb dX11_toldNumber_22 rfl ?_
      refine lv_aload_n hx hb dX11_toldNumber_46 rfl (lv_at hl 0 rfl) ?_
      refine va_get (D := (dC, dI)) (ci := 11) (v := .int (v67 7)) (C := RX11) (T := TX11) (N := 79) hx hb hts inB_11 hown hE.1 hP 0 rfl rfl 8 (Nat.le_of_ble_eq_true rfl) (hts _ k_1328) (fun _ h9 => h9) rfl dX11_toldNumber_47 ?_
      refine lv_istore_n (lv' := [(3, .int (v67 7)), (0, .ref y0), (1, .int p1), (2, .int p2)]) hx hb dX11_toldNumber_50 rfl hl (Nat.le_of_ble_eq_true rfl) rfl (fun ls hl => ?_)
      refine lv_aload_n hx hb dX11_toldNumber_51 rfl (lv_at hl 1 rfl) ?_
      refine va_get (D := (dC, dI)) (ci := 11) (v := .int (v67 1)) (C := RX11) (T := TX11) (N := 79) hx hb hts inB_11 hown hE.1 hP 0 rfl rfl 2 (Nat.le_of_ble_eq_true rfl) (hts _ k_1322) (fun _ h9 => h9) rfl dX11_toldNumber_52 ?_
      have b1_v67 : 0 ≤ (v67 1).toInt ∧ (v67 1).toInt ≤ 4 := Yb_1 hIv67.1
      refine lv_if_ne (tgt := 62) hx hb dX11_toldNumber_55 rfl (fun c77 => ?_) (fun c77 => ?_)
      · skip
        have zc77 : ¬ ((v67 1).toInt = 0) := zEn rfl tc_0 c77
        refine lv_iload_n hx hb dX11_toldNumber_62 rfl (lv_at hl 0 rfl) ?_
        exact ret (v67 7) (v67, f68, w69, g70) _ _ _ _ _ _ rfl ⟨(gsY_X11_toldNumber_1_q6 c1 c2 hG66 c77), hM_v67, hA_f68, hIv67, hCf68, hRf68, hk0_v67, hk4_v67, hk8_v67, hk9_v67, hk10_v67, hk13_v67, hk14_v67, hk15_v67, hk17_v67, hk18_v67, hk24_v67, hk25_v67, hk35_v67, hk36_v67, hk38_v67, hk39_v67, (by show (v 3).toInt ≤ (v67 3).toInt; exact (GR.cast hGR (by first | with_reducible rfl | with_reducible assumption | rfl | omega) (by first | with_reducible rfl | with_reducible assumption | rfl | omega)).1), (by show (v67 5).toInt = (v 5).toInt ∨ (v 3).toInt < (v67 3).toInt ∨ ¬ (v67 5).toInt = 59; exact (GR.cast hGR (by first | with_reducible rfl | with_reducible assumption | rfl | omega) (by first | with_reducible rfl | with_reducible assumption | rfl | omega)).2), hs2_f68, hs3_f68, hs6_f68⟩ hP hD hS dX11_toldNumber_63 (Nat.le_refl _) (Nat.le_refl _)
      · skip
        have zc77 : (v67 1).toInt = 0 := zEp rfl tc_0 c77
        refine lv_aload_n hx hb dX11_toldNumber_58 rfl (lv_at hl 1 rfl) ?_
        refine cbVv (n := 0) (rest := []) hx hb hml hown hts hE hP hD hS hA (sY_X11_token_1 NF l dC dI cy y0 r  v67 f68 w69 g70 hIv67 hCf68 hRf68 ) k_1579 k_1581 k_42 k_114 k_1582 hd_yX11_token ⟨Nat.le_of_ble_eq_true rfl, Nat.le_of_ble_eq_true rfl⟩ 0 11 rfl rfl (rfl) hl.1 rfl (Nat.le_of_ble_eq_true rfl) dX11_toldNumber_59 (fun u H locs hw hP hD hS => ?_)
        obtain ⟨hG78, hw⟩ := hw
        obtain ⟨v79, f80, w81, g82⟩ := u
        obtain ⟨kV_v79, kF_f80, hIv79, hCf80, hRf80, hk0_v79, hk1_v79, hk2_v79, hk4_v79, hk8_v79, hk9_v79, hk10_v79, hk13_v79, hk14_v79, hk15_v79, hk17_v79, hk18_v79, hk24_v79, hk25_v79, hk35_v79, hk36_v79, hk38_v79, hk39_v79, pv83, pv84, kq85, kq86, kq87⟩ := hw
        have hM_v79 : KV [1, 2, 3, 5, 6, 7] v79 v := KV.tr kV_v79 hM_v67 rfl
        have hA_f80 : KF [] f80 f := KF.tr kF_f80 hA_f68 rfl
        have hP : va_P (dC, dI) vwCl (YW cy y0 r v79 f80 w81 g82) H := hP
        have hD : va_D A (YW cy y0 r v79 f80 w81 g82) := hD
        have b3_v79 : 0 ≤ (v79 3).toInt ∧ (v79 3).toInt ≤ 1600 := Yb_3 hIv79.1
        have pv83 : (v67 3).toInt ≤ (v79 3).toInt := pv83
        have pv84 : (v79 5).toInt = (v67 5).toInt ∨ (v67 3).toInt < (v79 3).toInt ∨ ¬ (v79 5).toInt = 59 := pv84
        have hs2_f80 : f80 2 = (f 2) := kq85.trans hs2_f68
        have hs3_f80 : f80 3 = (f 3) := kq86.trans hs3_f68
        have hs6_f80 : f80 6 = (f 6) := kq87.trans hs6_f68
        have hUv79 : (v79 35).toInt + (v79 36).toInt ≤ 40 := hIv79.2
        have hq0_v79 : v79 0 = (v 0) := hk0_v79.trans hq0_v67
        have zq0_v79 := congrArg Int32.toInt hq0_v79
        try clear zq0_v67
        have hq1_v79 : v79 1 = (v67 1) := hk1_v79
        have zq1_v79 := congrArg Int32.toInt hq1_v79
        have hq8_v79 : v79 8 = (v 8) := hk8_v79.trans hq8_v67
        have zq8_v79 := congrArg Int32.toInt hq8_v79
        try clear zq8_v67
        have hq9_v79 : v79 9 = (v 9) := hk9_v79.trans hq9_v67
        have zq9_v79 := congrArg Int32.toInt hq9_v79
        try clear zq9_v67
        have hq10_v79 : v79 10 = (v 10) := hk10_v79.trans hq10_v67
        have zq10_v79 := congrArg Int32.toInt hq10_v79
        try clear zq10_v67
        have hq13_v79 : v79 13 = (v 13) := hk13_v79.trans hq13_v67
        have zq13_v79 := congrArg Int32.toInt hq13_v79
        try clear zq13_v67
        have hq14_v79 : v79 14 = (v 14) := hk14_v79.trans hq14_v67
        have zq14_v79 := congrArg Int32.toInt hq14_v79
        try clear zq14_v67
        have hq15_v79 : v79 15 = (v 15) := hk15_v79.trans hq15_v67
        have zq15_v79 := congrArg Int32.toInt hq15_v79
        try clear zq15_v67
        have hq17_v79 : v79 17 = (v 17) := hk17_v79.trans hq17_v67
        have zq17_v79 := congrArg Int32.toInt hq17_v79
        try clear zq17_v67
        have hq18_v79 : v79 18 = (v 18) := hk18_v79.trans hq18_v67
        have zq18_v79 := congrArg Int32.toInt hq18_v79
        try clear zq18_v67
        have hGR : GR (v 3).toInt (v 5).toInt (v79 3).toInt (v79 5).toInt := GR.tr hGR (show GR (v67 3).toInt (v67 5).toInt (v79 3).toInt (v79 5).toInt from ⟨pv83, pv84⟩) (by first | with_reducible rfl | with_reducible assumption | rfl | omega) (by first | with_reducible rfl | with_reducible assumption | rfl | omega)
        clear pv84
        refine lv_iload_n hx hb dX11_toldNumber_62 rfl (lv_at hl 0 rfl) ?_
        exact ret (v67 7) (v79, f80, w81, g82) _ _ _ _ _ _ rfl ⟨(gsY_X11_toldNumber_1_q7 c1 c2 hG66 c77 hG78), hM_v79, hA_f80, hIv79, hCf80, hRf80, (hk0_v79.trans hk0_v67), (hk4_v79.trans hk4_v67), (hk8_v79.trans hk8_v67), (hk9_v79.trans hk9_v67), (hk10_v79.trans hk10_v67), (hk13_v79.trans hk13_v67), (hk14_v79.trans hk14_v67), (hk15_v79.trans hk15_v67), (hk17_v79.trans hk17_v67), (hk18_v79.trans hk18_v67), (hk24_v79.trans hk24_v67), (hk25_v79.trans hk25_v67), (hk35_v79.trans hk35_v67), (hk36_v79.trans hk36_v67), (hk38_v79.trans hk38_v67), (hk39_v79.trans hk39_v67), (by show (v 3).toInt ≤ (v79 3).toInt; exact (GR.cast hGR (by first | with_reducible rfl | with_reducible assumption | rfl | omega) (by first | with_reducible rfl | with_reducible assumption | rfl | omega)).1), (by show (v79 5).toInt = (v 5).toInt ∨ (v 3).toInt < (v79 3).toInt ∨ ¬ (v79 5).toInt = 59; exact (GR.cast hGR (by first | with_reducible rfl | with_reducible assumption | rfl | omega) (by first | with_reducible rfl | with_reducible assumption | rfl | omega)).2), hs2_f80, hs3_f80, hs6_f80⟩ hP hD hS dX11_toldNumber_63 (Nat.le_refl _) (Nat.le_refl _)
  · skip
    have zc1 : ¬ ((v 1).toInt ≤ 0) := zMn rfl tc_0 c1
    refine lv_iconst (v := 0) hx hb dX11_toldNumber_7 rfl ?_
    exact ret 0 (v, f, w, g) _ _ _ _ _ _ rfl ⟨(gsY_X11_toldNumber_1_q8 c1), hM_v, hA_f, hIv, hCf, hRf, rfl, rfl, rfl, rfl, rfl, rfl, rfl, rfl, rfl, rfl, rfl, rfl, rfl, rfl, rfl, rfl, (by show (v 3).toInt ≤ (v 3).toInt; exact (GR.cast hGR (by first | with_reducible rfl | with_reducible assumption | rfl | omega) (by first | with_reducible rfl | with_reducible assumption | rfl | omega)).1), (by show (v 5).toInt = (v 5).toInt ∨ (v 3).toInt < (v 3).toInt ∨ ¬ (v 5).toInt = 59; exact (GR.cast hGR (by first | with_reducible rfl | with_reducible assumption | rfl | omega) (by first | with_reducible rfl | with_reducible assumption | rfl | omega)).2), rfl, rfl, rfl⟩ hP hD hS dX11_toldNumber_8 (Nat.le_refl _) (Nat.le_refl _)
set_option maxHeartbeats 4000000 in
set_option maxRecDepth 100000 in
theorem sY_X11_told_1 (NF : Nat) (l : Launch) (dC : Nat → ClassId) (dI : Nat → Nat → Nat) (cy : Nat → ClassId) (y0 : Nat) (r : Nat → Nat) (j1 : Int64) (p2 : Int32) (v : Nat → Int32) (f : Nat → Nat → Int32) (w : Int64) (g : Nat → Int64) (hIv : YI v) (hCf : YC f) (hRf : progOK (f 4) (f 5) (v 9).toInt.toNat)  : ctI l (dC, dI) cy yX11_told cX11_told 4 .int 4 126 0 0 ((Nat → Int32) × (Nat → Nat → Int32) × (Int64) × (Nat → Int64)) [.ref y0, .long j1, .int p2] (YW cy y0 r v f w g) (fun r u => gsY_X11_told_1 NF j1 p2 v f w g = (r, u) ∧ KV [1, 2, 3, 5, 6, 7] u.1 v ∧ KF [] u.2.1 f ∧ YI u.1 ∧ YC u.2.1 ∧ progOK (u.2.1 4) (u.2.1 5) (u.1 9).toInt.toNat ∧ u.1 0 = v 0 ∧ u.1 4 = v 4 ∧ u.1 8 = v 8 ∧ u.1 9 = v 9 ∧ u.1 10 = v 10 ∧ u.1 13 = v 13 ∧ u.1 14 = v 14 ∧ u.1 15 = v 15 ∧ u.1 17 = v 17 ∧ u.1 18 = v 18 ∧ u.1 24 = v 24 ∧ u.1 25 = v 25 ∧ u.1 35 = v 35 ∧ u.1 36 = v 36 ∧ u.1 38 = v 38 ∧ u.1 39 = v 39 ∧ ((v 3).toInt ≤ (u.1 3).toInt) ∧ ((u.1 5).toInt = (v 5).toInt ∨ (v 3).toInt < (u.1 3).toInt ∨ ¬ (u.1 5).toInt = 59) ∧ u.2.1 2 = f 2 ∧ u.2.1 3 = f 3 ∧ u.2.1 6 = f 6) (fun u => YW cy y0 r u.1 u.2.1 u.2.2.1 u.2.2.2) := by
  refine ctI_of (by decide) (Nat.le_of_ble_eq_true rfl) (fun p e s m below meth c A ls Q hx hb hml hts hown hE hP hD hA hl ret => ?_)
  have hUv : (v 35).toInt + (v 36).toInt ≤ 40 := hIv.2
  have hM_v : KV [1, 2, 3, 5, 6, 7] v v := fun _ _ => rfl
  have hA_f : KF [] f f := fun _ _ => rfl
  have b0_v : (0 : Int) ≤ (v 0).toInt ∧ (v 0).toInt ≤ 1600 := Yb_0 hIv.1
  have b1_v : (0 : Int) ≤ (v 1).toInt ∧ (v 1).toInt ≤ 4 := Yb_1 hIv.1
  have b8_v : (0 : Int) ≤ (v 8).toInt ∧ (v 8).toInt ≤ 320 := Yb_8 hIv.1
  have b10_v : (0 : Int) ≤ (v 10).toInt ∧ (v 10).toInt ≤ 160 := Yb_10 hIv.1
  have b13_v : (0 : Int) ≤ (v 13).toInt ∧ (v 13).toInt ≤ 31 := Yb_13 hIv.1
  have b14_v : (0 : Int) ≤ (v 14).toInt ∧ (v 14).toInt ≤ 8 := Yb_14 hIv.1
  have b15_v : (0 : Int) ≤ (v 15).toInt ∧ (v 15).toInt ≤ 1 := Yb_15 hIv.1
  have b17_v : (0 : Int) ≤ (v 17).toInt ∧ (v 17).toInt ≤ 6 := Yb_17 hIv.1
  have b18_v : (0 : Int) ≤ (v 18).toInt ∧ (v 18).toInt ≤ 6 := Yb_18 hIv.1
  have hGR : GR (v 3).toInt (v 5).toInt (v 3).toInt (v 5).toInt := GR.refl _ _
  have hown : s.vm.findClass RX11 = some m.cls := hown
  have hS : va_S A s.heap s.heap [] := va_S.rf
  have hl : lv_has ls 4 [(0, .ref y0), (1, .long j1), (3, .int p2)] := hl
  refine lv_aload_n hx hb dX11_told_0 rfl (lv_at hl 0 rfl) ?_
  refine lv_lload_n hx hb dX11_told_1 rfl (lv_at hl 1 rfl) ?_
  refine cbVv (n := 1) (rest := []) hx hb hml hown hts hE hP hD hS hA (sY_X11_want_1 NF l dC dI cy y0 r j1 v f w g hIv hCf hRf ) k_1649 k_1651 k_52 k_114 k_1652 hd_yX11_want ⟨Nat.le_of_ble_eq_true rfl, Nat.le_of_ble_eq_true rfl⟩ 0 11 rfl rfl (rfl) hl.1 rfl (Nat.le_of_ble_eq_true rfl) dX11_told_2 (fun u H locs hw hP hD hS => ?_)
  obtain ⟨hG1, hw⟩ := hw
  obtain ⟨v2, f3, w4, g5⟩ := u
  obtain ⟨kV_v2, kF_f3, hIv2, hCf3, hRf3, hk0_v2, hk4_v2, hk8_v2, hk9_v2, hk10_v2, hk13_v2, hk14_v2, hk15_v2, hk17_v2, hk18_v2, hk24_v2, hk25_v2, hk35_v2, hk36_v2, hk38_v2, hk39_v2, pv6, pv7, kq8, kq9, kq10⟩ := hw
  have hM_v2 : KV [1, 2, 3, 5, 6, 7] v2 v := KV.tr kV_v2 hM_v rfl
  have hA_f3 : KF [] f3 f := KF.tr kF_f3 hA_f rfl
  have hP : va_P (dC, dI) vwCl (YW cy y0 r v2 f3 w4 g5) H := hP
  have hD : va_D A (YW cy y0 r v2 f3 w4 g5) := hD
  have b3_v2 : 0 ≤ (v2 3).toInt ∧ (v2 3).toInt ≤ 1600 := Yb_3 hIv2.1
  have pv6 : (v 3).toInt ≤ (v2 3).toInt := pv6
  have pv7 : (v2 5).toInt = (v 5).toInt ∨ (v 3).toInt < (v2 3).toInt ∨ ¬ (v2 5).toInt = 59 := pv7
  have hs2_f3 : f3 2 = (f 2) := kq8
  have hs3_f3 : f3 3 = (f 3) := kq9
  have hs6_f3 : f3 6 = (f 6) := kq10
  have hUv2 : (v2 35).toInt + (v2 36).toInt ≤ 40 := hIv2.2
  have hq0_v2 : v2 0 = (v 0) := hk0_v2
  have zq0_v2 := congrArg Int32.toInt hq0_v2
  have hq8_v2 : v2 8 = (v 8) := hk8_v2
  have zq8_v2 := congrArg Int32.toInt hq8_v2
  have hq9_v2 : v2 9 = (v 9) := hk9_v2
  have zq9_v2 := congrArg Int32.toInt hq9_v2
  have hq10_v2 : v2 10 = (v 10) := hk10_v2
  have zq10_v2 := congrArg Int32.toInt hq10_v2
  have hq13_v2 : v2 13 = (v 13) := hk13_v2
  have zq13_v2 := congrArg Int32.toInt hq13_v2
  have hq14_v2 : v2 14 = (v 14) := hk14_v2
  have zq14_v2 := congrArg Int32.toInt hq14_v2
  have hq15_v2 : v2 15 = (v 15) := hk15_v2
  have zq15_v2 := congrArg Int32.toInt hq15_v2
  have hq17_v2 : v2 17 = (v 17) := hk17_v2
  have zq17_v2 := congrArg Int32.toInt hq17_v2
  have hq18_v2 : v2 18 = (v 18) := hk18_v2
  have zq18_v2 := congrArg Int32.toInt hq18_v2
  have hGR : GR (v 3).toInt (v 5).toInt (v2 3).toInt (v2 5).toInt := GR.tr hGR (show GR (v 3).toInt (v 5).toInt (v2 3).toInt (v2 5).toInt from ⟨pv6, pv7⟩) (by first | with_reducible rfl | with_reducible assumption | rfl | omega) (by first | with_reducible rfl | with_reducible assumption | rfl | omega)
  clear pv7
  refine lv_aload_n hx hb dX11_told_5 rfl (lv_at hl 0 rfl) ?_
  refine lv_iconst (v := 0) hx hb dX11_told_6 rfl ?_
  refine lv_iload_n hx hb dX11_told_7 rfl (lv_at hl 2 rfl) ?_
  refine cbVi (n := 2) (rest := []) hx hb hml hown hts hE hP hD hS hA (sY_X11_toldNumber_1 NF l dC dI cy y0 r 0 p2 v2 f3 w4 g5 hIv2 hCf3 hRf3 ) k_1653 k_1655 k_53 k_114 k_1656 hd_yX11_toldNumber ⟨Nat.le_of_ble_eq_true rfl, Nat.le_of_ble_eq_true rfl⟩ 0 11 rfl rfl (rfl) hl.1 rfl (Nat.le_of_ble_eq_true rfl) dX11_told_8 (fun r11 u H locs hw hP hD hS => ?_)
  obtain ⟨hG12, hw⟩ := hw
  obtain ⟨v13, f14, w15, g16⟩ := u
  obtain ⟨kV_v13, kF_f14, hIv13, hCf14, hRf14, hk0_v13, hk4_v13, hk8_v13, hk9_v13, hk10_v13, hk13_v13, hk14_v13, hk15_v13, hk17_v13, hk18_v13, hk24_v13, hk25_v13, hk35_v13, hk36_v13, hk38_v13, hk39_v13, pv17, pv18, kq19, kq20, kq21⟩ := hw
  have hM_v13 : KV [1, 2, 3, 5, 6, 7] v13 v := KV.tr kV_v13 hM_v2 rfl
  have hA_f14 : KF [] f14 f := KF.tr kF_f14 hA_f3 rfl
  have hP : va_P (dC, dI) vwCl (YW cy y0 r v13 f14 w15 g16) H := hP
  have hD : va_D A (YW cy y0 r v13 f14 w15 g16) := hD
  have b3_v13 : 0 ≤ (v13 3).toInt ∧ (v13 3).toInt ≤ 1600 := Yb_3 hIv13.1
  have pv17 : (v2 3).toInt ≤ (v13 3).toInt := pv17
  have pv18 : (v13 5).toInt = (v2 5).toInt ∨ (v2 3).toInt < (v13 3).toInt ∨ ¬ (v13 5).toInt = 59 := pv18
  have hs2_f14 : f14 2 = (f 2) := kq19.trans hs2_f3
  have hs3_f14 : f14 3 = (f 3) := kq20.trans hs3_f3
  have hs6_f14 : f14 6 = (f 6) := kq21.trans hs6_f3
  have hUv13 : (v13 35).toInt + (v13 36).toInt ≤ 40 := hIv13.2
  have hq0_v13 : v13 0 = (v 0) := hk0_v13.trans hq0_v2
  have zq0_v13 := congrArg Int32.toInt hq0_v13
  try clear zq0_v2
  have hq8_v13 : v13 8 = (v 8) := hk8_v13.trans hq8_v2
  have zq8_v13 := congrArg Int32.toInt hq8_v13
  try clear zq8_v2
  have hq9_v13 : v13 9 = (v 9) := hk9_v13.trans hq9_v2
  have zq9_v13 := congrArg Int32.toInt hq9_v13
  try clear zq9_v2
  have hq10_v13 : v13 10 = (v 10) := hk10_v13.trans hq10_v2
  have zq10_v13 := congrArg Int32.toInt hq10_v13
  try clear zq10_v2
  have hq13_v13 : v13 13 = (v 13) := hk13_v13.trans hq13_v2
  have zq13_v13 := congrArg Int32.toInt hq13_v13
  try clear zq13_v2
  have hq14_v13 : v13 14 = (v 14) := hk14_v13.trans hq14_v2
  have zq14_v13 := congrArg Int32.toInt hq14_v13
  try clear zq14_v2
  have hq15_v13 : v13 15 = (v 15) := hk15_v13.trans hq15_v2
  have zq15_v13 := congrArg Int32.toInt hq15_v13
  try clear zq15_v2
  have hq17_v13 : v13 17 = (v 17) := hk17_v13.trans hq17_v2
  have zq17_v13 := congrArg Int32.toInt hq17_v13
  try clear zq17_v2
  have hq18_v13 : v13 18 = (v 18) := hk18_v13.trans hq18_v2
  have zq18_v13 := congrArg Int32.toInt hq18_v13
  try clear zq18_v2
  have hGR : GR (v 3).toInt (v 5).toInt (v13 3).toInt (v13 5).toInt := GR.tr hGR (show GR (v2 3).toInt (v2 5).toInt (v13 3).toInt (v13 5).toInt from ⟨pv17, pv18⟩) (by first | with_reducible rfl | with_reducible assumption | rfl | omega) (by first | with_reducible rfl | with_reducible assumption | rfl | omega)
  clear pv18
  exact ret r11 (v13, f14, w15, g16) _ _ _ _ _ _ rfl ⟨(gsY_X11_told_1_q0 hG1 hG12), hM_v13, hA_f14, hIv13, hCf14, hRf14, (hk0_v13.trans hk0_v2), (hk4_v13.trans hk4_v2), (hk8_v13.trans hk8_v2), (hk9_v13.trans hk9_v2), (hk10_v13.trans hk10_v2), (hk13_v13.trans hk13_v2), (hk14_v13.trans hk14_v2), (hk15_v13.trans hk15_v2), (hk17_v13.trans hk17_v2), (hk18_v13.trans hk18_v2), (hk24_v13.trans hk24_v2), (hk25_v13.trans hk25_v2), (hk35_v13.trans hk35_v2), (hk36_v13.trans hk36_v2), (hk38_v13.trans hk38_v2), (hk39_v13.trans hk39_v2), (by show (v 3).toInt ≤ (v13 3).toInt; exact (GR.cast hGR (by first | with_reducible rfl | with_reducible assumption | rfl | omega) (by first | with_reducible rfl | with_reducible assumption | rfl | omega)).1), (by show (v13 5).toInt = (v 5).toInt ∨ (v 3).toInt < (v13 3).toInt ∨ ¬ (v13 5).toInt = 59; exact (GR.cast hGR (by first | with_reducible rfl | with_reducible assumption | rfl | omega) (by first | with_reducible rfl | with_reducible assumption | rfl | omega)).2), hs2_f14, hs3_f14, hs6_f14⟩ hP hD hS dX11_told_11 (Nat.le_refl _) (Nat.le_refl _)
set_option maxHeartbeats 4000000 in
set_option maxRecDepth 100000 in
theorem sY_X11_asked_1 (NF : Nat) (l : Launch) (dC : Nat → ClassId) (dI : Nat → Nat → Nat) (cy : Nat → ClassId) (y0 : Nat) (r : Nat → Nat)  (v : Nat → Int32) (f : Nat → Nat → Int32) (w : Int64) (g : Nat → Int64) (hIv : YI v) (hCf : YC f) (hRf : progOK (f 4) (f 5) (v 9).toInt.toNat)  : ctI l (dC, dI) cy yX11_asked cX11_asked 1 .int 1 60 0 0 Unit [.ref y0] (YW cy y0 r v f w g) (fun r u => gsY_X11_asked_1 NF v f w g = r ∧ ((-1 : Int) ≤ r.toInt ∧ r.toInt ≤ 5)) (fun u => YW cy y0 r v f w g) := by
  refine ctI_of (by decide) (Nat.le_of_ble_eq_true rfl) (fun p e s m below meth c A ls Q hx hb hml hts hown hE hP hD hA hl ret => ?_)
  have hown : s.vm.findClass RX11 = some m.cls := hown
  have hS : va_S A s.heap s.heap [] := va_S.rf
  have hl : lv_has ls 1 [(0, .ref y0)] := hl
  refine lv_aload_n hx hb dX11_asked_0 rfl (lv_at hl 0 rfl) ?_
  refine va_get (D := (dC, dI)) (ci := 11) (v := .int (v 5)) (C := RX11) (T := TX11) (N := 79) hx hb hts inB_11 hown hE.1 hP 0 rfl rfl 6 (Nat.le_of_ble_eq_true rfl) (hts _ k_1326) (fun _ h9 => h9) rfl dX11_asked_1 ?_
  refine lv_iconst (v := 1) hx hb dX11_asked_4 rfl ?_
  refine lv_icmp_eq (tgt := 10) hx hb dX11_asked_5 rfl (fun c1 => ?_) (fun c1 => ?_)
  · skip
    refine lv_aload_n hx hb dX11_asked_10 rfl (lv_at hl 0 rfl) ?_
    refine va_get (D := (dC, dI)) (ci := 11) (v := .long w) (C := RX11) (T := TX11) (N := 79) hx hb hts inB_11 hown hE.1 hP 0 rfl rfl 9 (Nat.le_of_ble_eq_true rfl) (hts _ k_1329) (fun _ h9 => h9) rfl dX11_asked_11 ?_
    refine lv_ldc2 (v := 499984590964) hx hb hown (hts _ k_1633) dX11_asked_14 ?_
    refine W.lcmp hx hb dX11_asked_17 ?_
    refine lv_topi (fun t2 et2 => ?_)
    refine lv_if_ne (tgt := 23) hx hb dX11_asked_18 rfl (fun c3 => ?_) (fun c3 => ?_)
    · skip
      refine lv_aload_n hx hb dX11_asked_23 rfl (lv_at hl 0 rfl) ?_
      refine va_get (D := (dC, dI)) (ci := 11) (v := .long w) (C := RX11) (T := TX11) (N := 79) hx hb hts inB_11 hown hE.1 hP 0 rfl rfl 9 (Nat.le_of_ble_eq_true rfl) (hts _ k_1329) (fun _ h9 => h9) rfl dX11_asked_24 ?_
      refine lv_ldc2 (v := 465726042981) hx hb hown (hts _ k_1634) dX11_asked_27 ?_
      refine W.lcmp hx hb dX11_asked_30 ?_
      refine lv_topi (fun t4 et4 => ?_)
      refine lv_if_ne (tgt := 36) hx hb dX11_asked_31 rfl (fun c5 => ?_) (fun c5 => ?_)
      · skip
        refine lv_aload_n hx hb dX11_asked_36 rfl (lv_at hl 0 rfl) ?_
        refine va_get (D := (dC, dI)) (ci := 11) (v := .long w) (C := RX11) (T := TX11) (N := 79) hx hb hts inB_11 hown hE.1 hP 0 rfl rfl 9 (Nat.le_of_ble_eq_true rfl) (hts _ k_1329) (fun _ h9 => h9) rfl dX11_asked_37 ?_
        refine lv_ldc2 (v := 495673373300) hx hb hown (hts _ k_1635) dX11_asked_40 ?_
        refine W.lcmp hx hb dX11_asked_43 ?_
        refine lv_topi (fun t6 et6 => ?_)
        refine lv_if_ne (tgt := 49) hx hb dX11_asked_44 rfl (fun c7 => ?_) (fun c7 => ?_)
        · skip
          refine lv_aload_n hx hb dX11_asked_49 rfl (lv_at hl 0 rfl) ?_
          refine va_get (D := (dC, dI)) (ci := 11) (v := .long w) (C := RX11) (T := TX11) (N := 79) hx hb hts inB_11 hown hE.1 hP 0 rfl rfl 9 (Nat.le_of_ble_eq_true rfl) (hts _ k_1329) (fun _ h9 => h9) rfl dX11_asked_50 ?_
          refine lv_ldc2 (v := 1819242087) hx hb hown (hts _ k_1636) dX11_asked_53 ?_
          refine W.lcmp hx hb dX11_asked_56 ?_
          refine lv_topi (fun t8 et8 => ?_)
          refine lv_if_ne (tgt := 62) hx hb dX11_asked_57 rfl (fun c9 => ?_) (fun c9 => ?_)
          · skip
            refine lv_aload_n hx hb dX11_asked_62 rfl (lv_at hl 0 rfl) ?_
            refine va_get (D := (dC, dI)) (ci := 11) (v := .long w) (C := RX11) (T := TX11) (N := 79) hx hb hts inB_11 hown hE.1 hP 0 rfl rfl 9 (Nat.le_of_ble_eq_true rfl) (hts _ k_1329) (fun _ h9 => h9) rfl dX11_asked_63 ?_
            refine lv_ldc2 (v := 2003792494) hx hb hown (hts _ k_1626) dX11_asked_66 ?_
            refine W.lcmp hx hb dX11_asked_69 ?_
            refine lv_topi (fun t10 et10 => ?_)
            refine lv_if_ne (tgt := 75) hx hb dX11_asked_70 rfl (fun c11 => ?_) (fun c11 => ?_)
            · skip
              refine lv_aload_n hx hb dX11_asked_75 rfl (lv_at hl 0 rfl) ?_
              refine va_get (D := (dC, dI)) (ci := 11) (v := .long w) (C := RX11) (T := TX11) (N := 79) hx hb hts inB_11 hown hE.1 hP 0 rfl rfl 9 (Nat.le_of_ble_eq_true rfl) (hts _ k_1329) (fun _ h9 => h9) rfl dX11_asked_76 ?_
              refine lv_ldc2 (v := 6578553) hx hb hown (hts _ k_1637) dX11_asked_79 ?_
              refine W.lcmp hx hb dX11_asked_82 ?_
              refine lv_topi (fun t12 et12 => ?_)
              refine lv_if_ne (tgt := 90) hx hb dX11_asked_83 rfl (fun c13 => ?_) (fun c13 => ?_)
              · skip
                refine lv_iconst (v := (-1)) hx hb dX11_asked_90 rfl ?_
                exact ret (-1) () _ _ _ _ _ _ rfl ⟨(gsY_X11_asked_1_q0 c1 et2 c3 et4 c5 et6 c7 et8 c9 et10 c11 et12 c13), ⟨by decide, by decide⟩⟩ hP hD hS dX11_asked_91 (Nat.le_refl _) (Nat.le_refl _)
              · skip
                refine lv_iconst (v := 5) hx hb dX11_asked_86 rfl ?_
                refine lv_goto (tgt := 91) hx hb dX11_asked_87 rfl ?_
                exact ret 5 () _ _ _ _ _ _ rfl ⟨(gsY_X11_asked_1_q1 c1 et2 c3 et4 c5 et6 c7 et8 c9 et10 c11 et12 c13), ⟨by decide, by decide⟩⟩ hP hD hS dX11_asked_91 (Nat.le_refl _) (Nat.le_refl _)
            · skip
              refine lv_iconst (v := 4) hx hb dX11_asked_73 rfl ?_
              exact ret 4 () _ _ _ _ _ _ rfl ⟨(gsY_X11_asked_1_q2 c1 et2 c3 et4 c5 et6 c7 et8 c9 et10 c11), ⟨by decide, by decide⟩⟩ hP hD hS dX11_asked_74 (Nat.le_refl _) (Nat.le_refl _)
          · skip
            refine lv_iconst (v := 3) hx hb dX11_asked_60 rfl ?_
            exact ret 3 () _ _ _ _ _ _ rfl ⟨(gsY_X11_asked_1_q3 c1 et2 c3 et4 c5 et6 c7 et8 c9), ⟨by decide, by decide⟩⟩ hP hD hS dX11_asked_61 (Nat.le_refl _) (Nat.le_refl _)
        · skip
          refine lv_iconst (v := 2) hx hb dX11_asked_47 rfl ?_
          exact ret 2 () _ _ _ _ _ _ rfl ⟨(gsY_X11_asked_1_q4 c1 et2 c3 et4 c5 et6 c7), ⟨by decide, by decide⟩⟩ hP hD hS dX11_asked_48 (Nat.le_refl _) (Nat.le_refl _)
      · skip
        refine lv_iconst (v := 1) hx hb dX11_asked_34 rfl ?_
        exact ret 1 () _ _ _ _ _ _ rfl ⟨(gsY_X11_asked_1_q5 c1 et2 c3 et4 c5), ⟨by decide, by decide⟩⟩ hP hD hS dX11_asked_35 (Nat.le_refl _) (Nat.le_refl _)
    · skip
      refine lv_iconst (v := 0) hx hb dX11_asked_21 rfl ?_
      exact ret 0 () _ _ _ _ _ _ rfl ⟨(gsY_X11_asked_1_q6 c1 et2 c3), ⟨by decide, by decide⟩⟩ hP hD hS dX11_asked_22 (Nat.le_refl _) (Nat.le_refl _)
  · skip
    refine lv_iconst (v := (-1)) hx hb dX11_asked_8 rfl ?_
    exact ret (-1) () _ _ _ _ _ _ rfl ⟨(gsY_X11_asked_1_q7 c1), ⟨by decide, by decide⟩⟩ hP hD hS dX11_asked_9 (Nat.le_refl _) (Nat.le_refl _)
set_option maxHeartbeats 4000000 in
set_option maxRecDepth 100000 in
theorem sY_X11_countUnit_1 (NF : Nat) (l : Launch) (dC : Nat → ClassId) (dI : Nat → Nat → Nat) (cy : Nat → ClassId) (y0 : Nat) (r : Nat → Nat)  (v : Nat → Int32) (f : Nat → Nat → Int32) (w : Int64) (g : Nat → Int64) (hIv : YI v) (hCf : YC f) (hRf : progOK (f 4) (f 5) (v 9).toInt.toNat)  (hf0 : (v 13).toInt ≤ 30) : ctV l (dC, dI) cy yX11_countUnit cX11_countUnit 1 1 60 0 0 ((Nat → Int32) × (Nat → Nat → Int32) × (Int64) × (Nat → Int64)) [.ref y0] (YW cy y0 r v f w g) (fun u => gsY_X11_countUnit_1 NF v f w g = u ∧ KV [11, 13] u.1 v ∧ KF [] u.2.1 f ∧ YI u.1 ∧ YC u.2.1 ∧ progOK (u.2.1 4) (u.2.1 5) (u.1 9).toInt.toNat ∧ u.1 0 = v 0 ∧ u.1 1 = v 1 ∧ u.1 2 = v 2 ∧ u.1 3 = v 3 ∧ u.1 4 = v 4 ∧ u.1 5 = v 5 ∧ u.1 8 = v 8 ∧ u.1 9 = v 9 ∧ u.1 10 = v 10 ∧ u.1 14 = v 14 ∧ u.1 15 = v 15 ∧ u.1 17 = v 17 ∧ u.1 18 = v 18 ∧ u.1 24 = v 24 ∧ u.1 25 = v 25 ∧ u.1 35 = v 35 ∧ u.1 36 = v 36 ∧ u.1 38 = v 38 ∧ u.1 39 = v 39 ∧ ((u.1 13).toInt = (v 13).toInt + 1) ∧ u.2.1 2 = f 2 ∧ u.2.1 3 = f 3 ∧ u.2.1 6 = f 6) (fun u => YW cy y0 r u.1 u.2.1 u.2.2.1 u.2.2.2) := by
  refine ctV_of (by decide) (Nat.le_of_ble_eq_true rfl) (fun p e s m below meth c A ls Q hx hb hml hts hown hnm hE hP hD hA hl ret => ?_)
  have hM_v : KV [11, 13] v v := fun _ _ => rfl
  have hA_f : KF [] f f := fun _ _ => rfl
  have b13_v : (0 : Int) ≤ (v 13).toInt ∧ (v 13).toInt ≤ 31 := Yb_13 hIv.1
  have hown : s.vm.findClass RX11 = some m.cls := hown
  have hS : va_S A s.heap s.heap [] := va_S.rf
  have hl : lv_has ls 1 [(0, .ref y0)] := hl
  refine lv_aload_n hx hb dX11_countUnit_0 rfl (lv_at hl 0 rfl) ?_
  refine lv_dup hx hb dX11_countUnit_1 rfl ?_
  refine va_get (D := (dC, dI)) (ci := 11) (v := .int (v 11)) (C := RX11) (T := TX11) (N := 79) hx hb hts inB_11 hown hE.1 hP 0 rfl rfl 20 (Nat.le_of_ble_eq_true rfl) (hts _ k_1340) (fun _ h9 => h9) rfl dX11_countUnit_2 ?_
  refine lv_iconst (v := 1) hx hb dX11_countUnit_5 rfl ?_
  refine lv_iadd hx hb dX11_countUnit_6 ?_
  refine lv_topi (fun t1 et1 => ?_)
  refine va_put (D := (dC, dI)) (ci := 11) (v := .int t1) (ty := tyX11 20) (C := RX11) (T := TX11) (N := 79) hx hb hts inB_11 tyX11 tyX11_ok nmX11 hown hE.1 hP hD hS 0 rfl rfl 20 (Nat.le_of_ble_eq_true rfl) (hts _ k_1340) (fun _ h9 => h9) rfl (tyX11_ok 20 (Nat.le_of_ble_eq_true rfl)) rfl rfl (Nat.le_of_ble_eq_true rfl) dX11_countUnit_7 (fun H locs hP hD hS => ?_)
  have hP : va_P (dC, dI) vwCl (YW cy y0 r (upd v 11 t1) f w g) H := hP
  have hD : va_D A (YW cy y0 r (upd v 11 t1) f w g) := hD
  refine lv_aload_n hx hb dX11_countUnit_10 rfl (lv_at hl 0 rfl) ?_
  refine lv_dup hx hb dX11_countUnit_11 rfl ?_
  refine va_get (D := (dC, dI)) (ci := 11) (v := .int (v 13)) (C := RX11) (T := TX11) (N := 79) hx hb hts inB_11 hown hE.1 hP 0 rfl rfl 22 (Nat.le_of_ble_eq_true rfl) (hts _ k_1342) (fun _ h9 => h9) rfl dX11_countUnit_12 ?_
  have b13_v : 0 ≤ (v 13).toInt ∧ (v 13).toInt ≤ 31 := Yb_13 hIv.1
  refine lv_iconst (v := 1) hx hb dX11_countUnit_15 rfl ?_
  refine lv_iadd hx hb dX11_countUnit_16 ?_
  refine lv_topi (fun t2 et2 => ?_)
  have zt2 : t2.toInt = (v 13).toInt + 1 := (congrArg Int32.toInt et2).trans (add_i rfl tc_1 (om_338 b13_v) (om_339 hf0))
  refine va_put (D := (dC, dI)) (ci := 11) (v := .int t2) (ty := tyX11 22) (C := RX11) (T := TX11) (N := 79) hx hb hts inB_11 tyX11 tyX11_ok nmX11 hown hE.1 hP hD hS 0 rfl rfl 22 (Nat.le_of_ble_eq_true rfl) (hts _ k_1342) (fun _ h9 => h9) rfl (tyX11_ok 22 (Nat.le_of_ble_eq_true rfl)) rfl rfl (Nat.le_of_ble_eq_true rfl) dX11_countUnit_17 (fun H locs hP hD hS => ?_)
  have hP : va_P (dC, dI) vwCl (YW cy y0 r (upd (upd v 11 t1) 13 t2) f w g) H := hP
  have hD : va_D A (YW cy y0 r (upd (upd v 11 t1) 13 t2) f w g) := hD
  exact ret ((upd (upd v 11 t1) 13 t2), f, w, g) _ _ _ _ _ _ ⟨(gsY_X11_countUnit_1_q0 et1 et2), (KV.up (j := 13) (x := t2) (KV.up (j := 11) (x := t1) hM_v rfl) rfl), hA_f, ⟨(Yu_13 (x := t2) (Yu_11 (x := t1) hIv.1 (rlo _) (rhi _)) (show (0 : Int) ≤ t2.toInt from om_340 b13_v zt2) (show t2.toInt ≤ (31 : Int) from om_341 hf0 zt2)), hIv.2⟩, hCf, hRf, rfl, rfl, rfl, rfl, rfl, rfl, rfl, rfl, rfl, rfl, rfl, rfl, rfl, rfl, rfl, rfl, rfl, rfl, rfl, (show t2.toInt = (v 13).toInt + 1 from om_342 zt2), rfl, rfl, rfl⟩ hP hD hS dX11_countUnit_20 (Nat.le_refl _) (Nat.le_refl _)
set_option maxHeartbeats 4000000 in
set_option maxRecDepth 100000 in
theorem sY_X11_add_1 (NF : Nat) (l : Launch) (dC : Nat → ClassId) (dI : Nat → Nat → Nat) (cy : Nat → ClassId) (y0 : Nat) (r : Nat → Nat) (p1 : Int32) (p2 : Int32) (v : Nat → Int32) (f : Nat → Nat → Int32) (w : Int64) (g : Nat → Int64) (hIv : YI v) (hCf : YC f) (hRf : progOK (f 4) (f 5) (v 9).toInt.toNat)  (hf0 : (v 8).toInt ≤ 319) : ctV l (dC, dI) cy yX11_add cX11_add 3 1 60 0 0 ((Nat → Int32) × (Nat → Nat → Int32) × (Int64) × (Nat → Int64)) [.ref y0, .int p1, .int p2] (YW cy y0 r v f w g) (fun u => gsY_X11_add_1 NF p1 p2 v f w g = u ∧ KV [8] u.1 v ∧ KF [2, 3] u.2.1 f ∧ YI u.1 ∧ YC u.2.1 ∧ progOK (u.2.1 4) (u.2.1 5) (u.1 9).toInt.toNat ∧ u.1 0 = v 0 ∧ u.1 1 = v 1 ∧ u.1 2 = v 2 ∧ u.1 3 = v 3 ∧ u.1 4 = v 4 ∧ u.1 5 = v 5 ∧ u.1 9 = v 9 ∧ u.1 10 = v 10 ∧ u.1 13 = v 13 ∧ u.1 14 = v 14 ∧ u.1 15 = v 15 ∧ u.1 17 = v 17 ∧ u.1 18 = v 18 ∧ u.1 24 = v 24 ∧ u.1 25 = v 25 ∧ u.1 35 = v 35 ∧ u.1 36 = v 36 ∧ u.1 38 = v 38 ∧ u.1 39 = v 39 ∧ ((u.1 8).toInt = (v 8).toInt + 1) ∧ ((u.2.1 2) = upd (f 2) ((v 8).toInt).toNat p1) ∧ ((u.2.1 3) = upd (f 3) ((v 8).toInt).toNat p2) ∧ u.2.1 6 = f 6) (fun u => YW cy y0 r u.1 u.2.1 u.2.2.1 u.2.2.2) := by
  refine ctV_of (by decide) (Nat.le_of_ble_eq_true rfl) (fun p e s m below meth c A ls Q hx hb hml hts hown hnm hE hP hD hA hl ret => ?_)
  have hM_v : KV [8] v v := fun _ _ => rfl
  have hA_f : KF [2, 3] f f := fun _ _ => rfl
  have b8_v : (0 : Int) ≤ (v 8).toInt ∧ (v 8).toInt ≤ 320 := Yb_8 hIv.1
  have hown : s.vm.findClass RX11 = some m.cls := hown
  have hS : va_S A s.heap s.heap [] := va_S.rf
  have hl : lv_has ls 3 [(0, .ref y0), (1, .int p1), (2, .int p2)] := hl
  refine lv_aload_n hx hb dX11_add_0 rfl (lv_at hl 0 rfl) ?_
  refine va_get (D := (dC, dI)) (ci := 11) (v := .ref (r 11)) (C := RX11) (T := TX11) (N := 79) hx hb hts inB_11 hown hE.1 hP 0 rfl rfl 11 (Nat.le_of_ble_eq_true rfl) (hts _ k_1331) (fun _ h9 => h9) rfl dX11_add_1 ?_
  refine lv_aload_n hx hb dX11_add_4 rfl (lv_at hl 0 rfl) ?_
  refine va_get (D := (dC, dI)) (ci := 11) (v := .int (v 8)) (C := RX11) (T := TX11) (N := 79) hx hb hts inB_11 hown hE.1 hP 0 rfl rfl 17 (Nat.le_of_ble_eq_true rfl) (hts _ k_1337) (fun _ h9 => h9) rfl dX11_add_5 ?_
  have b8_v : 0 ≤ (v 8).toInt ∧ (v 8).toInt ≤ 320 := Yb_8 hIv.1
  refine lv_iload_n hx hb dX11_add_8 rfl (lv_at hl 1 rfl) ?_
  refine stI hx hb hE hP hD hS 3 rfl (vpI (k := 320) rfl (show 0 ≤ (v 8).toInt from om_343 b8_v) (show (v 8).toInt < 320 from om_344 hf0)) rfl dX11_add_9 (fun H locs hP hD hS => ?_)
  obtain ⟨f1, ef1, hP, hD⟩ : ∃ fz9, fz9 = upd2 f 2 (upd (f 2) (v 8).toNatClampNeg p1) ∧ va_P (dC, dI) vwCl (YW cy y0 r v fz9 w g) H ∧ va_D A (YW cy y0 r v fz9 w g) := ⟨_, rfl, hP, hD⟩
  have hCf1 : YC f1 := by rw [ef1]; exact hCf
  have hRf1 : progOK (f1 4) (f1 5) (v 9).toInt.toNat := by rw [ef1]; exact hRf
  have hs2_f1 : f1 2 = (upd (f 2) ((v 8).toInt.toNat) p1) := by rw [ef1]; show upd (f 2) ((v 8).toInt.toNat) p1 = _; rfl
  have hs3_f1 : f1 3 = (f 3) := by rw [ef1]; exact rfl
  have hs6_f1 : f1 6 = (f 6) := by rw [ef1]; exact rfl
  have hA_f1 : KF [2, 3] f1 f := by rw [ef1]; exact KF.up hA_f rfl
  refine lv_aload_n hx hb dX11_add_10 rfl (lv_at hl 0 rfl) ?_
  refine va_get (D := (dC, dI)) (ci := 11) (v := .ref (r 12)) (C := RX11) (T := TX11) (N := 79) hx hb hts inB_11 hown hE.1 hP 0 rfl rfl 12 (Nat.le_of_ble_eq_true rfl) (hts _ k_1332) (fun _ h9 => h9) rfl dX11_add_11 ?_
  refine lv_aload_n hx hb dX11_add_14 rfl (lv_at hl 0 rfl) ?_
  refine va_get (D := (dC, dI)) (ci := 11) (v := .int (v 8)) (C := RX11) (T := TX11) (N := 79) hx hb hts inB_11 hown hE.1 hP 0 rfl rfl 17 (Nat.le_of_ble_eq_true rfl) (hts _ k_1337) (fun _ h9 => h9) rfl dX11_add_15 ?_
  refine lv_iload_n hx hb dX11_add_18 rfl (lv_at hl 2 rfl) ?_
  refine stI hx hb hE hP hD hS 4 rfl (vpI (k := 320) rfl (show 0 ≤ (v 8).toInt from om_343 b8_v) (show (v 8).toInt < 320 from om_344 hf0)) rfl dX11_add_19 (fun H locs hP hD hS => ?_)
  obtain ⟨f2, ef2, hP, hD⟩ : ∃ fz9, fz9 = upd2 f1 3 (upd (f1 3) (v 8).toNatClampNeg p2) ∧ va_P (dC, dI) vwCl (YW cy y0 r v fz9 w g) H ∧ va_D A (YW cy y0 r v fz9 w g) := ⟨_, rfl, hP, hD⟩
  have hCf2 : YC f2 := by rw [ef2]; exact hCf1
  have hRf2 : progOK (f2 4) (f2 5) (v 9).toInt.toNat := by rw [ef2]; exact hRf1
  have hs2_f2 : f2 2 = (upd (f 2) ((v 8).toInt.toNat) p1) := by rw [ef2]; exact hs2_f1
  have hs3_f2 : f2 3 = (upd (f 3) ((v 8).toInt.toNat) p2) := by rw [ef2]; show upd (f1 3) ((v 8).toInt.toNat) p2 = _; rw [hs3_f1]
  have hs6_f2 : f2 6 = (f 6) := by rw [ef2]; exact hs6_f1
  have hA_f2 : KF [2, 3] f2 f := by rw [ef2]; exact KF.up hA_f1 rfl
  refine lv_aload_n hx hb dX11_add_20 rfl (lv_at hl 0 rfl) ?_
  refine lv_dup hx hb dX11_add_21 rfl ?_
  refine va_get (D := (dC, dI)) (ci := 11) (v := .int (v 8)) (C := RX11) (T := TX11) (N := 79) hx hb hts inB_11 hown hE.1 hP 0 rfl rfl 17 (Nat.le_of_ble_eq_true rfl) (hts _ k_1337) (fun _ h9 => h9) rfl dX11_add_22 ?_
  refine lv_iconst (v := 1) hx hb dX11_add_25 rfl ?_
  refine lv_iadd hx hb dX11_add_26 ?_
  refine lv_topi (fun t3 et3 => ?_)
  have zt3 : t3.toInt = (v 8).toInt + 1 := (congrArg Int32.toInt et3).trans (add_i rfl tc_1 (om_345 b8_v) (om_346 hf0))
  refine va_put (D := (dC, dI)) (ci := 11) (v := .int t3) (ty := tyX11 17) (C := RX11) (T := TX11) (N := 79) hx hb hts inB_11 tyX11 tyX11_ok nmX11 hown hE.1 hP hD hS 0 rfl rfl 17 (Nat.le_of_ble_eq_true rfl) (hts _ k_1337) (fun _ h9 => h9) rfl (tyX11_ok 17 (Nat.le_of_ble_eq_true rfl)) rfl rfl (Nat.le_of_ble_eq_true rfl) dX11_add_27 (fun H locs hP hD hS => ?_)
  have hP : va_P (dC, dI) vwCl (YW cy y0 r (upd v 8 t3) f2 w g) H := hP
  have hD : va_D A (YW cy y0 r (upd v 8 t3) f2 w g) := hD
  exact ret ((upd v 8 t3), f2, w, g) _ _ _ _ _ _ ⟨(gsY_X11_add_1_q0 ef1 ef2 et3), (KV.up (j := 8) (x := t3) hM_v rfl), hA_f2, ⟨(Yu_8 (x := t3) hIv.1 (show (0 : Int) ≤ t3.toInt from om_347 b8_v zt3) (show t3.toInt ≤ (320 : Int) from om_348 hf0 zt3)), hIv.2⟩, hCf2, hRf2, rfl, rfl, rfl, rfl, rfl, rfl, rfl, rfl, rfl, rfl, rfl, rfl, rfl, rfl, rfl, rfl, rfl, rfl, rfl, (show t3.toInt = (v 8).toInt + 1 from om_342 zt3), (by show (f2 2) = upd (f 2) ((v 8).toInt).toNat p1; rw [hs2_f2]; first | done | rfl), (by show (f2 3) = upd (f 3) ((v 8).toInt).toNat p2; rw [hs3_f2]; first | done | rfl), hs6_f2⟩ hP hD hS dX11_add_30 (Nat.le_refl _) (Nat.le_refl _)
set_option maxHeartbeats 4000000 in
set_option maxRecDepth 100000 in
theorem sY_X11_isFull_1 (NF : Nat) (l : Launch) (dC : Nat → ClassId) (dI : Nat → Nat → Nat) (cy : Nat → ClassId) (y0 : Nat) (r : Nat → Nat)  (v : Nat → Int32) (f : Nat → Nat → Int32) (w : Int64) (g : Nat → Int64) (hIv : YI v) (hCf : YC f) (hRf : progOK (f 4) (f 5) (v 9).toInt.toNat)  : ctI l (dC, dI) cy yX11_isFull cX11_isFull 1 .boolean 1 60 0 0 Unit [.ref y0] (YW cy y0 r v f w g) (fun r u => gsY_X11_isFull_1 NF v f w g = r ∧ ((r = 1) ∨ (r = 0 ∧ ¬ (v 13).toInt = 30))) (fun u => YW cy y0 r v f w g) := by
  refine ctI_of (by decide) (Nat.le_of_ble_eq_true rfl) (fun p e s m below meth c A ls Q hx hb hml hts hown hE hP hD hA hl ret => ?_)
  have hown : s.vm.findClass RX11 = some m.cls := hown
  have hS : va_S A s.heap s.heap [] := va_S.rf
  have hl : lv_has ls 1 [(0, .ref y0)] := hl
  refine lv_aload_n hx hb dX11_isFull_0 rfl (lv_at hl 0 rfl) ?_
  refine va_get (D := (dC, dI)) (ci := 11) (v := .int (v 11)) (C := RX11) (T := TX11) (N := 79) hx hb hts inB_11 hown hE.1 hP 0 rfl rfl 20 (Nat.le_of_ble_eq_true rfl) (hts _ k_1340) (fun _ h9 => h9) rfl dX11_isFull_1 ?_
  refine lv_bipush (v := 60) hx hb dX11_isFull_4 rfl ?_
  refine lv_icmp_eq (tgt := 18) hx hb dX11_isFull_6 rfl (fun c1 => ?_) (fun c1 => ?_)
  · skip
    refine lv_iconst (v := 1) hx hb dX11_isFull_18 rfl ?_
    refine lv_goto (tgt := 23) hx hb dX11_isFull_19 rfl ?_
    exact ret 1 () _ _ _ _ _ _ rfl ⟨(gsY_X11_isFull_1_q0 c1), (Or.inl rfl)⟩ hP hD hS dX11_isFull_23 (Nat.le_refl _) (Nat.le_refl _)
  · skip
    refine lv_aload_n hx hb dX11_isFull_9 rfl (lv_at hl 0 rfl) ?_
    refine va_get (D := (dC, dI)) (ci := 11) (v := .int (v 13)) (C := RX11) (T := TX11) (N := 79) hx hb hts inB_11 hown hE.1 hP 0 rfl rfl 22 (Nat.le_of_ble_eq_true rfl) (hts _ k_1342) (fun _ h9 => h9) rfl dX11_isFull_10 ?_
    refine lv_bipush (v := 30) hx hb dX11_isFull_13 rfl ?_
    refine lv_icmp_ne (tgt := 22) hx hb dX11_isFull_15 rfl (fun c2 => ?_) (fun c2 => ?_)
    · skip
      have zc2 : ¬ ((v 13).toInt = 30) := zEn rfl tc_30 c2
      refine lv_iconst (v := 0) hx hb dX11_isFull_22 rfl ?_
      exact ret 0 () _ _ _ _ _ _ rfl ⟨(gsY_X11_isFull_1_q1 c1 c2), (Or.inr ⟨rfl, show ¬ (v 13).toInt = 30 from om_349 zc2⟩)⟩ hP hD hS dX11_isFull_23 (Nat.le_refl _) (Nat.le_refl _)
    · skip
      refine lv_iconst (v := 1) hx hb dX11_isFull_18 rfl ?_
      refine lv_goto (tgt := 23) hx hb dX11_isFull_19 rfl ?_
      exact ret 1 () _ _ _ _ _ _ rfl ⟨(gsY_X11_isFull_1_q2 c1 c2), (Or.inl rfl)⟩ hP hD hS dX11_isFull_23 (Nat.le_refl _) (Nat.le_refl _)
set_option maxHeartbeats 4000000 in
set_option maxRecDepth 100000 in
theorem sY_X11_openUp_1 (NF : Nat) (l : Launch) (dC : Nat → ClassId) (dI : Nat → Nat → Nat) (cy : Nat → ClassId) (y0 : Nat) (r : Nat → Nat) (p1 : Int32) (v : Nat → Int32) (f : Nat → Nat → Int32) (w : Int64) (g : Nat → Int64) (hIv : YI v) (hCf : YC f) (hRf : progOK (f 4) (f 5) (v 9).toInt.toNat)  (hf0 : (v 10).toInt ≤ 159) (hf1 : (v 14).toInt ≤ 7) : ctV l (dC, dI) cy yX11_openUp cX11_openUp 2 3 103 0 0 ((Nat → Int32) × (Nat → Nat → Int32) × (Int64) × (Nat → Int64)) [.ref y0, .int p1] (YW cy y0 r v f w g) (fun u => gsY_X11_openUp_1 NF p1 v f w g = u ∧ KV [3, 5, 6, 7, 10, 14] u.1 v ∧ KF [6] u.2.1 f ∧ YI u.1 ∧ YC u.2.1 ∧ progOK (u.2.1 4) (u.2.1 5) (u.1 9).toInt.toNat ∧ u.1 0 = v 0 ∧ u.1 1 = v 1 ∧ u.1 2 = v 2 ∧ u.1 4 = v 4 ∧ u.1 8 = v 8 ∧ u.1 9 = v 9 ∧ u.1 13 = v 13 ∧ u.1 15 = v 15 ∧ u.1 17 = v 17 ∧ u.1 18 = v 18 ∧ u.1 24 = v 24 ∧ u.1 25 = v 25 ∧ u.1 35 = v 35 ∧ u.1 36 = v 36 ∧ u.1 38 = v 38 ∧ u.1 39 = v 39 ∧ ((u.1 10).toInt = (v 10).toInt + 1) ∧ ((u.1 14).toInt = (v 14).toInt + 1) ∧ (GR (v 3).toInt (v 5).toInt (u.1 3).toInt (u.1 5).toInt) ∧ ((u.2.1 6) = upd (f 6) ((v 10).toInt).toNat p1) ∧ u.2.1 2 = f 2 ∧ u.2.1 3 = f 3) (fun u => YW cy y0 r u.1 u.2.1 u.2.2.1 u.2.2.2) := by
  refine ctV_of (by decide) (Nat.le_of_ble_eq_true rfl) (fun p e s m below meth c A ls Q hx hb hml hts hown hnm hE hP hD hA hl ret => ?_)
  have hUv : (v 35).toInt + (v 36).toInt ≤ 40 := hIv.2
  have hM_v : KV [3, 5, 6, 7, 10, 14] v v := fun _ _ => rfl
  have hA_f : KF [6] f f := fun _ _ => rfl
  have b1_v : (0 : Int) ≤ (v 1).toInt ∧ (v 1).toInt ≤ 4 := Yb_1 hIv.1
  have b3_v : (0 : Int) ≤ (v 3).toInt ∧ (v 3).toInt ≤ 1600 := Yb_3 hIv.1
  have b8_v : (0 : Int) ≤ (v 8).toInt ∧ (v 8).toInt ≤ 320 := Yb_8 hIv.1
  have b10_v : (0 : Int) ≤ (v 10).toInt ∧ (v 10).toInt ≤ 160 := Yb_10 hIv.1
  have b13_v : (0 : Int) ≤ (v 13).toInt ∧ (v 13).toInt ≤ 31 := Yb_13 hIv.1
  have b14_v : (0 : Int) ≤ (v 14).toInt ∧ (v 14).toInt ≤ 8 := Yb_14 hIv.1
  have hGR : GR (v 3).toInt (v 5).toInt (v 3).toInt (v 5).toInt := GR.refl _ _
  have hown : s.vm.findClass RX11 = some m.cls := hown
  have hS : va_S A s.heap s.heap [] := va_S.rf
  have hl : lv_has ls 2 [(0, .ref y0), (1, .int p1)] := hl
  refine lv_aload_n hx hb dX11_openUp_0 rfl (lv_at hl 0 rfl) ?_
  refine va_get (D := (dC, dI)) (ci := 11) (v := .ref (r 15)) (C := RX11) (T := TX11) (N := 79) hx hb hts inB_11 hown hE.1 hP 0 rfl rfl 15 (Nat.le_of_ble_eq_true rfl) (hts _ k_1335) (fun _ h9 => h9) rfl dX11_openUp_1 ?_
  refine lv_aload_n hx hb dX11_openUp_4 rfl (lv_at hl 0 rfl) ?_
  refine va_get (D := (dC, dI)) (ci := 11) (v := .int (v 10)) (C := RX11) (T := TX11) (N := 79) hx hb hts inB_11 hown hE.1 hP 0 rfl rfl 19 (Nat.le_of_ble_eq_true rfl) (hts _ k_1339) (fun _ h9 => h9) rfl dX11_openUp_5 ?_
  have b10_v : 0 ≤ (v 10).toInt ∧ (v 10).toInt ≤ 160 := Yb_10 hIv.1
  refine lv_iload_n hx hb dX11_openUp_8 rfl (lv_at hl 1 rfl) ?_
  refine stI hx hb hE hP hD hS 7 rfl (vpI (k := 160) rfl (show 0 ≤ (v 10).toInt from om_350 b10_v) (show (v 10).toInt < 160 from om_351 hf0)) rfl dX11_openUp_9 (fun H locs hP hD hS => ?_)
  obtain ⟨f1, ef1, hP, hD⟩ : ∃ fz9, fz9 = upd2 f 6 (upd (f 6) (v 10).toNatClampNeg p1) ∧ va_P (dC, dI) vwCl (YW cy y0 r v fz9 w g) H ∧ va_D A (YW cy y0 r v fz9 w g) := ⟨_, rfl, hP, hD⟩
  have hCf1 : YC f1 := by rw [ef1]; exact hCf
  have hRf1 : progOK (f1 4) (f1 5) (v 9).toInt.toNat := by rw [ef1]; exact hRf
  have hs2_f1 : f1 2 = (f 2) := by rw [ef1]; exact rfl
  have hs3_f1 : f1 3 = (f 3) := by rw [ef1]; exact rfl
  have hs6_f1 : f1 6 = (upd (f 6) ((v 10).toInt.toNat) p1) := by rw [ef1]; show upd (f 6) ((v 10).toInt.toNat) p1 = _; rfl
  have hA_f1 : KF [6] f1 f := by rw [ef1]; exact KF.up hA_f rfl
  refine lv_aload_n hx hb dX11_openUp_10 rfl (lv_at hl 0 rfl) ?_
  refine lv_dup hx hb dX11_openUp_11 rfl ?_
  refine va_get (D := (dC, dI)) (ci := 11) (v := .int (v 10)) (C := RX11) (T := TX11) (N := 79) hx hb hts inB_11 hown hE.1 hP 0 rfl rfl 19 (Nat.le_of_ble_eq_true rfl) (hts _ k_1339) (fun _ h9 => h9) rfl dX11_openUp_12 ?_
  refine lv_iconst (v := 1) hx hb dX11_openUp_15 rfl ?_
  refine lv_iadd hx hb dX11_openUp_16 ?_
  refine lv_topi (fun t2 et2 => ?_)
  have rg3 := fb_rng (v 10)
  have zt2 : t2.toInt = (v 10).toInt + 1 := (congrArg Int32.toInt et2).trans (add_i rfl tc_1 (om_352 b10_v) (om_353 hf0))
  refine va_put (D := (dC, dI)) (ci := 11) (v := .int t2) (ty := tyX11 19) (C := RX11) (T := TX11) (N := 79) hx hb hts inB_11 tyX11 tyX11_ok nmX11 hown hE.1 hP hD hS 0 rfl rfl 19 (Nat.le_of_ble_eq_true rfl) (hts _ k_1339) (fun _ h9 => h9) rfl (tyX11_ok 19 (Nat.le_of_ble_eq_true rfl)) rfl rfl (Nat.le_of_ble_eq_true rfl) dX11_openUp_17 (fun H locs hP hD hS => ?_)
  have hP : va_P (dC, dI) vwCl (YW cy y0 r (upd v 10 t2) f1 w g) H := hP
  have hD : va_D A (YW cy y0 r (upd v 10 t2) f1 w g) := hD
  refine lv_aload_n hx hb dX11_openUp_20 rfl (lv_at hl 0 rfl) ?_
  refine lv_dup hx hb dX11_openUp_21 rfl ?_
  refine va_get (D := (dC, dI)) (ci := 11) (v := .int (v 14)) (C := RX11) (T := TX11) (N := 79) hx hb hts inB_11 hown hE.1 hP 0 rfl rfl 23 (Nat.le_of_ble_eq_true rfl) (hts _ k_1343) (fun _ h9 => h9) rfl dX11_openUp_22 ?_
  have b14_v : 0 ≤ (v 14).toInt ∧ (v 14).toInt ≤ 8 := Yb_14 hIv.1
  refine lv_iconst (v := 1) hx hb dX11_openUp_25 rfl ?_
  refine lv_iadd hx hb dX11_openUp_26 ?_
  refine lv_topi (fun t4 et4 => ?_)
  have rg5 := fb_rng (v 14)
  have zt4 : t4.toInt = (v 14).toInt + 1 := (congrArg Int32.toInt et4).trans (add_i rfl tc_1 (om_354 b14_v) (om_355 hf1))
  refine va_put (D := (dC, dI)) (ci := 11) (v := .int t4) (ty := tyX11 23) (C := RX11) (T := TX11) (N := 79) hx hb hts inB_11 tyX11 tyX11_ok nmX11 hown hE.1 hP hD hS 0 rfl rfl 23 (Nat.le_of_ble_eq_true rfl) (hts _ k_1343) (fun _ h9 => h9) rfl (tyX11_ok 23 (Nat.le_of_ble_eq_true rfl)) rfl rfl (Nat.le_of_ble_eq_true rfl) dX11_openUp_27 (fun H locs hP hD hS => ?_)
  have hP : va_P (dC, dI) vwCl (YW cy y0 r (upd (upd v 10 t2) 14 t4) f1 w g) H := hP
  have hD : va_D A (YW cy y0 r (upd (upd v 10 t2) 14 t4) f1 w g) := hD
  refine lv_aload_n hx hb dX11_openUp_30 rfl (lv_at hl 0 rfl) ?_
  refine va_get (D := (dC, dI)) (ci := 11) (v := .int (v 1)) (C := RX11) (T := TX11) (N := 79) hx hb hts inB_11 hown hE.1 hP 0 rfl rfl 2 (Nat.le_of_ble_eq_true rfl) (hts _ k_1322) (fun _ h9 => h9) rfl dX11_openUp_31 ?_
  have b1_v : 0 ≤ (v 1).toInt ∧ (v 1).toInt ≤ 4 := Yb_1 hIv.1
  refine lv_if_ne (tgt := 41) hx hb dX11_openUp_34 rfl (fun c6 => ?_) (fun c6 => ?_)
  · skip
    have zc6 : ¬ ((v 1).toInt = 0) := zEn rfl tc_0 c6
    exact ret ((upd (upd v 10 t2) 14 t4), f1, w, g) _ _ _ _ _ _ ⟨(gsY_X11_openUp_1_q0 ef1 et2 et4 c6), (KV.up (j := 14) (x := t4) (KV.up (j := 10) (x := t2) hM_v rfl) rfl), hA_f1, ⟨(Yu_14 (x := t4) (Yu_10 (x := t2) hIv.1 (show (0 : Int) ≤ t2.toInt from om_356 b10_v zt2) (show t2.toInt ≤ (160 : Int) from om_357 hf0 zt2)) (show (0 : Int) ≤ t4.toInt from om_358 b14_v zt4) (show t4.toInt ≤ (8 : Int) from om_359 hf1 zt4)), hIv.2⟩, hCf1, hRf1, rfl, rfl, rfl, rfl, rfl, rfl, rfl, rfl, rfl, rfl, rfl, rfl, rfl, rfl, rfl, rfl, (show t2.toInt = (v 10).toInt + 1 from om_342 zt2), (show t4.toInt = (v 14).toInt + 1 from om_342 zt4), (by show GR (v 3).toInt (v 5).toInt (v 3).toInt (v 5).toInt; exact GR.cast hGR (by first | with_reducible rfl | with_reducible assumption | rfl | omega) (by first | with_reducible rfl | with_reducible assumption | rfl | omega)), (by show (f1 6) = upd (f 6) ((v 10).toInt).toNat p1; rw [hs6_f1]; first | done | rfl), hs2_f1, hs3_f1⟩ hP hD hS dX11_openUp_41 (Nat.le_refl _) (Nat.le_refl _)
  · skip
    have zc6 : (v 1).toInt = 0 := zEp rfl tc_0 c6
    refine lv_aload_n hx hb dX11_openUp_37 rfl (lv_at hl 0 rfl) ?_
    refine cbVv (n := 0) (rest := []) hx hb hml hown hts hE hP hD hS hA (sY_X11_token_1 NF l dC dI cy y0 r  (upd (upd v 10 t2) 14 t4) f1 w g ⟨(Yu_14 (x := t4) (Yu_10 (x := t2) hIv.1 (show (0 : Int) ≤ t2.toInt from om_356 b10_v zt2) (show t2.toInt ≤ (160 : Int) from om_357 hf0 zt2)) (show (0 : Int) ≤ t4.toInt from om_358 b14_v zt4) (show t4.toInt ≤ (8 : Int) from om_359 hf1 zt4)), hIv.2⟩ hCf1 hRf1 ) k_1579 k_1581 k_42 k_114 k_1582 hd_yX11_token ⟨Nat.le_of_ble_eq_true rfl, Nat.le_of_ble_eq_true rfl⟩ 0 11 rfl rfl (rfl) hl.1 rfl (Nat.le_of_ble_eq_true rfl) dX11_openUp_38 (fun u H locs hw hP hD hS => ?_)
    obtain ⟨hG7, hw⟩ := hw
    obtain ⟨v8, f9, w10, g11⟩ := u
    obtain ⟨kV_v8, kF_f9, hIv8, hCf9, hRf9, hk0_v8, hk1_v8, hk2_v8, hk4_v8, hk8_v8, hk9_v8, hk10_v8, hk13_v8, hk14_v8, hk15_v8, hk17_v8, hk18_v8, hk24_v8, hk25_v8, hk35_v8, hk36_v8, hk38_v8, hk39_v8, pv12, pv13, kq14, kq15, kq16⟩ := hw
    have hM_v8 : KV [3, 5, 6, 7, 10, 14] v8 v := KV.tr kV_v8 (KV.up (j := 14) (x := t4) (KV.up (j := 10) (x := t2) hM_v rfl) rfl) rfl
    have hA_f9 : KF [6] f9 f := KF.tr kF_f9 hA_f1 rfl
    have hP : va_P (dC, dI) vwCl (YW cy y0 r v8 f9 w10 g11) H := hP
    have hD : va_D A (YW cy y0 r v8 f9 w10 g11) := hD
    have b3_v8 : 0 ≤ (v8 3).toInt ∧ (v8 3).toInt ≤ 1600 := Yb_3 hIv8.1
    have pv12 : (v 3).toInt ≤ (v8 3).toInt := pv12
    have pv13 : (v8 5).toInt = (v 5).toInt ∨ (v 3).toInt < (v8 3).toInt ∨ ¬ (v8 5).toInt = 59 := pv13
    have hs2_f9 : f9 2 = (f 2) := kq14.trans hs2_f1
    have hs3_f9 : f9 3 = (f 3) := kq15.trans hs3_f1
    have hs6_f9 : f9 6 = (upd (f 6) ((v 10).toInt.toNat) p1) := kq16.trans hs6_f1
    have hUv8 : (v8 35).toInt + (v8 36).toInt ≤ 40 := hIv8.2
    have hq1_v8 : v8 1 = (v 1) := hk1_v8
    have zq1_v8 := congrArg Int32.toInt hq1_v8
    have hq8_v8 : v8 8 = (v 8) := hk8_v8
    have zq8_v8 := congrArg Int32.toInt hq8_v8
    have hq10_v8 : v8 10 = t2 := hk10_v8
    have zq10_v8 := congrArg Int32.toInt hq10_v8
    have hq13_v8 : v8 13 = (v 13) := hk13_v8
    have zq13_v8 := congrArg Int32.toInt hq13_v8
    have hq14_v8 : v8 14 = t4 := hk14_v8
    have zq14_v8 := congrArg Int32.toInt hq14_v8
    have hGR : GR (v 3).toInt (v 5).toInt (v8 3).toInt (v8 5).toInt := GR.tr hGR (show GR (v 3).toInt (v 5).toInt (v8 3).toInt (v8 5).toInt from ⟨pv12, pv13⟩) (by first | with_reducible rfl | with_reducible assumption | rfl | omega) (by first | with_reducible rfl | with_reducible assumption | rfl | omega)
    clear pv13
    exact ret (v8, f9, w10, g11) _ _ _ _ _ _ ⟨(gsY_X11_openUp_1_q1 ef1 et2 et4 c6 hG7), hM_v8, hA_f9, hIv8, hCf9, hRf9, hk0_v8, hk1_v8, hk2_v8, hk4_v8, hk8_v8, hk9_v8, hk13_v8, hk15_v8, hk17_v8, hk18_v8, hk24_v8, hk25_v8, hk35_v8, hk36_v8, hk38_v8, hk39_v8, (show (v8 10).toInt = (v 10).toInt + 1 from om_360 zt2 zq10_v8), (show (v8 14).toInt = (v 14).toInt + 1 from om_360 zt4 zq14_v8), (by show GR (v 3).toInt (v 5).toInt (v8 3).toInt (v8 5).toInt; exact GR.cast hGR (by first | with_reducible rfl | with_reducible assumption | rfl | omega) (by first | with_reducible rfl | with_reducible assumption | rfl | omega)), (by show (f9 6) = upd (f 6) ((v 10).toInt).toNat p1; rw [hs6_f9]; first | done | rfl), hs2_f9, hs3_f9⟩ hP hD hS dX11_openUp_41 (Nat.le_refl _) (Nat.le_refl _)
set_option maxHeartbeats 4000000 in
set_option maxRecDepth 100000 in
theorem sY_X11_tight_1 (NF : Nat) (l : Launch) (dC : Nat → ClassId) (dI : Nat → Nat → Nat) (cy : Nat → ClassId) (y0 : Nat) (r : Nat → Nat) (p0 : Int32) (v : Nat → Int32) (f : Nat → Nat → Int32) (w : Int64) (g : Nat → Int64) (hIv : YI v) (hCf : YC f) (hRf : progOK (f 4) (f 5) (v 9).toInt.toNat)  : ctI l (dC, dI) cy yX11_tight cX11_tight 1 .int 1 60 0 0 Unit [.int p0] (YW cy y0 r v f w g) (fun r u => gsY_X11_tight_1 NF p0 v f w g = r ∧ ((1 : Int) ≤ r.toInt ∧ r.toInt ≤ 6)) (fun u => YW cy y0 r v f w g) := by
  refine ctI_of (by decide) (Nat.le_of_ble_eq_true rfl) (fun p e s m below meth c A ls Q hx hb hml hts hown hE hP hD hA hl ret => ?_)
  have hown : s.vm.findClass RX11 = some m.cls := hown
  have hS : va_S A s.heap s.heap [] := va_S.rf
  have hl : lv_has ls 1 [(0, .int p0)] := hl
  refine lv_iload_n hx hb dX11_tight_0 rfl (lv_at hl 0 rfl) ?_
  by_cases c1 : p0 = 21
  · skip
    refine lv_lookup (off := 79) (tgt := 80) hx hb dX11_tight_1 (by decide) (by rw [c1]; decide) (by decide) ?_
    refine lv_iconst (v := 3) hx hb dX11_tight_80 rfl ?_
    exact ret 3 () _ _ _ _ _ _ rfl ⟨(gsY_X11_tight_1_q0 c1), ⟨by decide, by decide⟩⟩ hP hD hS dX11_tight_81 (Nat.le_refl _) (Nat.le_refl _)
  · skip
    by_cases c2 : p0 = 38
    · skip
      refine lv_lookup (off := 77) (tgt := 78) hx hb dX11_tight_1 (by decide) (by rw [c2]; decide) (by decide) ?_
      refine lv_iconst (v := 2) hx hb dX11_tight_78 rfl ?_
      exact ret 2 () _ _ _ _ _ _ rfl ⟨(gsY_X11_tight_1_q1 c1 c2), ⟨by decide, by decide⟩⟩ hP hD hS dX11_tight_79 (Nat.le_refl _) (Nat.le_refl _)
    · skip
      by_cases c3 : p0 = 43
      · skip
        refine lv_lookup (off := 83) (tgt := 84) hx hb dX11_tight_1 (by decide) (by rw [c3]; decide) (by decide) ?_
        refine lv_iconst (v := 5) hx hb dX11_tight_84 rfl ?_
        exact ret 5 () _ _ _ _ _ _ rfl ⟨(gsY_X11_tight_1_q2 c1 c2 c3), ⟨by decide, by decide⟩⟩ hP hD hS dX11_tight_85 (Nat.le_refl _) (Nat.le_refl _)
      · skip
        by_cases c4 : p0 = 45
        · skip
          refine lv_lookup (off := 83) (tgt := 84) hx hb dX11_tight_1 (by decide) (by rw [c4]; decide) (by decide) ?_
          refine lv_iconst (v := 5) hx hb dX11_tight_84 rfl ?_
          exact ret 5 () _ _ _ _ _ _ rfl ⟨(gsY_X11_tight_1_q3 c1 c2 c3 c4), ⟨by decide, by decide⟩⟩ hP hD hS dX11_tight_85 (Nat.le_refl _) (Nat.le_refl _)
        · skip
          by_cases c5 : p0 = 60
          · skip
            refine lv_lookup (off := 81) (tgt := 82) hx hb dX11_tight_1 (by decide) (by rw [c5]; decide) (by decide) ?_
            refine lv_iconst (v := 4) hx hb dX11_tight_82 rfl ?_
            exact ret 4 () _ _ _ _ _ _ rfl ⟨(gsY_X11_tight_1_q4 c1 c2 c3 c4 c5), ⟨by decide, by decide⟩⟩ hP hD hS dX11_tight_83 (Nat.le_refl _) (Nat.le_refl _)
          · skip
            by_cases c6 : p0 = 61
            · skip
              refine lv_lookup (off := 81) (tgt := 82) hx hb dX11_tight_1 (by decide) (by rw [c6]; decide) (by decide) ?_
              refine lv_iconst (v := 4) hx hb dX11_tight_82 rfl ?_
              exact ret 4 () _ _ _ _ _ _ rfl ⟨(gsY_X11_tight_1_q5 c1 c2 c3 c4 c5 c6), ⟨by decide, by decide⟩⟩ hP hD hS dX11_tight_83 (Nat.le_refl _) (Nat.le_refl _)
            · skip
              by_cases c7 : p0 = 62
              · skip
                refine lv_lookup (off := 81) (tgt := 82) hx hb dX11_tight_1 (by decide) (by rw [c7]; decide) (by decide) ?_
                refine lv_iconst (v := 4) hx hb dX11_tight_82 rfl ?_
                exact ret 4 () _ _ _ _ _ _ rfl ⟨(gsY_X11_tight_1_q6 c1 c2 c3 c4 c5 c6 c7), ⟨by decide, by decide⟩⟩ hP hD hS dX11_tight_83 (Nat.le_refl _) (Nat.le_refl _)
              · skip
                by_cases c8 : p0 = 124
                · skip
                  refine lv_lookup (off := 75) (tgt := 76) hx hb dX11_tight_1 (by decide) (by rw [c8]; decide) (by decide) ?_
                  refine lv_iconst (v := 1) hx hb dX11_tight_76 rfl ?_
                  exact ret 1 () _ _ _ _ _ _ rfl ⟨(gsY_X11_tight_1_q7 c1 c2 c3 c4 c5 c6 c7 c8), ⟨by decide, by decide⟩⟩ hP hD hS dX11_tight_77 (Nat.le_refl _) (Nat.le_refl _)
                · skip
                  refine lv_lookup (off := 85) (tgt := 86) hx hb dX11_tight_1 (by decide) (by show Op.lookupswitch.offset [(21, 79), (38, 77), (43, 83), (45, 83), (60, 81), (61, 81), (62, 81), (124, 75)] 85 p0.toInt = 85; rw [lv_osw c1 (by decide), lv_osw c2 (by decide), lv_osw c3 (by decide), lv_osw c4 (by decide), lv_osw c5 (by decide), lv_osw c6 (by decide), lv_osw c7 (by decide), lv_osw c8 (by decide)]; rfl) (by decide) ?_
                  refine lv_bipush (v := 6) hx hb dX11_tight_86 rfl ?_
                  exact ret 6 () _ _ _ _ _ _ rfl ⟨(gsY_X11_tight_1_q8 c1 c2 c3 c4 c5 c6 c7 c8), ⟨by decide, by decide⟩⟩ hP hD hS dX11_tight_88 (Nat.le_refl _) (Nat.le_refl _)
set_option maxHeartbeats 4000000 in
set_option maxRecDepth 100000 in
theorem sY_X11_mayNot_1 (NF : Nat) (l : Launch) (dC : Nat → ClassId) (dI : Nat → Nat → Nat) (cy : Nat → ClassId) (y0 : Nat) (r : Nat → Nat)  (v : Nat → Int32) (f : Nat → Nat → Int32) (w : Int64) (g : Nat → Int64) (hIv : YI v) (hCf : YC f) (hRf : progOK (f 4) (f 5) (v 9).toInt.toNat)  : ctI l (dC, dI) cy yX11_mayNot cX11_mayNot 1 .boolean 2 80 0 0 Unit [.ref y0] (YW cy y0 r v f w g) (fun r u => gsY_X11_mayNot_1 NF v f w g = r ∧ ((r = 1) ∨ (r = 0))) (fun u => YW cy y0 r v f w g) := by
  refine ctI_of (by decide) (Nat.le_of_ble_eq_true rfl) (fun p e s m below meth c A ls Q hx hb hml hts hown hE hP hD hA hl ret => ?_)
  have hown : s.vm.findClass RX11 = some m.cls := hown
  have hS : va_S A s.heap s.heap [] := va_S.rf
  have hl : lv_has ls 1 [(0, .ref y0)] := hl
  refine lv_aload_n hx hb dX11_mayNot_0 rfl (lv_at hl 0 rfl) ?_
  refine va_get (D := (dC, dI)) (ci := 11) (v := .int (v 10)) (C := RX11) (T := TX11) (N := 79) hx hb hts inB_11 hown hE.1 hP 0 rfl rfl 19 (Nat.le_of_ble_eq_true rfl) (hts _ k_1339) (fun _ h9 => h9) rfl dX11_mayNot_1 ?_
  have b10_v : 0 ≤ (v 10).toInt ∧ (v 10).toInt ≤ 160 := Yb_10 hIv.1
  refine lv_if_eq (tgt := 41) hx hb dX11_mayNot_4 rfl (fun c1 => ?_) (fun c1 => ?_)
  · skip
    refine lv_iconst (v := 1) hx hb dX11_mayNot_41 rfl ?_
    refine lv_goto (tgt := 46) hx hb dX11_mayNot_42 rfl ?_
    exact ret 1 () _ _ _ _ _ _ rfl ⟨(gsY_X11_mayNot_1_q0 c1), (Or.inl rfl)⟩ hP hD hS dX11_mayNot_46 (Nat.le_refl _) (Nat.le_refl _)
  · skip
    have zc1 : ¬ ((v 10).toInt = 0) := zEn rfl tc_0 c1
    refine lv_aload_n hx hb dX11_mayNot_7 rfl (lv_at hl 0 rfl) ?_
    refine va_get (D := (dC, dI)) (ci := 11) (v := .ref (r 15)) (C := RX11) (T := TX11) (N := 79) hx hb hts inB_11 hown hE.1 hP 0 rfl rfl 15 (Nat.le_of_ble_eq_true rfl) (hts _ k_1335) (fun _ h9 => h9) rfl dX11_mayNot_8 ?_
    refine lv_aload_n hx hb dX11_mayNot_11 rfl (lv_at hl 0 rfl) ?_
    refine va_get (D := (dC, dI)) (ci := 11) (v := .int (v 10)) (C := RX11) (T := TX11) (N := 79) hx hb hts inB_11 hown hE.1 hP 0 rfl rfl 19 (Nat.le_of_ble_eq_true rfl) (hts _ k_1339) (fun _ h9 => h9) rfl dX11_mayNot_12 ?_
    refine lv_iconst (v := 1) hx hb dX11_mayNot_15 rfl ?_
    refine lv_isub hx hb dX11_mayNot_16 ?_
    refine lv_topi (fun t2 et2 => ?_)
    have zt2 : t2.toInt = (v 10).toInt - 1 := (congrArg Int32.toInt et2).trans (sub_i rfl tc_1 (om_361 b10_v) (om_362 b10_v))
    refine ldI hx hb hE hP 7 rfl (vpI (k := 160) rfl (show 0 ≤ t2.toInt from om_363 b10_v zc1 zt2) (show t2.toInt < 160 from om_364 b10_v zt2)) rfl rfl dX11_mayNot_17 ?_
    refine lv_topi (fun t4 et4 => ?_)
    refine lv_bipush (v := 20) hx hb dX11_mayNot_18 rfl ?_
    refine lv_icmp_eq (tgt := 41) hx hb dX11_mayNot_20 rfl (fun c5 => ?_) (fun c5 => ?_)
    · skip
      refine lv_iconst (v := 1) hx hb dX11_mayNot_41 rfl ?_
      refine lv_goto (tgt := 46) hx hb dX11_mayNot_42 rfl ?_
      exact ret 1 () _ _ _ _ _ _ rfl ⟨(gsY_X11_mayNot_1_q1 c1 et2 et4 c5), (Or.inl rfl)⟩ hP hD hS dX11_mayNot_46 (Nat.le_refl _) (Nat.le_refl _)
    · skip
      refine lv_aload_n hx hb dX11_mayNot_23 rfl (lv_at hl 0 rfl) ?_
      refine va_get (D := (dC, dI)) (ci := 11) (v := .ref (r 15)) (C := RX11) (T := TX11) (N := 79) hx hb hts inB_11 hown hE.1 hP 0 rfl rfl 15 (Nat.le_of_ble_eq_true rfl) (hts _ k_1335) (fun _ h9 => h9) rfl dX11_mayNot_24 ?_
      refine lv_aload_n hx hb dX11_mayNot_27 rfl (lv_at hl 0 rfl) ?_
      refine va_get (D := (dC, dI)) (ci := 11) (v := .int (v 10)) (C := RX11) (T := TX11) (N := 79) hx hb hts inB_11 hown hE.1 hP 0 rfl rfl 19 (Nat.le_of_ble_eq_true rfl) (hts _ k_1339) (fun _ h9 => h9) rfl dX11_mayNot_28 ?_
      refine lv_iconst (v := 1) hx hb dX11_mayNot_31 rfl ?_
      refine lv_isub hx hb dX11_mayNot_32 ?_
      refine tI (y := t2) et2.symm ?_
      refine ldI hx hb hE hP 7 rfl (vpI (k := 160) rfl (show 0 ≤ t2.toInt from om_363 b10_v zc1 zt2) (show t2.toInt < 160 from om_364 b10_v zt2)) rfl rfl dX11_mayNot_33 ?_
      refine tI (y := t4) et4.symm ?_
      refine cbSi (n := 1) (rest := []) hx hb hml hown hts hE hP hD hS hA (sY_X11_tight_1 NF l dC dI cy y0 r t4 v f w g hIv hCf hRf ) k_1677 k_1678 k_114 k_1679 he_yX11_tight ⟨Nat.le_of_ble_eq_true rfl, Nat.le_of_ble_eq_true rfl⟩ (rfl) hl.1 rfl (Nat.le_of_ble_eq_true rfl) dX11_mayNot_34 (fun r6 u H locs hw hP hD hS => ?_)
      obtain ⟨hG7, hw⟩ := hw
      refine lv_iconst (v := 4) hx hb dX11_mayNot_37 rfl ?_
      refine lv_icmp_ge (tgt := 45) hx hb dX11_mayNot_38 rfl (fun c8 => ?_) (fun c8 => ?_)
      · skip
        refine lv_iconst (v := 0) hx hb dX11_mayNot_45 rfl ?_
        exact ret 0 () _ _ _ _ _ _ rfl ⟨(gsY_X11_mayNot_1_q2 c1 et2 et4 c5 hG7.symm c8), (Or.inr rfl)⟩ hP hD hS dX11_mayNot_46 (Nat.le_refl _) (Nat.le_refl _)
      · skip
        refine lv_iconst (v := 1) hx hb dX11_mayNot_41 rfl ?_
        refine lv_goto (tgt := 46) hx hb dX11_mayNot_42 rfl ?_
        exact ret 1 () _ _ _ _ _ _ rfl ⟨(gsY_X11_mayNot_1_q3 c1 et2 et4 c5 hG7.symm c8), (Or.inl rfl)⟩ hP hD hS dX11_mayNot_46 (Nat.le_refl _) (Nat.le_refl _)
set_option maxHeartbeats 4000000 in
set_option maxRecDepth 100000 in
theorem sY_X11_unit_1_jp101 (NF : Nat) (l : Launch) (dC : Nat → ClassId) (dI : Nat → Nat → Nat) (cy : Nat → ClassId) (y0 : Nat) (r : Nat → Nat)  (v : Nat → Int32) (f : Nat → Nat → Int32) (w : Int64) (g : Nat → Int64) (hIv : YI v) (hCf : YC f) (hRf : progOK (f 4) (f 5) (v 9).toInt.toNat)  (hf0 : (v 8).toInt + (v 10).toInt ≤ 10 * (v 13).toInt + 1) (hf1 : (v 10).toInt ≤ (v 14).toInt + (v 13).toInt + 1) (hf2 : (v 13).toInt ≤ 30) (hf3 : (v 14).toInt ≤ 7) (hg0 : FI 0 (v 10).toInt (v 14).toInt (v 8).toInt (f 6) (f 2) (f 3)) {p : Program} {e : Env} {s : State} {m : MethodId} {below : List Frame} {meth : Method} {c : Code} {A : Nat → Prop} {Q : State → Prop} (hx : p.tables.exec = Jvm.exec) (hb : c.code = cX11_unit) (hml : c.maxLocals = 3) (hts : ∀ w ∈ BIG, w.before ([.ref y0] : List Value).toArray s = true) (hown : s.vm.findClass RX11 = some m.cls) (hE : ENV (dC, dI) cy s) (hA : ∀ q, s.heap.size ≤ q → A q) (ret : ∀ (u : ((Nat → Int32) × (Nat → Nat → Int32) × (Int64) × (Nat → Int64))) (H : Heap) (locs : List Loc) (pc cells slots : Nat) (ls : Array Slot), (gsY_X11_unit_1 NF v f w g = u ∧ KV [1, 2, 3, 5, 6, 7, 8, 10, 11, 13, 14] u.1 v ∧ KF [2, 3, 6] u.2.1 f ∧ YI u.1 ∧ YC u.2.1 ∧ progOK (u.2.1 4) (u.2.1 5) (u.1 9).toInt.toNat ∧ u.1 0 = v 0 ∧ u.1 4 = v 4 ∧ u.1 9 = v 9 ∧ u.1 15 = v 15 ∧ u.1 17 = v 17 ∧ u.1 18 = v 18 ∧ u.1 24 = v 24 ∧ u.1 25 = v 25 ∧ u.1 35 = v 35 ∧ u.1 36 = v 36 ∧ u.1 38 = v 38 ∧ u.1 39 = v 39 ∧ (GR (v 3).toInt (v 5).toInt (u.1 3).toInt (u.1 5).toInt) ∧ (IM0 (u.1 1).toInt (FI 1 (u.1 10).toInt (u.1 14).toInt (u.1 8).toInt (u.2.1 6) (u.2.1 2) (u.2.1 3))) ∧ (NB (u.1 1).toInt (u.1 8).toInt (u.1 10).toInt (u.1 13).toInt (u.1 14).toInt) ∧ (UG (u.1 1).toInt (v 13).toInt (u.1 13).toInt)) → va_P (dC, dI) vwCl (YW cy y0 r u.1 u.2.1 u.2.2.1 u.2.2.2) H → va_D A (YW cy y0 r u.1 u.2.1 u.2.2.1 u.2.2.2) → va_S A s.heap H locs → decode cX11_unit pc = .ok (.return_, 1) → cells ≤ 0 → slots ≤ 0 → W p l e { frames := 4, cells := 0, slots := 0, locals := 124 } s m ([.ref y0] : List Value).toArray below meth c H locs cells slots Q (F0 m pc ls [])) (n1 : Nat) (ih1 : ∀ (l1_1 : Int32) (v1 : Nat → Int32) (f1 : Nat → Nat → Int32) (w1 : Int64) (g1 : Nat → Int64), YI v1 → YC f1 → progOK (f1 4) (f1 5) (v1 9).toInt.toNat → v1 0 = (v 0) → v1 4 = (v 4) → v1 8 = (v 8) → v1 9 = (v 9) → v1 15 = (v 15) → v1 17 = (v 17) → v1 18 = (v 18) → v1 24 = (v 24) → v1 25 = (v 25) → v1 35 = (v 35) → v1 36 = (v 36) → v1 38 = (v 38) → v1 39 = (v 39) → gsY_X11_unit_1_L1 NF n1 l1_1 v1 f1 w1 g1 = (gsY_X11_unit_1 NF v f w g) → ((0 : Int) ≤ l1_1.toInt ∧ l1_1.toInt ≤ 1) → (IM0 (v1 1).toInt (FI 0 (v1 10).toInt (v1 14).toInt (v1 8).toInt (f1 6) (f1 2) (f1 3))) → (NU (v1 1).toInt (v1 8).toInt (v1 10).toInt (v1 13).toInt (v1 14).toInt) → (GR (v 3).toInt (v 5).toInt (v1 3).toInt (v1 5).toInt) → ((v 13).toInt ≤ (v1 13).toInt) → KV [1, 2, 3, 5, 6, 7, 8, 10, 11, 13, 14] v1 v → KF [2, 3, 6] f1 f → f1 2 = (f 2) → f1 3 = (f 3) → (2 * (9 - (v1 14).toInt) + l1_1.toInt).toNat < n1 → ∀ (H : Heap) (locs : List Loc) (ls : Array Slot), va_P (dC, dI) vwCl (YW cy y0 r v1 f1 w1 g1) H → va_D A (YW cy y0 r v1 f1 w1 g1) → va_S A s.heap H locs → lv_has ls 3 [(1, .int l1_1), (0, .ref y0)] → W p l e { frames := 4, cells := 0, slots := 0, locals := 124 } s m ([.ref y0] : List Value).toArray below meth c H locs 0 0 Q (F0 m 2 ls [])) (l1_1 : Int32) (v1 : Nat → Int32) (f1 : Nat → Nat → Int32) (w1 : Int64) (g1 : Nat → Int64) (hIv1 : YI v1) (hCf1 : YC f1) (hRf1 : progOK (f1 4) (f1 5) (v1 9).toInt.toNat) (hq0_v1 : v1 0 = (v 0)) (hq4_v1 : v1 4 = (v 4)) (hq8_v1 : v1 8 = (v 8)) (hq9_v1 : v1 9 = (v 9)) (hq15_v1 : v1 15 = (v 15)) (hq17_v1 : v1 17 = (v 17)) (hq18_v1 : v1 18 = (v 18)) (hq24_v1 : v1 24 = (v 24)) (hq25_v1 : v1 25 = (v 25)) (hq35_v1 : v1 35 = (v 35)) (hq36_v1 : v1 36 = (v 36)) (hq38_v1 : v1 38 = (v 38)) (hq39_v1 : v1 39 = (v 39)) (hT1 : gsY_X11_unit_1_L1 NF (n1 + 1) l1_1 v1 f1 w1 g1 = (gsY_X11_unit_1 NF v f w g)) (hr1_1 : ((0 : Int) ≤ l1_1.toInt ∧ l1_1.toInt ≤ 1)) (hx0_1 : (IM0 (v1 1).toInt (FI 0 (v1 10).toInt (v1 14).toInt (v1 8).toInt (f1 6) (f1 2) (f1 3)))) (hx1_1 : (NU (v1 1).toInt (v1 8).toInt (v1 10).toInt (v1 13).toInt (v1 14).toInt)) (hx2_1 : (GR (v 3).toInt (v 5).toInt (v1 3).toInt (v1 5).toInt)) (hx3_1 : ((v 13).toInt ≤ (v1 13).toInt)) (hM_v1 : KV [1, 2, 3, 5, 6, 7, 8, 10, 11, 13, 14] v1 v) (hA_f1 : KF [2, 3, 6] f1 f) (hs2_f1 : f1 2 = (f 2)) (hs3_f1 : f1 3 = (f 3)) (hm1 : (2 * (9 - (v1 14).toInt) + l1_1.toInt).toNat < (n1 + 1)) : ∀ (H : Heap) (locs : List Loc) (ls : Array Slot), gsY_X11_unit_1_J2 NF f1 g1 v1 w1 = (gsY_X11_unit_1 NF v f w g) → va_P (dC, dI) vwCl (YW cy y0 r v1 f1 w1 g1) H → va_D A (YW cy y0 r v1 f1 w1 g1) → va_S A s.heap H locs → lv_has ls 3 [(1, .int l1_1), (0, .ref y0)] → W p l e { frames := 4, cells := 0, slots := 0, locals := 124 } s m ([.ref y0] : List Value).toArray below meth c H locs 0 0 Q (F0 m 101 ls []) := by
  have hUv : (v 35).toInt + (v 36).toInt ≤ 40 := hIv.2
  have hM_v : KV [1, 2, 3, 5, 6, 7, 8, 10, 11, 13, 14] v v := fun _ _ => rfl
  have hA_f : KF [2, 3, 6] f f := fun _ _ => rfl
  have hFI := hg0
  have b1_v : (0 : Int) ≤ (v 1).toInt ∧ (v 1).toInt ≤ 4 := Yb_1 hIv.1
  have b3_v : (0 : Int) ≤ (v 3).toInt ∧ (v 3).toInt ≤ 1600 := Yb_3 hIv.1
  have b8_v : (0 : Int) ≤ (v 8).toInt ∧ (v 8).toInt ≤ 320 := Yb_8 hIv.1
  have b10_v : (0 : Int) ≤ (v 10).toInt ∧ (v 10).toInt ≤ 160 := Yb_10 hIv.1
  have b13_v : (0 : Int) ≤ (v 13).toInt ∧ (v 13).toInt ≤ 31 := Yb_13 hIv.1
  have b14_v : (0 : Int) ≤ (v 14).toInt ∧ (v 14).toInt ≤ 8 := Yb_14 hIv.1
  have hGR : GR (v 3).toInt (v 5).toInt (v 3).toInt (v 5).toInt := GR.refl _ _
  have hUv1 : (v1 35).toInt + (v1 36).toInt ≤ 40 := hIv1.2
  have zq8_v1 := congrArg Int32.toInt hq8_v1
  have b1_v1 : 0 ≤ (v1 1).toInt ∧ (v1 1).toInt ≤ 4 := Yb_1 hIv1.1
  have b10_v1 : 0 ≤ (v1 10).toInt ∧ (v1 10).toInt ≤ 160 := Yb_10 hIv1.1
  have b14_v1 : 0 ≤ (v1 14).toInt ∧ (v1 14).toInt ≤ 8 := Yb_14 hIv1.1
  have b8_v1 : 0 ≤ (v1 8).toInt ∧ (v1 8).toInt ≤ 320 := Yb_8 hIv1.1
  have b8_v : 0 ≤ (v 8).toInt ∧ (v 8).toInt ≤ 320 := Yb_8 hIv.1
  have b13_v1 : 0 ≤ (v1 13).toInt ∧ (v1 13).toInt ≤ 31 := Yb_13 hIv1.1
  have b3_v1 : 0 ≤ (v1 3).toInt ∧ (v1 3).toInt ≤ 1600 := Yb_3 hIv1.1
  rw [hs2_f1] at hx0_1
  rw [hs3_f1] at hx0_1
  have hFJ := hx0_1
  have hNU := hx1_1
  have hGR := hx2_1
  intro H locs ls hT2 hP hD hS hl
  refine lv_aload_n hx hb dX11_unit_101 rfl (lv_at hl 1 rfl) ?_
  refine va_get (D := (dC, dI)) (ci := 11) (v := .int (v1 1)) (C := RX11) (T := TX11) (N := 79) hx hb hts inB_11 hown hE.1 hP 0 rfl rfl 2 (Nat.le_of_ble_eq_true rfl) (hts _ k_1322) (fun _ h9 => h9) rfl dX11_unit_102 ?_
  refine lv_if_le (tgt := 109) hx hb dX11_unit_105 rfl (fun c3 => ?_) (fun c3 => ?_)
  · skip
    have zc3 : (v1 1).toInt ≤ 0 := zMp rfl tc_0 c3
    obtain ⟨hn1, hn2, hn3, hn4⟩ := hNU (by omega)
    refine lv_aload_n hx hb dX11_unit_109 rfl (lv_at hl 1 rfl) ?_
    refine cbVi (n := 0) (rest := []) hx hb hml hown hts hE hP hD hS hA (sY_X11_asked_1 NF l dC dI cy y0 r  v1 f1 w1 g1 hIv1 hCf1 hRf1 ) k_1692 k_1694 k_62 k_114 k_1695 hd_yX11_asked ⟨Nat.le_of_ble_eq_true rfl, Nat.le_of_ble_eq_true rfl⟩ 0 11 rfl rfl (rfl) hl.1 rfl (Nat.le_of_ble_eq_true rfl) dX11_unit_110 (fun r4 u H locs hw hP hD hS => ?_)
    obtain ⟨hG5, hw⟩ := hw
    have pw_r4 : (-1 : Int) ≤ r4.toInt ∧ r4.toInt ≤ 5 := hw
    refine lv_istore_n (lv' := [(2, .int r4), (1, .int l1_1), (0, .ref y0)]) hx hb dX11_unit_113 rfl hl (Nat.le_of_ble_eq_true rfl) rfl (fun ls hl => ?_)
    have jp133 : ∀ (H : Heap) (locs : List Loc) (ls : Array Slot), gsY_X11_unit_1_J6 NF f1 g1 v1 w1 r4 = (gsY_X11_unit_1 NF v f w g) → va_P (dC, dI) vwCl (YW cy y0 r v1 f1 w1 g1) H → va_D A (YW cy y0 r v1 f1 w1 g1) → va_S A s.heap H locs → lv_has ls 3 [(2, .int r4), (1, .int l1_1), (0, .ref y0)] → W p l e { frames := 4, cells := 0, slots := 0, locals := 124 } s m ([.ref y0] : List Value).toArray below meth c H locs 0 0 Q (F0 m 133 ls []) := by
      intro H locs ls hT6 hP hD hS hl
      refine lv_aload_n hx hb dX11_unit_133 rfl (lv_at hl 2 rfl) ?_
      refine lv_iconst (v := 2) hx hb dX11_unit_134 rfl ?_
      refine cbVv (n := 1) (rest := []) hx hb hml hown hts hE hP hD hS hA (sY_X11_wrong_1 NF l dC dI cy y0 r 2 v1 f1 w1 g1 hIv1 hCf1 hRf1 ⟨by decide, by decide⟩) k_1641 k_1643 k_50 k_114 k_1644 hd_yX11_wrong ⟨Nat.le_of_ble_eq_true rfl, Nat.le_of_ble_eq_true rfl⟩ 0 11 rfl rfl (rfl) hl.1 rfl (Nat.le_of_ble_eq_true rfl) dX11_unit_135 (fun u H locs hw hP hD hS => ?_)
      obtain ⟨hG7, hw⟩ := hw
      obtain ⟨v8, f9, w10, g11⟩ := u
      obtain ⟨kV_v8, kF_f9, hIv8, hCf9, hRf9, hk0_v8, hk3_v8, hk4_v8, hk5_v8, hk8_v8, hk9_v8, hk10_v8, hk13_v8, hk14_v8, hk15_v8, hk17_v8, hk18_v8, hk24_v8, hk25_v8, hk35_v8, hk36_v8, hk38_v8, hk39_v8, pv12, pv13, pv14, kq15, kq16, kq17⟩ := hw
      have hM_v8 : KV [1, 2, 3, 5, 6, 7, 8, 10, 11, 13, 14] v8 v := KV.tr kV_v8 hM_v1 rfl
      have hA_f9 : KF [2, 3, 6] f9 f := KF.tr kF_f9 hA_f1 rfl
      have hP : va_P (dC, dI) vwCl (YW cy y0 r v8 f9 w10 g11) H := hP
      have hD : va_D A (YW cy y0 r v8 f9 w10 g11) := hD
      have b3_v8 : 0 ≤ (v8 3).toInt ∧ (v8 3).toInt ≤ 1600 := Yb_3 hIv8.1
      have b1_v8 : 0 ≤ (v8 1).toInt ∧ (v8 1).toInt ≤ 4 := Yb_1 hIv8.1
      have pv12 : (v1 3).toInt ≤ (v8 3).toInt := pv12
      have pv13 : (v8 5).toInt = (v1 5).toInt ∨ (v1 3).toInt < (v8 3).toInt ∨ ¬ (v8 5).toInt = 59 := pv13
      have pv14 : 0 < (v8 1).toInt := pv14
      have hs2_f9 : f9 2 = (f 2) := kq15.trans hs2_f1
      have hs3_f9 : f9 3 = (f 3) := kq16.trans hs3_f1
      have hs6_f9 : f9 6 = (f1 6) := kq17
      have hUv8 : (v8 35).toInt + (v8 36).toInt ≤ 40 := hIv8.2
      have hq3_v8 : v8 3 = (v1 3) := hk3_v8
      have zq3_v8 := congrArg Int32.toInt hq3_v8
      have hq5_v8 : v8 5 = (v1 5) := hk5_v8
      have zq5_v8 := congrArg Int32.toInt hq5_v8
      have hq8_v8 : v8 8 = (v 8) := hk8_v8.trans hq8_v1
      have zq8_v8 := congrArg Int32.toInt hq8_v8
      have hq10_v8 : v8 10 = (v1 10) := hk10_v8
      have zq10_v8 := congrArg Int32.toInt hq10_v8
      have hq13_v8 : v8 13 = (v1 13) := hk13_v8
      have zq13_v8 := congrArg Int32.toInt hq13_v8
      have hq14_v8 : v8 14 = (v1 14) := hk14_v8
      have zq14_v8 := congrArg Int32.toInt hq14_v8
      have hGR : GR (v 3).toInt (v 5).toInt (v8 3).toInt (v8 5).toInt := GR.tr hGR (show GR (v1 3).toInt (v1 5).toInt (v8 3).toInt (v8 5).toInt from ⟨pv12, pv13⟩) (by first | with_reducible rfl | with_reducible assumption | rfl | omega) (by first | with_reducible rfl | with_reducible assumption | rfl | omega)
      clear pv13
      refine lv_aload_n hx hb dX11_unit_138 rfl (lv_at hl 2 rfl) ?_
      refine va_get (D := (dC, dI)) (ci := 11) (v := .int (v8 1)) (C := RX11) (T := TX11) (N := 79) hx hb hts inB_11 hown hE.1 hP 0 rfl rfl 2 (Nat.le_of_ble_eq_true rfl) (hts _ k_1322) (fun _ h9 => h9) rfl dX11_unit_139 ?_
      have b1_v8 : 0 ≤ (v8 1).toInt ∧ (v8 1).toInt ≤ 4 := Yb_1 hIv8.1
      refine lv_if_le (tgt := 146) hx hb dX11_unit_142 rfl (fun c18 => ?_) (fun c18 => ?_)
      · skip
        have zc18 : (v8 1).toInt ≤ 0 := zMp rfl tc_0 c18
        refine lv_aload_n hx hb dX11_unit_146 rfl (lv_at hl 2 rfl) ?_
        refine cbVv (n := 0) (rest := []) hx hb hml hown hts hE hP hD hS hA (sY_X11_countUnit_1 NF l dC dI cy y0 r  v8 f9 w10 g11 hIv8 hCf9 hRf9 (by show (v8 13).toInt ≤ 30; omega)) k_1688 k_1690 k_61 k_114 k_1691 hd_yX11_countUnit ⟨Nat.le_of_ble_eq_true rfl, Nat.le_of_ble_eq_true rfl⟩ 0 11 rfl rfl (rfl) hl.1 rfl (Nat.le_of_ble_eq_true rfl) dX11_unit_147 (fun u H locs hw hP hD hS => ?_)
        obtain ⟨hG19, hw⟩ := hw
        obtain ⟨v20, f21, w22, g23⟩ := u
        obtain ⟨kV_v20, kF_f21, hIv20, hCf21, hRf21, hk0_v20, hk1_v20, hk2_v20, hk3_v20, hk4_v20, hk5_v20, hk8_v20, hk9_v20, hk10_v20, hk14_v20, hk15_v20, hk17_v20, hk18_v20, hk24_v20, hk25_v20, hk35_v20, hk36_v20, hk38_v20, hk39_v20, pv24, kq25, kq26, kq27⟩ := hw
        have hM_v20 : KV [1, 2, 3, 5, 6, 7, 8, 10, 11, 13, 14] v20 v := KV.tr kV_v20 hM_v8 rfl
        have hA_f21 : KF [2, 3, 6] f21 f := KF.tr kF_f21 hA_f9 rfl
        have hP : va_P (dC, dI) vwCl (YW cy y0 r v20 f21 w22 g23) H := hP
        have hD : va_D A (YW cy y0 r v20 f21 w22 g23) := hD
        have b13_v20 : 0 ≤ (v20 13).toInt ∧ (v20 13).toInt ≤ 31 := Yb_13 hIv20.1
        have pv24 : (v20 13).toInt = (v8 13).toInt + 1 := pv24
        have hs2_f21 : f21 2 = (f 2) := kq25.trans hs2_f9
        have hs3_f21 : f21 3 = (f 3) := kq26.trans hs3_f9
        have hs6_f21 : f21 6 = (f1 6) := kq27.trans hs6_f9
        have hUv20 : (v20 35).toInt + (v20 36).toInt ≤ 40 := hIv20.2
        have hq1_v20 : v20 1 = (v8 1) := hk1_v20
        have zq1_v20 := congrArg Int32.toInt hq1_v20
        have hq3_v20 : v20 3 = (v1 3) := hk3_v20.trans hq3_v8
        have zq3_v20 := congrArg Int32.toInt hq3_v20
        have hq5_v20 : v20 5 = (v1 5) := hk5_v20.trans hq5_v8
        have zq5_v20 := congrArg Int32.toInt hq5_v20
        have hq8_v20 : v20 8 = (v 8) := hk8_v20.trans hq8_v8
        have zq8_v20 := congrArg Int32.toInt hq8_v20
        have hq10_v20 : v20 10 = (v1 10) := hk10_v20.trans hq10_v8
        have zq10_v20 := congrArg Int32.toInt hq10_v20
        have hq14_v20 : v20 14 = (v1 14) := hk14_v20.trans hq14_v8
        have zq14_v20 := congrArg Int32.toInt hq14_v20
        refine lv_aload_n hx hb dX11_unit_150 rfl (lv_at hl 2 rfl) ?_
        refine lv_iload_n hx hb dX11_unit_151 rfl (lv_at hl 0 rfl) ?_
        refine lv_if_ge (tgt := 159) hx hb dX11_unit_152 rfl (fun c28 => ?_) (fun c28 => ?_)
        · skip
          have zc28 : 0 ≤ r4.toInt := zMp tc_0 rfl c28
          refine lv_iconst (v := 1) hx hb dX11_unit_159 rfl ?_
          refine lv_iload_n hx hb dX11_unit_160 rfl (lv_at hl 0 rfl) ?_
          refine lv_if_ge (tgt := 171) hx hb dX11_unit_161 rfl (fun c29 => ?_) (fun c29 => ?_)
          · skip
            have zc29 : 0 ≤ r4.toInt := zMp tc_0 rfl c29
            refine lv_iload_n hx hb dX11_unit_171 rfl (lv_at hl 0 rfl) ?_
            refine cbVv (n := 2) (rest := []) hx hb hml hown hts hE hP hD hS hA (sY_X11_add_1 NF l dC dI cy y0 r 1 r4 v20 f21 w22 g23 hIv20 hCf21 hRf21 (show (v20 8).toInt ≤ 319 from om_365 hf0 hf2 b10_v zq8_v20)) k_1696 k_1698 k_63 k_114 k_1699 hd_yX11_add ⟨Nat.le_of_ble_eq_true rfl, Nat.le_of_ble_eq_true rfl⟩ 0 11 rfl rfl (rfl) hl.1 rfl (Nat.le_of_ble_eq_true rfl) dX11_unit_172 (fun u H locs hw hP hD hS => ?_)
            obtain ⟨hG30, hw⟩ := hw
            obtain ⟨v31, f32, w33, g34⟩ := u
            obtain ⟨kV_v31, kF_f32, hIv31, hCf32, hRf32, hk0_v31, hk1_v31, hk2_v31, hk3_v31, hk4_v31, hk5_v31, hk9_v31, hk10_v31, hk13_v31, hk14_v31, hk15_v31, hk17_v31, hk18_v31, hk24_v31, hk25_v31, hk35_v31, hk36_v31, hk38_v31, hk39_v31, pv35, pg36, pg37, kq38⟩ := hw
            have hM_v31 : KV [1, 2, 3, 5, 6, 7, 8, 10, 11, 13, 14] v31 v := KV.tr kV_v31 hM_v20 rfl
            have hA_f32 : KF [2, 3, 6] f32 f := KF.tr kF_f32 hA_f21 rfl
            have hP : va_P (dC, dI) vwCl (YW cy y0 r v31 f32 w33 g34) H := hP
            have hD : va_D A (YW cy y0 r v31 f32 w33 g34) := hD
            have b8_v31 : 0 ≤ (v31 8).toInt ∧ (v31 8).toInt ≤ 320 := Yb_8 hIv31.1
            have pv35 : (v31 8).toInt = (v20 8).toInt + 1 := pv35
            have pg36 : (f32 2) = upd (f21 2) ((v20 8).toInt).toNat 1 := pg36
            rw [hs2_f21] at pg36
            have pg37 : (f32 3) = upd (f21 3) ((v20 8).toInt).toNat r4 := pg37
            rw [hs3_f21] at pg37
            have hs6_f32 : f32 6 = (f1 6) := kq38.trans hs6_f21
            have hUv31 : (v31 35).toInt + (v31 36).toInt ≤ 40 := hIv31.2
            have hq1_v31 : v31 1 = (v8 1) := hk1_v31.trans hq1_v20
            have zq1_v31 := congrArg Int32.toInt hq1_v31
            have hq3_v31 : v31 3 = (v1 3) := hk3_v31.trans hq3_v20
            have zq3_v31 := congrArg Int32.toInt hq3_v31
            have hq5_v31 : v31 5 = (v1 5) := hk5_v31.trans hq5_v20
            have zq5_v31 := congrArg Int32.toInt hq5_v31
            have hq10_v31 : v31 10 = (v1 10) := hk10_v31.trans hq10_v20
            have zq10_v31 := congrArg Int32.toInt hq10_v31
            have hq13_v31 : v31 13 = (v20 13) := hk13_v31
            have zq13_v31 := congrArg Int32.toInt hq13_v31
            have hq14_v31 : v31 14 = (v1 14) := hk14_v31.trans hq14_v20
            have zq14_v31 := congrArg Int32.toInt hq14_v31
            have hFU : FI 1 (v31 10).toInt (v31 14).toInt (v31 8).toInt (f1 6) (f32 2) (f32 3) := FI.unit (hFJ (by omega)) pg36 pg37 (by omega) (Or.inr ⟨rfl, by omega, by omega⟩) (by omega) (by first | with_reducible rfl | with_reducible assumption | rfl | omega) (by first | with_reducible rfl | with_reducible assumption | rfl | omega) (by first | with_reducible rfl | with_reducible assumption | rfl | omega)
            refine lv_aload_n hx hb dX11_unit_175 rfl (lv_at hl 2 rfl) ?_
            refine cbVv (n := 0) (rest := []) hx hb hml hown hts hE hP hD hS hA (sY_X11_token_1 NF l dC dI cy y0 r  v31 f32 w33 g34 hIv31 hCf32 hRf32 ) k_1579 k_1581 k_42 k_114 k_1582 hd_yX11_token ⟨Nat.le_of_ble_eq_true rfl, Nat.le_of_ble_eq_true rfl⟩ 0 11 rfl rfl (rfl) hl.1 rfl (Nat.le_of_ble_eq_true rfl) dX11_unit_176 (fun u H locs hw hP hD hS => ?_)
            obtain ⟨hG39, hw⟩ := hw
            obtain ⟨v40, f41, w42, g43⟩ := u
            obtain ⟨kV_v40, kF_f41, hIv40, hCf41, hRf41, hk0_v40, hk1_v40, hk2_v40, hk4_v40, hk8_v40, hk9_v40, hk10_v40, hk13_v40, hk14_v40, hk15_v40, hk17_v40, hk18_v40, hk24_v40, hk25_v40, hk35_v40, hk36_v40, hk38_v40, hk39_v40, pv44, pv45, kq46, kq47, kq48⟩ := hw
            have hM_v40 : KV [1, 2, 3, 5, 6, 7, 8, 10, 11, 13, 14] v40 v := KV.tr kV_v40 hM_v31 rfl
            have hA_f41 : KF [2, 3, 6] f41 f := KF.tr kF_f41 hA_f32 rfl
            have hP : va_P (dC, dI) vwCl (YW cy y0 r v40 f41 w42 g43) H := hP
            have hD : va_D A (YW cy y0 r v40 f41 w42 g43) := hD
            have b3_v40 : 0 ≤ (v40 3).toInt ∧ (v40 3).toInt ≤ 1600 := Yb_3 hIv40.1
            have pv44 : (v31 3).toInt ≤ (v40 3).toInt := pv44
            have pv45 : (v40 5).toInt = (v31 5).toInt ∨ (v31 3).toInt < (v40 3).toInt ∨ ¬ (v40 5).toInt = 59 := pv45
            have hs2_f41 : f41 2 = (f32 2) := kq46
            have hs3_f41 : f41 3 = (f32 3) := kq47
            have hs6_f41 : f41 6 = (f1 6) := kq48.trans hs6_f32
            have hUv40 : (v40 35).toInt + (v40 36).toInt ≤ 40 := hIv40.2
            have hq1_v40 : v40 1 = (v8 1) := hk1_v40.trans hq1_v31
            have zq1_v40 := congrArg Int32.toInt hq1_v40
            have hq8_v40 : v40 8 = (v31 8) := hk8_v40
            have zq8_v40 := congrArg Int32.toInt hq8_v40
            have hq10_v40 : v40 10 = (v1 10) := hk10_v40.trans hq10_v31
            have zq10_v40 := congrArg Int32.toInt hq10_v40
            have hq13_v40 : v40 13 = (v20 13) := hk13_v40.trans hq13_v31
            have zq13_v40 := congrArg Int32.toInt hq13_v40
            have hq14_v40 : v40 14 = (v1 14) := hk14_v40.trans hq14_v31
            have zq14_v40 := congrArg Int32.toInt hq14_v40
            have hGR : GR (v 3).toInt (v 5).toInt (v40 3).toInt (v40 5).toInt := GR.tr hGR (show GR (v31 3).toInt (v31 5).toInt (v40 3).toInt (v40 5).toInt from ⟨pv44, pv45⟩) (by first | with_reducible rfl | with_reducible assumption | rfl | omega) (by first | with_reducible rfl | with_reducible assumption | rfl | omega)
            clear pv45
            exact ret (v40, f41, w42, g43) _ _ _ _ _ _ ⟨(hT6.symm.trans (gsY_X11_unit_1_q0 hG7 c18 hG19 c28 c29 hG30 hG39)), hM_v40, hA_f41, hIv40, hCf41, hRf41, (hk0_v40.trans (hk0_v31.trans (hk0_v20.trans (hk0_v8.trans (show v1 0 = v 0 from hq0_v1))))), (hk4_v40.trans (hk4_v31.trans (hk4_v20.trans (hk4_v8.trans (show v1 4 = v 4 from hq4_v1))))), (hk9_v40.trans (hk9_v31.trans (hk9_v20.trans (hk9_v8.trans (show v1 9 = v 9 from hq9_v1))))), (hk15_v40.trans (hk15_v31.trans (hk15_v20.trans (hk15_v8.trans (show v1 15 = v 15 from hq15_v1))))), (hk17_v40.trans (hk17_v31.trans (hk17_v20.trans (hk17_v8.trans (show v1 17 = v 17 from hq17_v1))))), (hk18_v40.trans (hk18_v31.trans (hk18_v20.trans (hk18_v8.trans (show v1 18 = v 18 from hq18_v1))))), (hk24_v40.trans (hk24_v31.trans (hk24_v20.trans (hk24_v8.trans (show v1 24 = v 24 from hq24_v1))))), (hk25_v40.trans (hk25_v31.trans (hk25_v20.trans (hk25_v8.trans (show v1 25 = v 25 from hq25_v1))))), (hk35_v40.trans (hk35_v31.trans (hk35_v20.trans (hk35_v8.trans (show v1 35 = v 35 from hq35_v1))))), (hk36_v40.trans (hk36_v31.trans (hk36_v20.trans (hk36_v8.trans (show v1 36 = v 36 from hq36_v1))))), (hk38_v40.trans (hk38_v31.trans (hk38_v20.trans (hk38_v8.trans (show v1 38 = v 38 from hq38_v1))))), (hk39_v40.trans (hk39_v31.trans (hk39_v20.trans (hk39_v8.trans (show v1 39 = v 39 from hq39_v1))))), (by show GR (v 3).toInt (v 5).toInt (v40 3).toInt (v40 5).toInt; exact GR.cast hGR (by first | with_reducible rfl | with_reducible assumption | rfl | omega) (by first | with_reducible rfl | with_reducible assumption | rfl | omega)), (by show IM0 (v40 1).toInt (FI 1 (v40 10).toInt (v40 14).toInt (v40 8).toInt (f41 6) (f41 2) (f41 3)); rw [hs6_f41, hs2_f41, hs3_f41]; intro hz9; exact FI.cast hFU (by first | with_reducible rfl | with_reducible assumption | rfl | omega) (by first | with_reducible rfl | with_reducible assumption | rfl | omega) (by first | with_reducible rfl | with_reducible assumption | rfl | omega)), (by show NB (v40 1).toInt (v40 8).toInt (v40 10).toInt (v40 13).toInt (v40 14).toInt; exact NB.mk (by omega) (by omega) (by omega) (by omega)), (by show UG (v40 1).toInt (v 13).toInt (v40 13).toInt; exact UG.mk (by omega))⟩ hP hD hS dX11_unit_179 (Nat.le_refl _) (Nat.le_refl _)
          · skip
            have zc29 : ¬ (0 ≤ r4.toInt) := zMn tc_0 rfl c29
            refine lv_aload_n hx hb dX11_unit_164 rfl (lv_at hl 2 rfl) ?_
            refine va_get (D := (dC, dI)) (ci := 11) (v := .int (v20 7)) (C := RX11) (T := TX11) (N := 79) hx hb hts inB_11 hown hE.1 hP 0 rfl rfl 8 (Nat.le_of_ble_eq_true rfl) (hts _ k_1328) (fun _ h9 => h9) rfl dX11_unit_165 ?_
            refine lv_goto (tgt := 172) hx hb dX11_unit_168 rfl ?_
            refine cbVv (n := 2) (rest := []) hx hb hml hown hts hE hP hD hS hA (sY_X11_add_1 NF l dC dI cy y0 r 1 (v20 7) v20 f21 w22 g23 hIv20 hCf21 hRf21 (show (v20 8).toInt ≤ 319 from om_365 hf0 hf2 b10_v zq8_v20)) k_1696 k_1698 k_63 k_114 k_1699 hd_yX11_add ⟨Nat.le_of_ble_eq_true rfl, Nat.le_of_ble_eq_true rfl⟩ 0 11 rfl rfl (rfl) hl.1 rfl (Nat.le_of_ble_eq_true rfl) dX11_unit_172 (fun u H locs hw hP hD hS => ?_)
            obtain ⟨hG49, hw⟩ := hw
            obtain ⟨v50, f51, w52, g53⟩ := u
            obtain ⟨kV_v50, kF_f51, hIv50, hCf51, hRf51, hk0_v50, hk1_v50, hk2_v50, hk3_v50, hk4_v50, hk5_v50, hk9_v50, hk10_v50, hk13_v50, hk14_v50, hk15_v50, hk17_v50, hk18_v50, hk24_v50, hk25_v50, hk35_v50, hk36_v50, hk38_v50, hk39_v50, pv54, pg55, pg56, kq57⟩ := hw
            have hM_v50 : KV [1, 2, 3, 5, 6, 7, 8, 10, 11, 13, 14] v50 v := KV.tr kV_v50 hM_v20 rfl
            have hA_f51 : KF [2, 3, 6] f51 f := KF.tr kF_f51 hA_f21 rfl
            have hP : va_P (dC, dI) vwCl (YW cy y0 r v50 f51 w52 g53) H := hP
            have hD : va_D A (YW cy y0 r v50 f51 w52 g53) := hD
            have b8_v50 : 0 ≤ (v50 8).toInt ∧ (v50 8).toInt ≤ 320 := Yb_8 hIv50.1
            have pv54 : (v50 8).toInt = (v20 8).toInt + 1 := pv54
            have pg55 : (f51 2) = upd (f21 2) ((v20 8).toInt).toNat 1 := pg55
            rw [hs2_f21] at pg55
            have pg56 : (f51 3) = upd (f21 3) ((v20 8).toInt).toNat (v20 7) := pg56
            rw [hs3_f21] at pg56
            have hs6_f51 : f51 6 = (f1 6) := kq57.trans hs6_f21
            have hUv50 : (v50 35).toInt + (v50 36).toInt ≤ 40 := hIv50.2
            have hq1_v50 : v50 1 = (v8 1) := hk1_v50.trans hq1_v20
            have zq1_v50 := congrArg Int32.toInt hq1_v50
            have hq3_v50 : v50 3 = (v1 3) := hk3_v50.trans hq3_v20
            have zq3_v50 := congrArg Int32.toInt hq3_v50
            have hq5_v50 : v50 5 = (v1 5) := hk5_v50.trans hq5_v20
            have zq5_v50 := congrArg Int32.toInt hq5_v50
            have hq10_v50 : v50 10 = (v1 10) := hk10_v50.trans hq10_v20
            have zq10_v50 := congrArg Int32.toInt hq10_v50
            have hq13_v50 : v50 13 = (v20 13) := hk13_v50
            have zq13_v50 := congrArg Int32.toInt hq13_v50
            have hq14_v50 : v50 14 = (v1 14) := hk14_v50.trans hq14_v20
            have zq14_v50 := congrArg Int32.toInt hq14_v50
            have hFU : FI 1 (v50 10).toInt (v50 14).toInt (v50 8).toInt (f1 6) (f51 2) (f51 3) := FI.unit (hFJ (by omega)) pg55 pg56 (by omega) (Or.inr ⟨rfl, by omega, by omega⟩) (by omega) (by first | with_reducible rfl | with_reducible assumption | rfl | omega) (by first | with_reducible rfl | with_reducible assumption | rfl | omega) (by first | with_reducible rfl | with_reducible assumption | rfl | omega)
            refine lv_aload_n hx hb dX11_unit_175 rfl (lv_at hl 2 rfl) ?_
            refine cbVv (n := 0) (rest := []) hx hb hml hown hts hE hP hD hS hA (sY_X11_token_1 NF l dC dI cy y0 r  v50 f51 w52 g53 hIv50 hCf51 hRf51 ) k_1579 k_1581 k_42 k_114 k_1582 hd_yX11_token ⟨Nat.le_of_ble_eq_true rfl, Nat.le_of_ble_eq_true rfl⟩ 0 11 rfl rfl (rfl) hl.1 rfl (Nat.le_of_ble_eq_true rfl) dX11_unit_176 (fun u H locs hw hP hD hS => ?_)
            obtain ⟨hG58, hw⟩ := hw
            obtain ⟨v59, f60, w61, g62⟩ := u
            obtain ⟨kV_v59, kF_f60, hIv59, hCf60, hRf60, hk0_v59, hk1_v59, hk2_v59, hk4_v59, hk8_v59, hk9_v59, hk10_v59, hk13_v59, hk14_v59, hk15_v59, hk17_v59, hk18_v59, hk24_v59, hk25_v59, hk35_v59, hk36_v59, hk38_v59, hk39_v59, pv63, pv64, kq65, kq66, kq67⟩ := hw
            have hM_v59 : KV [1, 2, 3, 5, 6, 7, 8, 10, 11, 13, 14] v59 v := KV.tr kV_v59 hM_v50 rfl
            have hA_f60 : KF [2, 3, 6] f60 f := KF.tr kF_f60 hA_f51 rfl
            have hP : va_P (dC, dI) vwCl (YW cy y0 r v59 f60 w61 g62) H := hP
            have hD : va_D A (YW cy y0 r v59 f60 w61 g62) := hD
            have b3_v59 : 0 ≤ (v59 3).toInt ∧ (v59 3).toInt ≤ 1600 := Yb_3 hIv59.1
            have pv63 : (v50 3).toInt ≤ (v59 3).toInt := pv63
            have pv64 : (v59 5).toInt = (v50 5).toInt ∨ (v50 3).toInt < (v59 3).toInt ∨ ¬ (v59 5).toInt = 59 := pv64
            have hs2_f60 : f60 2 = (f51 2) := kq65
            have hs3_f60 : f60 3 = (f51 3) := kq66
            have hs6_f60 : f60 6 = (f1 6) := kq67.trans hs6_f51
            have hUv59 : (v59 35).toInt + (v59 36).toInt ≤ 40 := hIv59.2
            have hq1_v59 : v59 1 = (v8 1) := hk1_v59.trans hq1_v50
            have zq1_v59 := congrArg Int32.toInt hq1_v59
            have hq8_v59 : v59 8 = (v50 8) := hk8_v59
            have zq8_v59 := congrArg Int32.toInt hq8_v59
            have hq10_v59 : v59 10 = (v1 10) := hk10_v59.trans hq10_v50
            have zq10_v59 := congrArg Int32.toInt hq10_v59
            have hq13_v59 : v59 13 = (v20 13) := hk13_v59.trans hq13_v50
            have zq13_v59 := congrArg Int32.toInt hq13_v59
            have hq14_v59 : v59 14 = (v1 14) := hk14_v59.trans hq14_v50
            have zq14_v59 := congrArg Int32.toInt hq14_v59
            have hGR : GR (v 3).toInt (v 5).toInt (v59 3).toInt (v59 5).toInt := GR.tr hGR (show GR (v50 3).toInt (v50 5).toInt (v59 3).toInt (v59 5).toInt from ⟨pv63, pv64⟩) (by first | with_reducible rfl | with_reducible assumption | rfl | omega) (by first | with_reducible rfl | with_reducible assumption | rfl | omega)
            clear pv64
            exact ret (v59, f60, w61, g62) _ _ _ _ _ _ ⟨(hT6.symm.trans (gsY_X11_unit_1_q1 hG7 c18 hG19 c28 c29 hG49 hG58)), hM_v59, hA_f60, hIv59, hCf60, hRf60, (hk0_v59.trans (hk0_v50.trans (hk0_v20.trans (hk0_v8.trans (show v1 0 = v 0 from hq0_v1))))), (hk4_v59.trans (hk4_v50.trans (hk4_v20.trans (hk4_v8.trans (show v1 4 = v 4 from hq4_v1))))), (hk9_v59.trans (hk9_v50.trans (hk9_v20.trans (hk9_v8.trans (show v1 9 = v 9 from hq9_v1))))), (hk15_v59.trans (hk15_v50.trans (hk15_v20.trans (hk15_v8.trans (show v1 15 = v 15 from hq15_v1))))), (hk17_v59.trans (hk17_v50.trans (hk17_v20.trans (hk17_v8.trans (show v1 17 = v 17 from hq17_v1))))), (hk18_v59.trans (hk18_v50.trans (hk18_v20.trans (hk18_v8.trans (show v1 18 = v 18 from hq18_v1))))), (hk24_v59.trans (hk24_v50.trans (hk24_v20.trans (hk24_v8.trans (show v1 24 = v 24 from hq24_v1))))), (hk25_v59.trans (hk25_v50.trans (hk25_v20.trans (hk25_v8.trans (show v1 25 = v 25 from hq25_v1))))), (hk35_v59.trans (hk35_v50.trans (hk35_v20.trans (hk35_v8.trans (show v1 35 = v 35 from hq35_v1))))), (hk36_v59.trans (hk36_v50.trans (hk36_v20.trans (hk36_v8.trans (show v1 36 = v 36 from hq36_v1))))), (hk38_v59.trans (hk38_v50.trans (hk38_v20.trans (hk38_v8.trans (show v1 38 = v 38 from hq38_v1))))), (hk39_v59.trans (hk39_v50.trans (hk39_v20.trans (hk39_v8.trans (show v1 39 = v 39 from hq39_v1))))), (by show GR (v 3).toInt (v 5).toInt (v59 3).toInt (v59 5).toInt; exact GR.cast hGR (by first | with_reducible rfl | with_reducible assumption | rfl | omega) (by first | with_reducible rfl | with_reducible assumption | rfl | omega)), (by show IM0 (v59 1).toInt (FI 1 (v59 10).toInt (v59 14).toInt (v59 8).toInt (f60 6) (f60 2) (f60 3)); rw [hs6_f60, hs2_f60, hs3_f60]; intro hz9; exact FI.cast hFU (by first | with_reducible rfl | with_reducible assumption | rfl | omega) (by first | with_reducible rfl | with_reducible assumption | rfl | omega) (by first | with_reducible rfl | with_reducible assumption | rfl | omega)), (by show NB (v59 1).toInt (v59 8).toInt (v59 10).toInt (v59 13).toInt (v59 14).toInt; exact NB.mk (by omega) (by omega) (by omega) (by omega)), (by show UG (v59 1).toInt (v 13).toInt (v59 13).toInt; exact UG.mk (by omega))⟩ hP hD hS dX11_unit_179 (Nat.le_refl _) (Nat.le_refl _)
        · skip
          have zc28 : ¬ (0 ≤ r4.toInt) := zMn tc_0 rfl c28
          refine lv_iconst (v := 0) hx hb dX11_unit_155 rfl ?_
          refine lv_goto (tgt := 160) hx hb dX11_unit_156 rfl ?_
          refine lv_iload_n hx hb dX11_unit_160 rfl (lv_at hl 0 rfl) ?_
          refine lv_if_ge (tgt := 171) hx hb dX11_unit_161 rfl (fun c68 => ?_) (fun c68 => ?_)
          · skip
            have zc68 : 0 ≤ r4.toInt := zMp tc_0 rfl c68
            refine lv_iload_n hx hb dX11_unit_171 rfl (lv_at hl 0 rfl) ?_
            refine cbVv (n := 2) (rest := []) hx hb hml hown hts hE hP hD hS hA (sY_X11_add_1 NF l dC dI cy y0 r 0 r4 v20 f21 w22 g23 hIv20 hCf21 hRf21 (show (v20 8).toInt ≤ 319 from om_365 hf0 hf2 b10_v zq8_v20)) k_1696 k_1698 k_63 k_114 k_1699 hd_yX11_add ⟨Nat.le_of_ble_eq_true rfl, Nat.le_of_ble_eq_true rfl⟩ 0 11 rfl rfl (rfl) hl.1 rfl (Nat.le_of_ble_eq_true rfl) dX11_unit_172 (fun u H locs hw hP hD hS => ?_)
            obtain ⟨hG69, hw⟩ := hw
            obtain ⟨v70, f71, w72, g73⟩ := u
            obtain ⟨kV_v70, kF_f71, hIv70, hCf71, hRf71, hk0_v70, hk1_v70, hk2_v70, hk3_v70, hk4_v70, hk5_v70, hk9_v70, hk10_v70, hk13_v70, hk14_v70, hk15_v70, hk17_v70, hk18_v70, hk24_v70, hk25_v70, hk35_v70, hk36_v70, hk38_v70, hk39_v70, pv74, pg75, pg76, kq77⟩ := hw
            have hM_v70 : KV [1, 2, 3, 5, 6, 7, 8, 10, 11, 13, 14] v70 v := KV.tr kV_v70 hM_v20 rfl
            have hA_f71 : KF [2, 3, 6] f71 f := KF.tr kF_f71 hA_f21 rfl
            have hP : va_P (dC, dI) vwCl (YW cy y0 r v70 f71 w72 g73) H := hP
            have hD : va_D A (YW cy y0 r v70 f71 w72 g73) := hD
            have b8_v70 : 0 ≤ (v70 8).toInt ∧ (v70 8).toInt ≤ 320 := Yb_8 hIv70.1
            have pv74 : (v70 8).toInt = (v20 8).toInt + 1 := pv74
            have pg75 : (f71 2) = upd (f21 2) ((v20 8).toInt).toNat 0 := pg75
            rw [hs2_f21] at pg75
            have pg76 : (f71 3) = upd (f21 3) ((v20 8).toInt).toNat r4 := pg76
            rw [hs3_f21] at pg76
            have hs6_f71 : f71 6 = (f1 6) := kq77.trans hs6_f21
            have hUv70 : (v70 35).toInt + (v70 36).toInt ≤ 40 := hIv70.2
            have hq1_v70 : v70 1 = (v8 1) := hk1_v70.trans hq1_v20
            have zq1_v70 := congrArg Int32.toInt hq1_v70
            have hq3_v70 : v70 3 = (v1 3) := hk3_v70.trans hq3_v20
            have zq3_v70 := congrArg Int32.toInt hq3_v70
            have hq5_v70 : v70 5 = (v1 5) := hk5_v70.trans hq5_v20
            have zq5_v70 := congrArg Int32.toInt hq5_v70
            have hq10_v70 : v70 10 = (v1 10) := hk10_v70.trans hq10_v20
            have zq10_v70 := congrArg Int32.toInt hq10_v70
            have hq13_v70 : v70 13 = (v20 13) := hk13_v70
            have zq13_v70 := congrArg Int32.toInt hq13_v70
            have hq14_v70 : v70 14 = (v1 14) := hk14_v70.trans hq14_v20
            have zq14_v70 := congrArg Int32.toInt hq14_v70
            have hFU : FI 1 (v70 10).toInt (v70 14).toInt (v70 8).toInt (f1 6) (f71 2) (f71 3) := FI.unit (hFJ (by omega)) pg75 pg76 (by omega) (Or.inl rfl) (by omega) (by first | with_reducible rfl | with_reducible assumption | rfl | omega) (by first | with_reducible rfl | with_reducible assumption | rfl | omega) (by first | with_reducible rfl | with_reducible assumption | rfl | omega)
            refine lv_aload_n hx hb dX11_unit_175 rfl (lv_at hl 2 rfl) ?_
            refine cbVv (n := 0) (rest := []) hx hb hml hown hts hE hP hD hS hA (sY_X11_token_1 NF l dC dI cy y0 r  v70 f71 w72 g73 hIv70 hCf71 hRf71 ) k_1579 k_1581 k_42 k_114 k_1582 hd_yX11_token ⟨Nat.le_of_ble_eq_true rfl, Nat.le_of_ble_eq_true rfl⟩ 0 11 rfl rfl (rfl) hl.1 rfl (Nat.le_of_ble_eq_true rfl) dX11_unit_176 (fun u H locs hw hP hD hS => ?_)
            obtain ⟨hG78, hw⟩ := hw
            obtain ⟨v79, f80, w81, g82⟩ := u
            obtain ⟨kV_v79, kF_f80, hIv79, hCf80, hRf80, hk0_v79, hk1_v79, hk2_v79, hk4_v79, hk8_v79, hk9_v79, hk10_v79, hk13_v79, hk14_v79, hk15_v79, hk17_v79, hk18_v79, hk24_v79, hk25_v79, hk35_v79, hk36_v79, hk38_v79, hk39_v79, pv83, pv84, kq85, kq86, kq87⟩ := hw
            have hM_v79 : KV [1, 2, 3, 5, 6, 7, 8, 10, 11, 13, 14] v79 v := KV.tr kV_v79 hM_v70 rfl
            have hA_f80 : KF [2, 3, 6] f80 f := KF.tr kF_f80 hA_f71 rfl
            have hP : va_P (dC, dI) vwCl (YW cy y0 r v79 f80 w81 g82) H := hP
            have hD : va_D A (YW cy y0 r v79 f80 w81 g82) := hD
            have b3_v79 : 0 ≤ (v79 3).toInt ∧ (v79 3).toInt ≤ 1600 := Yb_3 hIv79.1
            have pv83 : (v70 3).toInt ≤ (v79 3).toInt := pv83
            have pv84 : (v79 5).toInt = (v70 5).toInt ∨ (v70 3).toInt < (v79 3).toInt ∨ ¬ (v79 5).toInt = 59 := pv84
            have hs2_f80 : f80 2 = (f71 2) := kq85
            have hs3_f80 : f80 3 = (f71 3) := kq86
            have hs6_f80 : f80 6 = (f1 6) := kq87.trans hs6_f71
            have hUv79 : (v79 35).toInt + (v79 36).toInt ≤ 40 := hIv79.2
            have hq1_v79 : v79 1 = (v8 1) := hk1_v79.trans hq1_v70
            have zq1_v79 := congrArg Int32.toInt hq1_v79
            have hq8_v79 : v79 8 = (v70 8) := hk8_v79
            have zq8_v79 := congrArg Int32.toInt hq8_v79
            have hq10_v79 : v79 10 = (v1 10) := hk10_v79.trans hq10_v70
            have zq10_v79 := congrArg Int32.toInt hq10_v79
            have hq13_v79 : v79 13 = (v20 13) := hk13_v79.trans hq13_v70
            have zq13_v79 := congrArg Int32.toInt hq13_v79
            have hq14_v79 : v79 14 = (v1 14) := hk14_v79.trans hq14_v70
            have zq14_v79 := congrArg Int32.toInt hq14_v79
            have hGR : GR (v 3).toInt (v 5).toInt (v79 3).toInt (v79 5).toInt := GR.tr hGR (show GR (v70 3).toInt (v70 5).toInt (v79 3).toInt (v79 5).toInt from ⟨pv83, pv84⟩) (by first | with_reducible rfl | with_reducible assumption | rfl | omega) (by first | with_reducible rfl | with_reducible assumption | rfl | omega)
            clear pv84
            exact ret (v79, f80, w81, g82) _ _ _ _ _ _ ⟨(hT6.symm.trans (gsY_X11_unit_1_q2 hG7 c18 hG19 c28 c68 hG69 hG78)), hM_v79, hA_f80, hIv79, hCf80, hRf80, (hk0_v79.trans (hk0_v70.trans (hk0_v20.trans (hk0_v8.trans (show v1 0 = v 0 from hq0_v1))))), (hk4_v79.trans (hk4_v70.trans (hk4_v20.trans (hk4_v8.trans (show v1 4 = v 4 from hq4_v1))))), (hk9_v79.trans (hk9_v70.trans (hk9_v20.trans (hk9_v8.trans (show v1 9 = v 9 from hq9_v1))))), (hk15_v79.trans (hk15_v70.trans (hk15_v20.trans (hk15_v8.trans (show v1 15 = v 15 from hq15_v1))))), (hk17_v79.trans (hk17_v70.trans (hk17_v20.trans (hk17_v8.trans (show v1 17 = v 17 from hq17_v1))))), (hk18_v79.trans (hk18_v70.trans (hk18_v20.trans (hk18_v8.trans (show v1 18 = v 18 from hq18_v1))))), (hk24_v79.trans (hk24_v70.trans (hk24_v20.trans (hk24_v8.trans (show v1 24 = v 24 from hq24_v1))))), (hk25_v79.trans (hk25_v70.trans (hk25_v20.trans (hk25_v8.trans (show v1 25 = v 25 from hq25_v1))))), (hk35_v79.trans (hk35_v70.trans (hk35_v20.trans (hk35_v8.trans (show v1 35 = v 35 from hq35_v1))))), (hk36_v79.trans (hk36_v70.trans (hk36_v20.trans (hk36_v8.trans (show v1 36 = v 36 from hq36_v1))))), (hk38_v79.trans (hk38_v70.trans (hk38_v20.trans (hk38_v8.trans (show v1 38 = v 38 from hq38_v1))))), (hk39_v79.trans (hk39_v70.trans (hk39_v20.trans (hk39_v8.trans (show v1 39 = v 39 from hq39_v1))))), (by show GR (v 3).toInt (v 5).toInt (v79 3).toInt (v79 5).toInt; exact GR.cast hGR (by first | with_reducible rfl | with_reducible assumption | rfl | omega) (by first | with_reducible rfl | with_reducible assumption | rfl | omega)), (by show IM0 (v79 1).toInt (FI 1 (v79 10).toInt (v79 14).toInt (v79 8).toInt (f80 6) (f80 2) (f80 3)); rw [hs6_f80, hs2_f80, hs3_f80]; intro hz9; exact FI.cast hFU (by first | with_reducible rfl | with_reducible assumption | rfl | omega) (by first | with_reducible rfl | with_reducible assumption | rfl | omega) (by first | with_reducible rfl | with_reducible assumption | rfl | omega)), (by show NB (v79 1).toInt (v79 8).toInt (v79 10).toInt (v79 13).toInt (v79 14).toInt; exact NB.mk (by omega) (by omega) (by omega) (by omega)), (by show UG (v79 1).toInt (v 13).toInt (v79 13).toInt; exact UG.mk (by omega))⟩ hP hD hS dX11_unit_179 (Nat.le_refl _) (Nat.le_refl _)
          · skip
            have zc68 : ¬ (0 ≤ r4.toInt) := zMn tc_0 rfl c68
            refine lv_aload_n hx hb dX11_unit_164 rfl (lv_at hl 2 rfl) ?_
            refine va_get (D := (dC, dI)) (ci := 11) (v := .int (v20 7)) (C := RX11) (T := TX11) (N := 79) hx hb hts inB_11 hown hE.1 hP 0 rfl rfl 8 (Nat.le_of_ble_eq_true rfl) (hts _ k_1328) (fun _ h9 => h9) rfl dX11_unit_165 ?_
            refine lv_goto (tgt := 172) hx hb dX11_unit_168 rfl ?_
            refine cbVv (n := 2) (rest := []) hx hb hml hown hts hE hP hD hS hA (sY_X11_add_1 NF l dC dI cy y0 r 0 (v20 7) v20 f21 w22 g23 hIv20 hCf21 hRf21 (show (v20 8).toInt ≤ 319 from om_365 hf0 hf2 b10_v zq8_v20)) k_1696 k_1698 k_63 k_114 k_1699 hd_yX11_add ⟨Nat.le_of_ble_eq_true rfl, Nat.le_of_ble_eq_true rfl⟩ 0 11 rfl rfl (rfl) hl.1 rfl (Nat.le_of_ble_eq_true rfl) dX11_unit_172 (fun u H locs hw hP hD hS => ?_)
            obtain ⟨hG88, hw⟩ := hw
            obtain ⟨v89, f90, w91, g92⟩ := u
            obtain ⟨kV_v89, kF_f90, hIv89, hCf90, hRf90, hk0_v89, hk1_v89, hk2_v89, hk3_v89, hk4_v89, hk5_v89, hk9_v89, hk10_v89, hk13_v89, hk14_v89, hk15_v89, hk17_v89, hk18_v89, hk24_v89, hk25_v89, hk35_v89, hk36_v89, hk38_v89, hk39_v89, pv93, pg94, pg95, kq96⟩ := hw
            have hM_v89 : KV [1, 2, 3, 5, 6, 7, 8, 10, 11, 13, 14] v89 v := KV.tr kV_v89 hM_v20 rfl
            have hA_f90 : KF [2, 3, 6] f90 f := KF.tr kF_f90 hA_f21 rfl
            have hP : va_P (dC, dI) vwCl (YW cy y0 r v89 f90 w91 g92) H := hP
            have hD : va_D A (YW cy y0 r v89 f90 w91 g92) := hD
            have b8_v89 : 0 ≤ (v89 8).toInt ∧ (v89 8).toInt ≤ 320 := Yb_8 hIv89.1
            have pv93 : (v89 8).toInt = (v20 8).toInt + 1 := pv93
            have pg94 : (f90 2) = upd (f21 2) ((v20 8).toInt).toNat 0 := pg94
            rw [hs2_f21] at pg94
            have pg95 : (f90 3) = upd (f21 3) ((v20 8).toInt).toNat (v20 7) := pg95
            rw [hs3_f21] at pg95
            have hs6_f90 : f90 6 = (f1 6) := kq96.trans hs6_f21
            have hUv89 : (v89 35).toInt + (v89 36).toInt ≤ 40 := hIv89.2
            have hq1_v89 : v89 1 = (v8 1) := hk1_v89.trans hq1_v20
            have zq1_v89 := congrArg Int32.toInt hq1_v89
            have hq3_v89 : v89 3 = (v1 3) := hk3_v89.trans hq3_v20
            have zq3_v89 := congrArg Int32.toInt hq3_v89
            have hq5_v89 : v89 5 = (v1 5) := hk5_v89.trans hq5_v20
            have zq5_v89 := congrArg Int32.toInt hq5_v89
            have hq10_v89 : v89 10 = (v1 10) := hk10_v89.trans hq10_v20
            have zq10_v89 := congrArg Int32.toInt hq10_v89
            have hq13_v89 : v89 13 = (v20 13) := hk13_v89
            have zq13_v89 := congrArg Int32.toInt hq13_v89
            have hq14_v89 : v89 14 = (v1 14) := hk14_v89.trans hq14_v20
            have zq14_v89 := congrArg Int32.toInt hq14_v89
            have hFU : FI 1 (v89 10).toInt (v89 14).toInt (v89 8).toInt (f1 6) (f90 2) (f90 3) := FI.unit (hFJ (by omega)) pg94 pg95 (by omega) (Or.inl rfl) (by omega) (by first | with_reducible rfl | with_reducible assumption | rfl | omega) (by first | with_reducible rfl | with_reducible assumption | rfl | omega) (by first | with_reducible rfl | with_reducible assumption | rfl | omega)
            refine lv_aload_n hx hb dX11_unit_175 rfl (lv_at hl 2 rfl) ?_
            refine cbVv (n := 0) (rest := []) hx hb hml hown hts hE hP hD hS hA (sY_X11_token_1 NF l dC dI cy y0 r  v89 f90 w91 g92 hIv89 hCf90 hRf90 ) k_1579 k_1581 k_42 k_114 k_1582 hd_yX11_token ⟨Nat.le_of_ble_eq_true rfl, Nat.le_of_ble_eq_true rfl⟩ 0 11 rfl rfl (rfl) hl.1 rfl (Nat.le_of_ble_eq_true rfl) dX11_unit_176 (fun u H locs hw hP hD hS => ?_)
            obtain ⟨hG97, hw⟩ := hw
            obtain ⟨v98, f99, w100, g101⟩ := u
            obtain ⟨kV_v98, kF_f99, hIv98, hCf99, hRf99, hk0_v98, hk1_v98, hk2_v98, hk4_v98, hk8_v98, hk9_v98, hk10_v98, hk13_v98, hk14_v98, hk15_v98, hk17_v98, hk18_v98, hk24_v98, hk25_v98, hk35_v98, hk36_v98, hk38_v98, hk39_v98, pv102, pv103, kq104, kq105, kq106⟩ := hw
            have hM_v98 : KV [1, 2, 3, 5, 6, 7, 8, 10, 11, 13, 14] v98 v := KV.tr kV_v98 hM_v89 rfl
            have hA_f99 : KF [2, 3, 6] f99 f := KF.tr kF_f99 hA_f90 rfl
            have hP : va_P (dC, dI) vwCl (YW cy y0 r v98 f99 w100 g101) H := hP
            have hD : va_D A (YW cy y0 r v98 f99 w100 g101) := hD
            have b3_v98 : 0 ≤ (v98 3).toInt ∧ (v98 3).toInt ≤ 1600 := Yb_3 hIv98.1
            have pv102 : (v89 3).toInt ≤ (v98 3).toInt := pv102
            have pv103 : (v98 5).toInt = (v89 5).toInt ∨ (v89 3).toInt < (v98 3).toInt ∨ ¬ (v98 5).toInt = 59 := pv103
            have hs2_f99 : f99 2 = (f90 2) := kq104
            have hs3_f99 : f99 3 = (f90 3) := kq105
            have hs6_f99 : f99 6 = (f1 6) := kq106.trans hs6_f90
            have hUv98 : (v98 35).toInt + (v98 36).toInt ≤ 40 := hIv98.2
            have hq1_v98 : v98 1 = (v8 1) := hk1_v98.trans hq1_v89
            have zq1_v98 := congrArg Int32.toInt hq1_v98
            have hq8_v98 : v98 8 = (v89 8) := hk8_v98
            have zq8_v98 := congrArg Int32.toInt hq8_v98
            have hq10_v98 : v98 10 = (v1 10) := hk10_v98.trans hq10_v89
            have zq10_v98 := congrArg Int32.toInt hq10_v98
            have hq13_v98 : v98 13 = (v20 13) := hk13_v98.trans hq13_v89
            have zq13_v98 := congrArg Int32.toInt hq13_v98
            have hq14_v98 : v98 14 = (v1 14) := hk14_v98.trans hq14_v89
            have zq14_v98 := congrArg Int32.toInt hq14_v98
            have hGR : GR (v 3).toInt (v 5).toInt (v98 3).toInt (v98 5).toInt := GR.tr hGR (show GR (v89 3).toInt (v89 5).toInt (v98 3).toInt (v98 5).toInt from ⟨pv102, pv103⟩) (by first | with_reducible rfl | with_reducible assumption | rfl | omega) (by first | with_reducible rfl | with_reducible assumption | rfl | omega)
            clear pv103
            exact ret (v98, f99, w100, g101) _ _ _ _ _ _ ⟨(hT6.symm.trans (gsY_X11_unit_1_q3 hG7 c18 hG19 c28 c68 hG88 hG97)), hM_v98, hA_f99, hIv98, hCf99, hRf99, (hk0_v98.trans (hk0_v89.trans (hk0_v20.trans (hk0_v8.trans (show v1 0 = v 0 from hq0_v1))))), (hk4_v98.trans (hk4_v89.trans (hk4_v20.trans (hk4_v8.trans (show v1 4 = v 4 from hq4_v1))))), (hk9_v98.trans (hk9_v89.trans (hk9_v20.trans (hk9_v8.trans (show v1 9 = v 9 from hq9_v1))))), (hk15_v98.trans (hk15_v89.trans (hk15_v20.trans (hk15_v8.trans (show v1 15 = v 15 from hq15_v1))))), (hk17_v98.trans (hk17_v89.trans (hk17_v20.trans (hk17_v8.trans (show v1 17 = v 17 from hq17_v1))))), (hk18_v98.trans (hk18_v89.trans (hk18_v20.trans (hk18_v8.trans (show v1 18 = v 18 from hq18_v1))))), (hk24_v98.trans (hk24_v89.trans (hk24_v20.trans (hk24_v8.trans (show v1 24 = v 24 from hq24_v1))))), (hk25_v98.trans (hk25_v89.trans (hk25_v20.trans (hk25_v8.trans (show v1 25 = v 25 from hq25_v1))))), (hk35_v98.trans (hk35_v89.trans (hk35_v20.trans (hk35_v8.trans (show v1 35 = v 35 from hq35_v1))))), (hk36_v98.trans (hk36_v89.trans (hk36_v20.trans (hk36_v8.trans (show v1 36 = v 36 from hq36_v1))))), (hk38_v98.trans (hk38_v89.trans (hk38_v20.trans (hk38_v8.trans (show v1 38 = v 38 from hq38_v1))))), (hk39_v98.trans (hk39_v89.trans (hk39_v20.trans (hk39_v8.trans (show v1 39 = v 39 from hq39_v1))))), (by show GR (v 3).toInt (v 5).toInt (v98 3).toInt (v98 5).toInt; exact GR.cast hGR (by first | with_reducible rfl | with_reducible assumption | rfl | omega) (by first | with_reducible rfl | with_reducible assumption | rfl | omega)), (by show IM0 (v98 1).toInt (FI 1 (v98 10).toInt (v98 14).toInt (v98 8).toInt (f99 6) (f99 2) (f99 3)); rw [hs6_f99, hs2_f99, hs3_f99]; intro hz9; exact FI.cast hFU (by first | with_reducible rfl | with_reducible assumption | rfl | omega) (by first | with_reducible rfl | with_reducible assumption | rfl | omega) (by first | with_reducible rfl | with_reducible assumption | rfl | omega)), (by show NB (v98 1).toInt (v98 8).toInt (v98 10).toInt (v98 13).toInt (v98 14).toInt; exact NB.mk (by omega) (by omega) (by omega) (by omega)), (by show UG (v98 1).toInt (v 13).toInt (v98 13).toInt; exact UG.mk (by omega))⟩ hP hD hS dX11_unit_179 (Nat.le_refl _) (Nat.le_refl _)
      · skip
        have zc18 : ¬ ((v8 1).toInt ≤ 0) := zMn rfl tc_0 c18
        exact ret (v8, f9, w10, g11) _ _ _ _ _ _ ⟨(hT6.symm.trans (gsY_X11_unit_1_q4 hG7 c18)), hM_v8, hA_f9, hIv8, hCf9, hRf9, (hk0_v8.trans (show v1 0 = v 0 from hq0_v1)), (hk4_v8.trans (show v1 4 = v 4 from hq4_v1)), (hk9_v8.trans (show v1 9 = v 9 from hq9_v1)), (hk15_v8.trans (show v1 15 = v 15 from hq15_v1)), (hk17_v8.trans (show v1 17 = v 17 from hq17_v1)), (hk18_v8.trans (show v1 18 = v 18 from hq18_v1)), (hk24_v8.trans (show v1 24 = v 24 from hq24_v1)), (hk25_v8.trans (show v1 25 = v 25 from hq25_v1)), (hk35_v8.trans (show v1 35 = v 35 from hq35_v1)), (hk36_v8.trans (show v1 36 = v 36 from hq36_v1)), (hk38_v8.trans (show v1 38 = v 38 from hq38_v1)), (hk39_v8.trans (show v1 39 = v 39 from hq39_v1)), (by show GR (v 3).toInt (v 5).toInt (v8 3).toInt (v8 5).toInt; exact GR.cast hGR (by first | with_reducible rfl | with_reducible assumption | rfl | omega) (by first | with_reducible rfl | with_reducible assumption | rfl | omega)), (by show IM0 (v8 1).toInt (FI 1 (v8 10).toInt (v8 14).toInt (v8 8).toInt (f9 6) (f9 2) (f9 3)); rw [hs6_f9, hs2_f9, hs3_f9]; intro hz9; exfalso; omega), (by show NB (v8 1).toInt (v8 8).toInt (v8 10).toInt (v8 13).toInt (v8 14).toInt; exact NB.ab (by omega)), (by show UG (v8 1).toInt (v 13).toInt (v8 13).toInt; exact UG.ab (by omega))⟩ hP hD hS dX11_unit_145 (Nat.le_refl _) (Nat.le_refl _)
    revert jp133
    intro jp133
    have jp126 : ∀ (H : Heap) (locs : List Loc) (ls : Array Slot), gsY_X11_unit_1_J107 NF f1 g1 v1 w1 r4 = (gsY_X11_unit_1 NF v f w g) → va_P (dC, dI) vwCl (YW cy y0 r v1 f1 w1 g1) H → va_D A (YW cy y0 r v1 f1 w1 g1) → va_S A s.heap H locs → lv_has ls 3 [(2, .int r4), (1, .int l1_1), (0, .ref y0)] → W p l e { frames := 4, cells := 0, slots := 0, locals := 124 } s m ([.ref y0] : List Value).toArray below meth c H locs 0 0 Q (F0 m 126 ls []) := by
      intro H locs ls hT107 hP hD hS hl
      refine lv_aload_n hx hb dX11_unit_126 rfl (lv_at hl 2 rfl) ?_
      refine cbVi (n := 0) (rest := []) hx hb hml hown hts hE hP hD hS hA (sY_X11_isFull_1 NF l dC dI cy y0 r  v1 f1 w1 g1 hIv1 hCf1 hRf1 ) k_1684 k_1686 k_60 k_114 k_1687 hd_yX11_isFull ⟨Nat.le_of_ble_eq_true rfl, Nat.le_of_ble_eq_true rfl⟩ 0 11 rfl rfl (rfl) hl.1 rfl (Nat.le_of_ble_eq_true rfl) dX11_unit_127 (fun r108 u H locs hw hP hD hS => ?_)
      obtain ⟨hG109, hw⟩ := hw
      rcases hw with ⟨g110⟩ | ⟨g110, g110_0⟩
      · skip
        subst g110
        refine lv_if_eq (tgt := 138) hx hb dX11_unit_130 rfl (fun c0 => absurd c0 (by decide)) (fun _ => ?_)
        exact jp133 _ _ _ ((gsY_X11_unit_1_q5 hG109).symm.trans hT107) hP hD hS hl
      · skip
        subst g110
        refine lv_if_eq (tgt := 138) hx hb dX11_unit_130 rfl (fun _ => ?_) (fun c0 => absurd (by decide) c0)
        refine lv_aload_n hx hb dX11_unit_138 rfl (lv_at hl 2 rfl) ?_
        refine va_get (D := (dC, dI)) (ci := 11) (v := .int (v1 1)) (C := RX11) (T := TX11) (N := 79) hx hb hts inB_11 hown hE.1 hP 0 rfl rfl 2 (Nat.le_of_ble_eq_true rfl) (hts _ k_1322) (fun _ h9 => h9) rfl dX11_unit_139 ?_
        refine lv_if_le (tgt := 146) hx hb dX11_unit_142 rfl (fun c111 => ?_) (fun c111 => ?_)
        · skip
          have zc111 : (v1 1).toInt ≤ 0 := zMp rfl tc_0 c111
          refine lv_aload_n hx hb dX11_unit_146 rfl (lv_at hl 2 rfl) ?_
          refine cbVv (n := 0) (rest := []) hx hb hml hown hts hE hP hD hS hA (sY_X11_countUnit_1 NF l dC dI cy y0 r  v1 f1 w1 g1 hIv1 hCf1 hRf1 (by show (v1 13).toInt ≤ 30; omega)) k_1688 k_1690 k_61 k_114 k_1691 hd_yX11_countUnit ⟨Nat.le_of_ble_eq_true rfl, Nat.le_of_ble_eq_true rfl⟩ 0 11 rfl rfl (rfl) hl.1 rfl (Nat.le_of_ble_eq_true rfl) dX11_unit_147 (fun u H locs hw hP hD hS => ?_)
          obtain ⟨hG112, hw⟩ := hw
          obtain ⟨v113, f114, w115, g116⟩ := u
          obtain ⟨kV_v113, kF_f114, hIv113, hCf114, hRf114, hk0_v113, hk1_v113, hk2_v113, hk3_v113, hk4_v113, hk5_v113, hk8_v113, hk9_v113, hk10_v113, hk14_v113, hk15_v113, hk17_v113, hk18_v113, hk24_v113, hk25_v113, hk35_v113, hk36_v113, hk38_v113, hk39_v113, pv117, kq118, kq119, kq120⟩ := hw
          have hM_v113 : KV [1, 2, 3, 5, 6, 7, 8, 10, 11, 13, 14] v113 v := KV.tr kV_v113 hM_v1 rfl
          have hA_f114 : KF [2, 3, 6] f114 f := KF.tr kF_f114 hA_f1 rfl
          have hP : va_P (dC, dI) vwCl (YW cy y0 r v113 f114 w115 g116) H := hP
          have hD : va_D A (YW cy y0 r v113 f114 w115 g116) := hD
          have b13_v113 : 0 ≤ (v113 13).toInt ∧ (v113 13).toInt ≤ 31 := Yb_13 hIv113.1
          have pv117 : (v113 13).toInt = (v1 13).toInt + 1 := pv117
          have hs2_f114 : f114 2 = (f 2) := kq118.trans hs2_f1
          have hs3_f114 : f114 3 = (f 3) := kq119.trans hs3_f1
          have hs6_f114 : f114 6 = (f1 6) := kq120
          have hUv113 : (v113 35).toInt + (v113 36).toInt ≤ 40 := hIv113.2
          have hq1_v113 : v113 1 = (v1 1) := hk1_v113
          have zq1_v113 := congrArg Int32.toInt hq1_v113
          have hq3_v113 : v113 3 = (v1 3) := hk3_v113
          have zq3_v113 := congrArg Int32.toInt hq3_v113
          have hq5_v113 : v113 5 = (v1 5) := hk5_v113
          have zq5_v113 := congrArg Int32.toInt hq5_v113
          have hq8_v113 : v113 8 = (v 8) := hk8_v113.trans hq8_v1
          have zq8_v113 := congrArg Int32.toInt hq8_v113
          have hq10_v113 : v113 10 = (v1 10) := hk10_v113
          have zq10_v113 := congrArg Int32.toInt hq10_v113
          have hq14_v113 : v113 14 = (v1 14) := hk14_v113
          have zq14_v113 := congrArg Int32.toInt hq14_v113
          refine lv_aload_n hx hb dX11_unit_150 rfl (lv_at hl 2 rfl) ?_
          refine lv_iload_n hx hb dX11_unit_151 rfl (lv_at hl 0 rfl) ?_
          refine lv_if_ge (tgt := 159) hx hb dX11_unit_152 rfl (fun c121 => ?_) (fun c121 => ?_)
          · skip
            have zc121 : 0 ≤ r4.toInt := zMp tc_0 rfl c121
            refine lv_iconst (v := 1) hx hb dX11_unit_159 rfl ?_
            refine lv_iload_n hx hb dX11_unit_160 rfl (lv_at hl 0 rfl) ?_
            refine lv_if_ge (tgt := 171) hx hb dX11_unit_161 rfl (fun c122 => ?_) (fun c122 => ?_)
            · skip
              have zc122 : 0 ≤ r4.toInt := zMp tc_0 rfl c122
              refine lv_iload_n hx hb dX11_unit_171 rfl (lv_at hl 0 rfl) ?_
              refine cbVv (n := 2) (rest := []) hx hb hml hown hts hE hP hD hS hA (sY_X11_add_1 NF l dC dI cy y0 r 1 r4 v113 f114 w115 g116 hIv113 hCf114 hRf114 (show (v113 8).toInt ≤ 319 from om_365 hf0 hf2 b10_v zq8_v113)) k_1696 k_1698 k_63 k_114 k_1699 hd_yX11_add ⟨Nat.le_of_ble_eq_true rfl, Nat.le_of_ble_eq_true rfl⟩ 0 11 rfl rfl (rfl) hl.1 rfl (Nat.le_of_ble_eq_true rfl) dX11_unit_172 (fun u H locs hw hP hD hS => ?_)
              obtain ⟨hG123, hw⟩ := hw
              obtain ⟨v124, f125, w126, g127⟩ := u
              obtain ⟨kV_v124, kF_f125, hIv124, hCf125, hRf125, hk0_v124, hk1_v124, hk2_v124, hk3_v124, hk4_v124, hk5_v124, hk9_v124, hk10_v124, hk13_v124, hk14_v124, hk15_v124, hk17_v124, hk18_v124, hk24_v124, hk25_v124, hk35_v124, hk36_v124, hk38_v124, hk39_v124, pv128, pg129, pg130, kq131⟩ := hw
              have hM_v124 : KV [1, 2, 3, 5, 6, 7, 8, 10, 11, 13, 14] v124 v := KV.tr kV_v124 hM_v113 rfl
              have hA_f125 : KF [2, 3, 6] f125 f := KF.tr kF_f125 hA_f114 rfl
              have hP : va_P (dC, dI) vwCl (YW cy y0 r v124 f125 w126 g127) H := hP
              have hD : va_D A (YW cy y0 r v124 f125 w126 g127) := hD
              have b8_v124 : 0 ≤ (v124 8).toInt ∧ (v124 8).toInt ≤ 320 := Yb_8 hIv124.1
              have pv128 : (v124 8).toInt = (v113 8).toInt + 1 := pv128
              have pg129 : (f125 2) = upd (f114 2) ((v113 8).toInt).toNat 1 := pg129
              rw [hs2_f114] at pg129
              have pg130 : (f125 3) = upd (f114 3) ((v113 8).toInt).toNat r4 := pg130
              rw [hs3_f114] at pg130
              have hs6_f125 : f125 6 = (f1 6) := kq131.trans hs6_f114
              have hUv124 : (v124 35).toInt + (v124 36).toInt ≤ 40 := hIv124.2
              have hq1_v124 : v124 1 = (v1 1) := hk1_v124.trans hq1_v113
              have zq1_v124 := congrArg Int32.toInt hq1_v124
              have hq3_v124 : v124 3 = (v1 3) := hk3_v124.trans hq3_v113
              have zq3_v124 := congrArg Int32.toInt hq3_v124
              have hq5_v124 : v124 5 = (v1 5) := hk5_v124.trans hq5_v113
              have zq5_v124 := congrArg Int32.toInt hq5_v124
              have hq10_v124 : v124 10 = (v1 10) := hk10_v124.trans hq10_v113
              have zq10_v124 := congrArg Int32.toInt hq10_v124
              have hq13_v124 : v124 13 = (v113 13) := hk13_v124
              have zq13_v124 := congrArg Int32.toInt hq13_v124
              have hq14_v124 : v124 14 = (v1 14) := hk14_v124.trans hq14_v113
              have zq14_v124 := congrArg Int32.toInt hq14_v124
              have hFU : FI 1 (v124 10).toInt (v124 14).toInt (v124 8).toInt (f1 6) (f125 2) (f125 3) := FI.unit (hFJ (by omega)) pg129 pg130 (by omega) (Or.inr ⟨rfl, by omega, by omega⟩) (by omega) (by first | with_reducible rfl | with_reducible assumption | rfl | omega) (by first | with_reducible rfl | with_reducible assumption | rfl | omega) (by first | with_reducible rfl | with_reducible assumption | rfl | omega)
              refine lv_aload_n hx hb dX11_unit_175 rfl (lv_at hl 2 rfl) ?_
              refine cbVv (n := 0) (rest := []) hx hb hml hown hts hE hP hD hS hA (sY_X11_token_1 NF l dC dI cy y0 r  v124 f125 w126 g127 hIv124 hCf125 hRf125 ) k_1579 k_1581 k_42 k_114 k_1582 hd_yX11_token ⟨Nat.le_of_ble_eq_true rfl, Nat.le_of_ble_eq_true rfl⟩ 0 11 rfl rfl (rfl) hl.1 rfl (Nat.le_of_ble_eq_true rfl) dX11_unit_176 (fun u H locs hw hP hD hS => ?_)
              obtain ⟨hG132, hw⟩ := hw
              obtain ⟨v133, f134, w135, g136⟩ := u
              obtain ⟨kV_v133, kF_f134, hIv133, hCf134, hRf134, hk0_v133, hk1_v133, hk2_v133, hk4_v133, hk8_v133, hk9_v133, hk10_v133, hk13_v133, hk14_v133, hk15_v133, hk17_v133, hk18_v133, hk24_v133, hk25_v133, hk35_v133, hk36_v133, hk38_v133, hk39_v133, pv137, pv138, kq139, kq140, kq141⟩ := hw
              have hM_v133 : KV [1, 2, 3, 5, 6, 7, 8, 10, 11, 13, 14] v133 v := KV.tr kV_v133 hM_v124 rfl
              have hA_f134 : KF [2, 3, 6] f134 f := KF.tr kF_f134 hA_f125 rfl
              have hP : va_P (dC, dI) vwCl (YW cy y0 r v133 f134 w135 g136) H := hP
              have hD : va_D A (YW cy y0 r v133 f134 w135 g136) := hD
              have b3_v133 : 0 ≤ (v133 3).toInt ∧ (v133 3).toInt ≤ 1600 := Yb_3 hIv133.1
              have pv137 : (v124 3).toInt ≤ (v133 3).toInt := pv137
              have pv138 : (v133 5).toInt = (v124 5).toInt ∨ (v124 3).toInt < (v133 3).toInt ∨ ¬ (v133 5).toInt = 59 := pv138
              have hs2_f134 : f134 2 = (f125 2) := kq139
              have hs3_f134 : f134 3 = (f125 3) := kq140
              have hs6_f134 : f134 6 = (f1 6) := kq141.trans hs6_f125
              have hUv133 : (v133 35).toInt + (v133 36).toInt ≤ 40 := hIv133.2
              have hq1_v133 : v133 1 = (v1 1) := hk1_v133.trans hq1_v124
              have zq1_v133 := congrArg Int32.toInt hq1_v133
              have hq8_v133 : v133 8 = (v124 8) := hk8_v133
              have zq8_v133 := congrArg Int32.toInt hq8_v133
              have hq10_v133 : v133 10 = (v1 10) := hk10_v133.trans hq10_v124
              have zq10_v133 := congrArg Int32.toInt hq10_v133
              have hq13_v133 : v133 13 = (v113 13) := hk13_v133.trans hq13_v124
              have zq13_v133 := congrArg Int32.toInt hq13_v133
              have hq14_v133 : v133 14 = (v1 14) := hk14_v133.trans hq14_v124
              have zq14_v133 := congrArg Int32.toInt hq14_v133
              have hGR : GR (v 3).toInt (v 5).toInt (v133 3).toInt (v133 5).toInt := GR.tr hGR (show GR (v124 3).toInt (v124 5).toInt (v133 3).toInt (v133 5).toInt from ⟨pv137, pv138⟩) (by first | with_reducible rfl | with_reducible assumption | rfl | omega) (by first | with_reducible rfl | with_reducible assumption | rfl | omega)
              clear pv138
              exact ret (v133, f134, w135, g136) _ _ _ _ _ _ ⟨(hT107.symm.trans (gsY_X11_unit_1_q6 hG109 c111 hG112 c121 c122 hG123 hG132)), hM_v133, hA_f134, hIv133, hCf134, hRf134, (hk0_v133.trans (hk0_v124.trans (hk0_v113.trans (show v1 0 = v 0 from hq0_v1)))), (hk4_v133.trans (hk4_v124.trans (hk4_v113.trans (show v1 4 = v 4 from hq4_v1)))), (hk9_v133.trans (hk9_v124.trans (hk9_v113.trans (show v1 9 = v 9 from hq9_v1)))), (hk15_v133.trans (hk15_v124.trans (hk15_v113.trans (show v1 15 = v 15 from hq15_v1)))), (hk17_v133.trans (hk17_v124.trans (hk17_v113.trans (show v1 17 = v 17 from hq17_v1)))), (hk18_v133.trans (hk18_v124.trans (hk18_v113.trans (show v1 18 = v 18 from hq18_v1)))), (hk24_v133.trans (hk24_v124.trans (hk24_v113.trans (show v1 24 = v 24 from hq24_v1)))), (hk25_v133.trans (hk25_v124.trans (hk25_v113.trans (show v1 25 = v 25 from hq25_v1)))), (hk35_v133.trans (hk35_v124.trans (hk35_v113.trans (show v1 35 = v 35 from hq35_v1)))), (hk36_v133.trans (hk36_v124.trans (hk36_v113.trans (show v1 36 = v 36 from hq36_v1)))), (hk38_v133.trans (hk38_v124.trans (hk38_v113.trans (show v1 38 = v 38 from hq38_v1)))), (hk39_v133.trans (hk39_v124.trans (hk39_v113.trans (show v1 39 = v 39 from hq39_v1)))), (by show GR (v 3).toInt (v 5).toInt (v133 3).toInt (v133 5).toInt; exact GR.cast hGR (by first | with_reducible rfl | with_reducible assumption | rfl | omega) (by first | with_reducible rfl | with_reducible assumption | rfl | omega)), (by show IM0 (v133 1).toInt (FI 1 (v133 10).toInt (v133 14).toInt (v133 8).toInt (f134 6) (f134 2) (f134 3)); rw [hs6_f134, hs2_f134, hs3_f134]; intro hz9; exact FI.cast hFU (by first | with_reducible rfl | with_reducible assumption | rfl | omega) (by first | with_reducible rfl | with_reducible assumption | rfl | omega) (by first | with_reducible rfl | with_reducible assumption | rfl | omega)), (by show NB (v133 1).toInt (v133 8).toInt (v133 10).toInt (v133 13).toInt (v133 14).toInt; exact NB.mk (by omega) (by omega) (by omega) (by omega)), (by show UG (v133 1).toInt (v 13).toInt (v133 13).toInt; exact UG.mk (by omega))⟩ hP hD hS dX11_unit_179 (Nat.le_refl _) (Nat.le_refl _)
            · skip
              have zc122 : ¬ (0 ≤ r4.toInt) := zMn tc_0 rfl c122
              refine lv_aload_n hx hb dX11_unit_164 rfl (lv_at hl 2 rfl) ?_
              refine va_get (D := (dC, dI)) (ci := 11) (v := .int (v113 7)) (C := RX11) (T := TX11) (N := 79) hx hb hts inB_11 hown hE.1 hP 0 rfl rfl 8 (Nat.le_of_ble_eq_true rfl) (hts _ k_1328) (fun _ h9 => h9) rfl dX11_unit_165 ?_
              refine lv_goto (tgt := 172) hx hb dX11_unit_168 rfl ?_
              refine cbVv (n := 2) (rest := []) hx hb hml hown hts hE hP hD hS hA (sY_X11_add_1 NF l dC dI cy y0 r 1 (v113 7) v113 f114 w115 g116 hIv113 hCf114 hRf114 (show (v113 8).toInt ≤ 319 from om_365 hf0 hf2 b10_v zq8_v113)) k_1696 k_1698 k_63 k_114 k_1699 hd_yX11_add ⟨Nat.le_of_ble_eq_true rfl, Nat.le_of_ble_eq_true rfl⟩ 0 11 rfl rfl (rfl) hl.1 rfl (Nat.le_of_ble_eq_true rfl) dX11_unit_172 (fun u H locs hw hP hD hS => ?_)
              obtain ⟨hG142, hw⟩ := hw
              obtain ⟨v143, f144, w145, g146⟩ := u
              obtain ⟨kV_v143, kF_f144, hIv143, hCf144, hRf144, hk0_v143, hk1_v143, hk2_v143, hk3_v143, hk4_v143, hk5_v143, hk9_v143, hk10_v143, hk13_v143, hk14_v143, hk15_v143, hk17_v143, hk18_v143, hk24_v143, hk25_v143, hk35_v143, hk36_v143, hk38_v143, hk39_v143, pv147, pg148, pg149, kq150⟩ := hw
              have hM_v143 : KV [1, 2, 3, 5, 6, 7, 8, 10, 11, 13, 14] v143 v := KV.tr kV_v143 hM_v113 rfl
              have hA_f144 : KF [2, 3, 6] f144 f := KF.tr kF_f144 hA_f114 rfl
              have hP : va_P (dC, dI) vwCl (YW cy y0 r v143 f144 w145 g146) H := hP
              have hD : va_D A (YW cy y0 r v143 f144 w145 g146) := hD
              have b8_v143 : 0 ≤ (v143 8).toInt ∧ (v143 8).toInt ≤ 320 := Yb_8 hIv143.1
              have pv147 : (v143 8).toInt = (v113 8).toInt + 1 := pv147
              have pg148 : (f144 2) = upd (f114 2) ((v113 8).toInt).toNat 1 := pg148
              rw [hs2_f114] at pg148
              have pg149 : (f144 3) = upd (f114 3) ((v113 8).toInt).toNat (v113 7) := pg149
              rw [hs3_f114] at pg149
              have hs6_f144 : f144 6 = (f1 6) := kq150.trans hs6_f114
              have hUv143 : (v143 35).toInt + (v143 36).toInt ≤ 40 := hIv143.2
              have hq1_v143 : v143 1 = (v1 1) := hk1_v143.trans hq1_v113
              have zq1_v143 := congrArg Int32.toInt hq1_v143
              have hq3_v143 : v143 3 = (v1 3) := hk3_v143.trans hq3_v113
              have zq3_v143 := congrArg Int32.toInt hq3_v143
              have hq5_v143 : v143 5 = (v1 5) := hk5_v143.trans hq5_v113
              have zq5_v143 := congrArg Int32.toInt hq5_v143
              have hq10_v143 : v143 10 = (v1 10) := hk10_v143.trans hq10_v113
              have zq10_v143 := congrArg Int32.toInt hq10_v143
              have hq13_v143 : v143 13 = (v113 13) := hk13_v143
              have zq13_v143 := congrArg Int32.toInt hq13_v143
              have hq14_v143 : v143 14 = (v1 14) := hk14_v143.trans hq14_v113
              have zq14_v143 := congrArg Int32.toInt hq14_v143
              have hFU : FI 1 (v143 10).toInt (v143 14).toInt (v143 8).toInt (f1 6) (f144 2) (f144 3) := FI.unit (hFJ (by omega)) pg148 pg149 (by omega) (Or.inr ⟨rfl, by omega, by omega⟩) (by omega) (by first | with_reducible rfl | with_reducible assumption | rfl | omega) (by first | with_reducible rfl | with_reducible assumption | rfl | omega) (by first | with_reducible rfl | with_reducible assumption | rfl | omega)
              refine lv_aload_n hx hb dX11_unit_175 rfl (lv_at hl 2 rfl) ?_
              refine cbVv (n := 0) (rest := []) hx hb hml hown hts hE hP hD hS hA (sY_X11_token_1 NF l dC dI cy y0 r  v143 f144 w145 g146 hIv143 hCf144 hRf144 ) k_1579 k_1581 k_42 k_114 k_1582 hd_yX11_token ⟨Nat.le_of_ble_eq_true rfl, Nat.le_of_ble_eq_true rfl⟩ 0 11 rfl rfl (rfl) hl.1 rfl (Nat.le_of_ble_eq_true rfl) dX11_unit_176 (fun u H locs hw hP hD hS => ?_)
              obtain ⟨hG151, hw⟩ := hw
              obtain ⟨v152, f153, w154, g155⟩ := u
              obtain ⟨kV_v152, kF_f153, hIv152, hCf153, hRf153, hk0_v152, hk1_v152, hk2_v152, hk4_v152, hk8_v152, hk9_v152, hk10_v152, hk13_v152, hk14_v152, hk15_v152, hk17_v152, hk18_v152, hk24_v152, hk25_v152, hk35_v152, hk36_v152, hk38_v152, hk39_v152, pv156, pv157, kq158, kq159, kq160⟩ := hw
              have hM_v152 : KV [1, 2, 3, 5, 6, 7, 8, 10, 11, 13, 14] v152 v := KV.tr kV_v152 hM_v143 rfl
              have hA_f153 : KF [2, 3, 6] f153 f := KF.tr kF_f153 hA_f144 rfl
              have hP : va_P (dC, dI) vwCl (YW cy y0 r v152 f153 w154 g155) H := hP
              have hD : va_D A (YW cy y0 r v152 f153 w154 g155) := hD
              have b3_v152 : 0 ≤ (v152 3).toInt ∧ (v152 3).toInt ≤ 1600 := Yb_3 hIv152.1
              have pv156 : (v143 3).toInt ≤ (v152 3).toInt := pv156
              have pv157 : (v152 5).toInt = (v143 5).toInt ∨ (v143 3).toInt < (v152 3).toInt ∨ ¬ (v152 5).toInt = 59 := pv157
              have hs2_f153 : f153 2 = (f144 2) := kq158
              have hs3_f153 : f153 3 = (f144 3) := kq159
              have hs6_f153 : f153 6 = (f1 6) := kq160.trans hs6_f144
              have hUv152 : (v152 35).toInt + (v152 36).toInt ≤ 40 := hIv152.2
              have hq1_v152 : v152 1 = (v1 1) := hk1_v152.trans hq1_v143
              have zq1_v152 := congrArg Int32.toInt hq1_v152
              have hq8_v152 : v152 8 = (v143 8) := hk8_v152
              have zq8_v152 := congrArg Int32.toInt hq8_v152
              have hq10_v152 : v152 10 = (v1 10) := hk10_v152.trans hq10_v143
              have zq10_v152 := congrArg Int32.toInt hq10_v152
              have hq13_v152 : v152 13 = (v113 13) := hk13_v152.trans hq13_v143
              have zq13_v152 := congrArg Int32.toInt hq13_v152
              have hq14_v152 : v152 14 = (v1 14) := hk14_v152.trans hq14_v143
              have zq14_v152 := congrArg Int32.toInt hq14_v152
              have hGR : GR (v 3).toInt (v 5).toInt (v152 3).toInt (v152 5).toInt := GR.tr hGR (show GR (v143 3).toInt (v143 5).toInt (v152 3).toInt (v152 5).toInt from ⟨pv156, pv157⟩) (by first | with_reducible rfl | with_reducible assumption | rfl | omega) (by first | with_reducible rfl | with_reducible assumption | rfl | omega)
              clear pv157
              exact ret (v152, f153, w154, g155) _ _ _ _ _ _ ⟨(hT107.symm.trans (gsY_X11_unit_1_q7 hG109 c111 hG112 c121 c122 hG142 hG151)), hM_v152, hA_f153, hIv152, hCf153, hRf153, (hk0_v152.trans (hk0_v143.trans (hk0_v113.trans (show v1 0 = v 0 from hq0_v1)))), (hk4_v152.trans (hk4_v143.trans (hk4_v113.trans (show v1 4 = v 4 from hq4_v1)))), (hk9_v152.trans (hk9_v143.trans (hk9_v113.trans (show v1 9 = v 9 from hq9_v1)))), (hk15_v152.trans (hk15_v143.trans (hk15_v113.trans (show v1 15 = v 15 from hq15_v1)))), (hk17_v152.trans (hk17_v143.trans (hk17_v113.trans (show v1 17 = v 17 from hq17_v1)))), (hk18_v152.trans (hk18_v143.trans (hk18_v113.trans (show v1 18 = v 18 from hq18_v1)))), (hk24_v152.trans (hk24_v143.trans (hk24_v113.trans (show v1 24 = v 24 from hq24_v1)))), (hk25_v152.trans (hk25_v143.trans (hk25_v113.trans (show v1 25 = v 25 from hq25_v1)))), (hk35_v152.trans (hk35_v143.trans (hk35_v113.trans (show v1 35 = v 35 from hq35_v1)))), (hk36_v152.trans (hk36_v143.trans (hk36_v113.trans (show v1 36 = v 36 from hq36_v1)))), (hk38_v152.trans (hk38_v143.trans (hk38_v113.trans (show v1 38 = v 38 from hq38_v1)))), (hk39_v152.trans (hk39_v143.trans (hk39_v113.trans (show v1 39 = v 39 from hq39_v1)))), (by show GR (v 3).toInt (v 5).toInt (v152 3).toInt (v152 5).toInt; exact GR.cast hGR (by first | with_reducible rfl | with_reducible assumption | rfl | omega) (by first | with_reducible rfl | with_reducible assumption | rfl | omega)), (by show IM0 (v152 1).toInt (FI 1 (v152 10).toInt (v152 14).toInt (v152 8).toInt (f153 6) (f153 2) (f153 3)); rw [hs6_f153, hs2_f153, hs3_f153]; intro hz9; exact FI.cast hFU (by first | with_reducible rfl | with_reducible assumption | rfl | omega) (by first | with_reducible rfl | with_reducible assumption | rfl | omega) (by first | with_reducible rfl | with_reducible assumption | rfl | omega)), (by show NB (v152 1).toInt (v152 8).toInt (v152 10).toInt (v152 13).toInt (v152 14).toInt; exact NB.mk (by omega) (by omega) (by omega) (by omega)), (by show UG (v152 1).toInt (v 13).toInt (v152 13).toInt; exact UG.mk (by omega))⟩ hP hD hS dX11_unit_179 (Nat.le_refl _) (Nat.le_refl _)
          · skip
            have zc121 : ¬ (0 ≤ r4.toInt) := zMn tc_0 rfl c121
            refine lv_iconst (v := 0) hx hb dX11_unit_155 rfl ?_
            refine lv_goto (tgt := 160) hx hb dX11_unit_156 rfl ?_
            refine lv_iload_n hx hb dX11_unit_160 rfl (lv_at hl 0 rfl) ?_
            refine lv_if_ge (tgt := 171) hx hb dX11_unit_161 rfl (fun c161 => ?_) (fun c161 => ?_)
            · skip
              have zc161 : 0 ≤ r4.toInt := zMp tc_0 rfl c161
              refine lv_iload_n hx hb dX11_unit_171 rfl (lv_at hl 0 rfl) ?_
              refine cbVv (n := 2) (rest := []) hx hb hml hown hts hE hP hD hS hA (sY_X11_add_1 NF l dC dI cy y0 r 0 r4 v113 f114 w115 g116 hIv113 hCf114 hRf114 (show (v113 8).toInt ≤ 319 from om_365 hf0 hf2 b10_v zq8_v113)) k_1696 k_1698 k_63 k_114 k_1699 hd_yX11_add ⟨Nat.le_of_ble_eq_true rfl, Nat.le_of_ble_eq_true rfl⟩ 0 11 rfl rfl (rfl) hl.1 rfl (Nat.le_of_ble_eq_true rfl) dX11_unit_172 (fun u H locs hw hP hD hS => ?_)
              obtain ⟨hG162, hw⟩ := hw
              obtain ⟨v163, f164, w165, g166⟩ := u
              obtain ⟨kV_v163, kF_f164, hIv163, hCf164, hRf164, hk0_v163, hk1_v163, hk2_v163, hk3_v163, hk4_v163, hk5_v163, hk9_v163, hk10_v163, hk13_v163, hk14_v163, hk15_v163, hk17_v163, hk18_v163, hk24_v163, hk25_v163, hk35_v163, hk36_v163, hk38_v163, hk39_v163, pv167, pg168, pg169, kq170⟩ := hw
              have hM_v163 : KV [1, 2, 3, 5, 6, 7, 8, 10, 11, 13, 14] v163 v := KV.tr kV_v163 hM_v113 rfl
              have hA_f164 : KF [2, 3, 6] f164 f := KF.tr kF_f164 hA_f114 rfl
              have hP : va_P (dC, dI) vwCl (YW cy y0 r v163 f164 w165 g166) H := hP
              have hD : va_D A (YW cy y0 r v163 f164 w165 g166) := hD
              have b8_v163 : 0 ≤ (v163 8).toInt ∧ (v163 8).toInt ≤ 320 := Yb_8 hIv163.1
              have pv167 : (v163 8).toInt = (v113 8).toInt + 1 := pv167
              have pg168 : (f164 2) = upd (f114 2) ((v113 8).toInt).toNat 0 := pg168
              rw [hs2_f114] at pg168
              have pg169 : (f164 3) = upd (f114 3) ((v113 8).toInt).toNat r4 := pg169
              rw [hs3_f114] at pg169
              have hs6_f164 : f164 6 = (f1 6) := kq170.trans hs6_f114
              have hUv163 : (v163 35).toInt + (v163 36).toInt ≤ 40 := hIv163.2
              have hq1_v163 : v163 1 = (v1 1) := hk1_v163.trans hq1_v113
              have zq1_v163 := congrArg Int32.toInt hq1_v163
              have hq3_v163 : v163 3 = (v1 3) := hk3_v163.trans hq3_v113
              have zq3_v163 := congrArg Int32.toInt hq3_v163
              have hq5_v163 : v163 5 = (v1 5) := hk5_v163.trans hq5_v113
              have zq5_v163 := congrArg Int32.toInt hq5_v163
              have hq10_v163 : v163 10 = (v1 10) := hk10_v163.trans hq10_v113
              have zq10_v163 := congrArg Int32.toInt hq10_v163
              have hq13_v163 : v163 13 = (v113 13) := hk13_v163
              have zq13_v163 := congrArg Int32.toInt hq13_v163
              have hq14_v163 : v163 14 = (v1 14) := hk14_v163.trans hq14_v113
              have zq14_v163 := congrArg Int32.toInt hq14_v163
              have hFU : FI 1 (v163 10).toInt (v163 14).toInt (v163 8).toInt (f1 6) (f164 2) (f164 3) := FI.unit (hFJ (by omega)) pg168 pg169 (by omega) (Or.inl rfl) (by omega) (by first | with_reducible rfl | with_reducible assumption | rfl | omega) (by first | with_reducible rfl | with_reducible assumption | rfl | omega) (by first | with_reducible rfl | with_reducible assumption | rfl | omega)
              refine lv_aload_n hx hb dX11_unit_175 rfl (lv_at hl 2 rfl) ?_
              refine cbVv (n := 0) (rest := []) hx hb hml hown hts hE hP hD hS hA (sY_X11_token_1 NF l dC dI cy y0 r  v163 f164 w165 g166 hIv163 hCf164 hRf164 ) k_1579 k_1581 k_42 k_114 k_1582 hd_yX11_token ⟨Nat.le_of_ble_eq_true rfl, Nat.le_of_ble_eq_true rfl⟩ 0 11 rfl rfl (rfl) hl.1 rfl (Nat.le_of_ble_eq_true rfl) dX11_unit_176 (fun u H locs hw hP hD hS => ?_)
              obtain ⟨hG171, hw⟩ := hw
              obtain ⟨v172, f173, w174, g175⟩ := u
              obtain ⟨kV_v172, kF_f173, hIv172, hCf173, hRf173, hk0_v172, hk1_v172, hk2_v172, hk4_v172, hk8_v172, hk9_v172, hk10_v172, hk13_v172, hk14_v172, hk15_v172, hk17_v172, hk18_v172, hk24_v172, hk25_v172, hk35_v172, hk36_v172, hk38_v172, hk39_v172, pv176, pv177, kq178, kq179, kq180⟩ := hw
              have hM_v172 : KV [1, 2, 3, 5, 6, 7, 8, 10, 11, 13, 14] v172 v := KV.tr kV_v172 hM_v163 rfl
              have hA_f173 : KF [2, 3, 6] f173 f := KF.tr kF_f173 hA_f164 rfl
              have hP : va_P (dC, dI) vwCl (YW cy y0 r v172 f173 w174 g175) H := hP
              have hD : va_D A (YW cy y0 r v172 f173 w174 g175) := hD
              have b3_v172 : 0 ≤ (v172 3).toInt ∧ (v172 3).toInt ≤ 1600 := Yb_3 hIv172.1
              have pv176 : (v163 3).toInt ≤ (v172 3).toInt := pv176
              have pv177 : (v172 5).toInt = (v163 5).toInt ∨ (v163 3).toInt < (v172 3).toInt ∨ ¬ (v172 5).toInt = 59 := pv177
              have hs2_f173 : f173 2 = (f164 2) := kq178
              have hs3_f173 : f173 3 = (f164 3) := kq179
              have hs6_f173 : f173 6 = (f1 6) := kq180.trans hs6_f164
              have hUv172 : (v172 35).toInt + (v172 36).toInt ≤ 40 := hIv172.2
              have hq1_v172 : v172 1 = (v1 1) := hk1_v172.trans hq1_v163
              have zq1_v172 := congrArg Int32.toInt hq1_v172
              have hq8_v172 : v172 8 = (v163 8) := hk8_v172
              have zq8_v172 := congrArg Int32.toInt hq8_v172
              have hq10_v172 : v172 10 = (v1 10) := hk10_v172.trans hq10_v163
              have zq10_v172 := congrArg Int32.toInt hq10_v172
              have hq13_v172 : v172 13 = (v113 13) := hk13_v172.trans hq13_v163
              have zq13_v172 := congrArg Int32.toInt hq13_v172
              have hq14_v172 : v172 14 = (v1 14) := hk14_v172.trans hq14_v163
              have zq14_v172 := congrArg Int32.toInt hq14_v172
              have hGR : GR (v 3).toInt (v 5).toInt (v172 3).toInt (v172 5).toInt := GR.tr hGR (show GR (v163 3).toInt (v163 5).toInt (v172 3).toInt (v172 5).toInt from ⟨pv176, pv177⟩) (by first | with_reducible rfl | with_reducible assumption | rfl | omega) (by first | with_reducible rfl | with_reducible assumption | rfl | omega)
              clear pv177
              exact ret (v172, f173, w174, g175) _ _ _ _ _ _ ⟨(hT107.symm.trans (gsY_X11_unit_1_q8 hG109 c111 hG112 c121 c161 hG162 hG171)), hM_v172, hA_f173, hIv172, hCf173, hRf173, (hk0_v172.trans (hk0_v163.trans (hk0_v113.trans (show v1 0 = v 0 from hq0_v1)))), (hk4_v172.trans (hk4_v163.trans (hk4_v113.trans (show v1 4 = v 4 from hq4_v1)))), (hk9_v172.trans (hk9_v163.trans (hk9_v113.trans (show v1 9 = v 9 from hq9_v1)))), (hk15_v172.trans (hk15_v163.trans (hk15_v113.trans (show v1 15 = v 15 from hq15_v1)))), (hk17_v172.trans (hk17_v163.trans (hk17_v113.trans (show v1 17 = v 17 from hq17_v1)))), (hk18_v172.trans (hk18_v163.trans (hk18_v113.trans (show v1 18 = v 18 from hq18_v1)))), (hk24_v172.trans (hk24_v163.trans (hk24_v113.trans (show v1 24 = v 24 from hq24_v1)))), (hk25_v172.trans (hk25_v163.trans (hk25_v113.trans (show v1 25 = v 25 from hq25_v1)))), (hk35_v172.trans (hk35_v163.trans (hk35_v113.trans (show v1 35 = v 35 from hq35_v1)))), (hk36_v172.trans (hk36_v163.trans (hk36_v113.trans (show v1 36 = v 36 from hq36_v1)))), (hk38_v172.trans (hk38_v163.trans (hk38_v113.trans (show v1 38 = v 38 from hq38_v1)))), (hk39_v172.trans (hk39_v163.trans (hk39_v113.trans (show v1 39 = v 39 from hq39_v1)))), (by show GR (v 3).toInt (v 5).toInt (v172 3).toInt (v172 5).toInt; exact GR.cast hGR (by first | with_reducible rfl | with_reducible assumption | rfl | omega) (by first | with_reducible rfl | with_reducible assumption | rfl | omega)), (by show IM0 (v172 1).toInt (FI 1 (v172 10).toInt (v172 14).toInt (v172 8).toInt (f173 6) (f173 2) (f173 3)); rw [hs6_f173, hs2_f173, hs3_f173]; intro hz9; exact FI.cast hFU (by first | with_reducible rfl | with_reducible assumption | rfl | omega) (by first | with_reducible rfl | with_reducible assumption | rfl | omega) (by first | with_reducible rfl | with_reducible assumption | rfl | omega)), (by show NB (v172 1).toInt (v172 8).toInt (v172 10).toInt (v172 13).toInt (v172 14).toInt; exact NB.mk (by omega) (by omega) (by omega) (by omega)), (by show UG (v172 1).toInt (v 13).toInt (v172 13).toInt; exact UG.mk (by omega))⟩ hP hD hS dX11_unit_179 (Nat.le_refl _) (Nat.le_refl _)
            · skip
              have zc161 : ¬ (0 ≤ r4.toInt) := zMn tc_0 rfl c161
              refine lv_aload_n hx hb dX11_unit_164 rfl (lv_at hl 2 rfl) ?_
              refine va_get (D := (dC, dI)) (ci := 11) (v := .int (v113 7)) (C := RX11) (T := TX11) (N := 79) hx hb hts inB_11 hown hE.1 hP 0 rfl rfl 8 (Nat.le_of_ble_eq_true rfl) (hts _ k_1328) (fun _ h9 => h9) rfl dX11_unit_165 ?_
              refine lv_goto (tgt := 172) hx hb dX11_unit_168 rfl ?_
              refine cbVv (n := 2) (rest := []) hx hb hml hown hts hE hP hD hS hA (sY_X11_add_1 NF l dC dI cy y0 r 0 (v113 7) v113 f114 w115 g116 hIv113 hCf114 hRf114 (show (v113 8).toInt ≤ 319 from om_365 hf0 hf2 b10_v zq8_v113)) k_1696 k_1698 k_63 k_114 k_1699 hd_yX11_add ⟨Nat.le_of_ble_eq_true rfl, Nat.le_of_ble_eq_true rfl⟩ 0 11 rfl rfl (rfl) hl.1 rfl (Nat.le_of_ble_eq_true rfl) dX11_unit_172 (fun u H locs hw hP hD hS => ?_)
              obtain ⟨hG181, hw⟩ := hw
              obtain ⟨v182, f183, w184, g185⟩ := u
              obtain ⟨kV_v182, kF_f183, hIv182, hCf183, hRf183, hk0_v182, hk1_v182, hk2_v182, hk3_v182, hk4_v182, hk5_v182, hk9_v182, hk10_v182, hk13_v182, hk14_v182, hk15_v182, hk17_v182, hk18_v182, hk24_v182, hk25_v182, hk35_v182, hk36_v182, hk38_v182, hk39_v182, pv186, pg187, pg188, kq189⟩ := hw
              have hM_v182 : KV [1, 2, 3, 5, 6, 7, 8, 10, 11, 13, 14] v182 v := KV.tr kV_v182 hM_v113 rfl
              have hA_f183 : KF [2, 3, 6] f183 f := KF.tr kF_f183 hA_f114 rfl
              have hP : va_P (dC, dI) vwCl (YW cy y0 r v182 f183 w184 g185) H := hP
              have hD : va_D A (YW cy y0 r v182 f183 w184 g185) := hD
              have b8_v182 : 0 ≤ (v182 8).toInt ∧ (v182 8).toInt ≤ 320 := Yb_8 hIv182.1
              have pv186 : (v182 8).toInt = (v113 8).toInt + 1 := pv186
              have pg187 : (f183 2) = upd (f114 2) ((v113 8).toInt).toNat 0 := pg187
              rw [hs2_f114] at pg187
              have pg188 : (f183 3) = upd (f114 3) ((v113 8).toInt).toNat (v113 7) := pg188
              rw [hs3_f114] at pg188
              have hs6_f183 : f183 6 = (f1 6) := kq189.trans hs6_f114
              have hUv182 : (v182 35).toInt + (v182 36).toInt ≤ 40 := hIv182.2
              have hq1_v182 : v182 1 = (v1 1) := hk1_v182.trans hq1_v113
              have zq1_v182 := congrArg Int32.toInt hq1_v182
              have hq3_v182 : v182 3 = (v1 3) := hk3_v182.trans hq3_v113
              have zq3_v182 := congrArg Int32.toInt hq3_v182
              have hq5_v182 : v182 5 = (v1 5) := hk5_v182.trans hq5_v113
              have zq5_v182 := congrArg Int32.toInt hq5_v182
              have hq10_v182 : v182 10 = (v1 10) := hk10_v182.trans hq10_v113
              have zq10_v182 := congrArg Int32.toInt hq10_v182
              have hq13_v182 : v182 13 = (v113 13) := hk13_v182
              have zq13_v182 := congrArg Int32.toInt hq13_v182
              have hq14_v182 : v182 14 = (v1 14) := hk14_v182.trans hq14_v113
              have zq14_v182 := congrArg Int32.toInt hq14_v182
              have hFU : FI 1 (v182 10).toInt (v182 14).toInt (v182 8).toInt (f1 6) (f183 2) (f183 3) := FI.unit (hFJ (by omega)) pg187 pg188 (by omega) (Or.inl rfl) (by omega) (by first | with_reducible rfl | with_reducible assumption | rfl | omega) (by first | with_reducible rfl | with_reducible assumption | rfl | omega) (by first | with_reducible rfl | with_reducible assumption | rfl | omega)
              refine lv_aload_n hx hb dX11_unit_175 rfl (lv_at hl 2 rfl) ?_
              refine cbVv (n := 0) (rest := []) hx hb hml hown hts hE hP hD hS hA (sY_X11_token_1 NF l dC dI cy y0 r  v182 f183 w184 g185 hIv182 hCf183 hRf183 ) k_1579 k_1581 k_42 k_114 k_1582 hd_yX11_token ⟨Nat.le_of_ble_eq_true rfl, Nat.le_of_ble_eq_true rfl⟩ 0 11 rfl rfl (rfl) hl.1 rfl (Nat.le_of_ble_eq_true rfl) dX11_unit_176 (fun u H locs hw hP hD hS => ?_)
              obtain ⟨hG190, hw⟩ := hw
              obtain ⟨v191, f192, w193, g194⟩ := u
              obtain ⟨kV_v191, kF_f192, hIv191, hCf192, hRf192, hk0_v191, hk1_v191, hk2_v191, hk4_v191, hk8_v191, hk9_v191, hk10_v191, hk13_v191, hk14_v191, hk15_v191, hk17_v191, hk18_v191, hk24_v191, hk25_v191, hk35_v191, hk36_v191, hk38_v191, hk39_v191, pv195, pv196, kq197, kq198, kq199⟩ := hw
              have hM_v191 : KV [1, 2, 3, 5, 6, 7, 8, 10, 11, 13, 14] v191 v := KV.tr kV_v191 hM_v182 rfl
              have hA_f192 : KF [2, 3, 6] f192 f := KF.tr kF_f192 hA_f183 rfl
              have hP : va_P (dC, dI) vwCl (YW cy y0 r v191 f192 w193 g194) H := hP
              have hD : va_D A (YW cy y0 r v191 f192 w193 g194) := hD
              have b3_v191 : 0 ≤ (v191 3).toInt ∧ (v191 3).toInt ≤ 1600 := Yb_3 hIv191.1
              have pv195 : (v182 3).toInt ≤ (v191 3).toInt := pv195
              have pv196 : (v191 5).toInt = (v182 5).toInt ∨ (v182 3).toInt < (v191 3).toInt ∨ ¬ (v191 5).toInt = 59 := pv196
              have hs2_f192 : f192 2 = (f183 2) := kq197
              have hs3_f192 : f192 3 = (f183 3) := kq198
              have hs6_f192 : f192 6 = (f1 6) := kq199.trans hs6_f183
              have hUv191 : (v191 35).toInt + (v191 36).toInt ≤ 40 := hIv191.2
              have hq1_v191 : v191 1 = (v1 1) := hk1_v191.trans hq1_v182
              have zq1_v191 := congrArg Int32.toInt hq1_v191
              have hq8_v191 : v191 8 = (v182 8) := hk8_v191
              have zq8_v191 := congrArg Int32.toInt hq8_v191
              have hq10_v191 : v191 10 = (v1 10) := hk10_v191.trans hq10_v182
              have zq10_v191 := congrArg Int32.toInt hq10_v191
              have hq13_v191 : v191 13 = (v113 13) := hk13_v191.trans hq13_v182
              have zq13_v191 := congrArg Int32.toInt hq13_v191
              have hq14_v191 : v191 14 = (v1 14) := hk14_v191.trans hq14_v182
              have zq14_v191 := congrArg Int32.toInt hq14_v191
              have hGR : GR (v 3).toInt (v 5).toInt (v191 3).toInt (v191 5).toInt := GR.tr hGR (show GR (v182 3).toInt (v182 5).toInt (v191 3).toInt (v191 5).toInt from ⟨pv195, pv196⟩) (by first | with_reducible rfl | with_reducible assumption | rfl | omega) (by first | with_reducible rfl | with_reducible assumption | rfl | omega)
              clear pv196
              exact ret (v191, f192, w193, g194) _ _ _ _ _ _ ⟨(hT107.symm.trans (gsY_X11_unit_1_q9 hG109 c111 hG112 c121 c161 hG181 hG190)), hM_v191, hA_f192, hIv191, hCf192, hRf192, (hk0_v191.trans (hk0_v182.trans (hk0_v113.trans (show v1 0 = v 0 from hq0_v1)))), (hk4_v191.trans (hk4_v182.trans (hk4_v113.trans (show v1 4 = v 4 from hq4_v1)))), (hk9_v191.trans (hk9_v182.trans (hk9_v113.trans (show v1 9 = v 9 from hq9_v1)))), (hk15_v191.trans (hk15_v182.trans (hk15_v113.trans (show v1 15 = v 15 from hq15_v1)))), (hk17_v191.trans (hk17_v182.trans (hk17_v113.trans (show v1 17 = v 17 from hq17_v1)))), (hk18_v191.trans (hk18_v182.trans (hk18_v113.trans (show v1 18 = v 18 from hq18_v1)))), (hk24_v191.trans (hk24_v182.trans (hk24_v113.trans (show v1 24 = v 24 from hq24_v1)))), (hk25_v191.trans (hk25_v182.trans (hk25_v113.trans (show v1 25 = v 25 from hq25_v1)))), (hk35_v191.trans (hk35_v182.trans (hk35_v113.trans (show v1 35 = v 35 from hq35_v1)))), (hk36_v191.trans (hk36_v182.trans (hk36_v113.trans (show v1 36 = v 36 from hq36_v1)))), (hk38_v191.trans (hk38_v182.trans (hk38_v113.trans (show v1 38 = v 38 from hq38_v1)))), (hk39_v191.trans (hk39_v182.trans (hk39_v113.trans (show v1 39 = v 39 from hq39_v1)))), (by show GR (v 3).toInt (v 5).toInt (v191 3).toInt (v191 5).toInt; exact GR.cast hGR (by first | with_reducible rfl | with_reducible assumption | rfl | omega) (by first | with_reducible rfl | with_reducible assumption | rfl | omega)), (by show IM0 (v191 1).toInt (FI 1 (v191 10).toInt (v191 14).toInt (v191 8).toInt (f192 6) (f192 2) (f192 3)); rw [hs6_f192, hs2_f192, hs3_f192]; intro hz9; exact FI.cast hFU (by first | with_reducible rfl | with_reducible assumption | rfl | omega) (by first | with_reducible rfl | with_reducible assumption | rfl | omega) (by first | with_reducible rfl | with_reducible assumption | rfl | omega)), (by show NB (v191 1).toInt (v191 8).toInt (v191 10).toInt (v191 13).toInt (v191 14).toInt; exact NB.mk (by omega) (by omega) (by omega) (by omega)), (by show UG (v191 1).toInt (v 13).toInt (v191 13).toInt; exact UG.mk (by omega))⟩ hP hD hS dX11_unit_179 (Nat.le_refl _) (Nat.le_refl _)
        · skip
          have zc111 : ¬ ((v1 1).toInt ≤ 0) := zMn rfl tc_0 c111
          exact ret (v1, f1, w1, g1) _ _ _ _ _ _ ⟨(hT107.symm.trans (gsY_X11_unit_1_q10 hG109 c111)), hM_v1, hA_f1, hIv1, hCf1, hRf1, (show v1 0 = v 0 from hq0_v1), (show v1 4 = v 4 from hq4_v1), (show v1 9 = v 9 from hq9_v1), (show v1 15 = v 15 from hq15_v1), (show v1 17 = v 17 from hq17_v1), (show v1 18 = v 18 from hq18_v1), (show v1 24 = v 24 from hq24_v1), (show v1 25 = v 25 from hq25_v1), (show v1 35 = v 35 from hq35_v1), (show v1 36 = v 36 from hq36_v1), (show v1 38 = v 38 from hq38_v1), (show v1 39 = v 39 from hq39_v1), (by show GR (v 3).toInt (v 5).toInt (v1 3).toInt (v1 5).toInt; exact GR.cast hGR (by first | with_reducible rfl | with_reducible assumption | rfl | omega) (by first | with_reducible rfl | with_reducible assumption | rfl | omega)), (by show IM0 (v1 1).toInt (FI 1 (v1 10).toInt (v1 14).toInt (v1 8).toInt (f1 6) (f1 2) (f1 3)); rw [hs2_f1, hs3_f1]; intro hz9; exfalso; omega), (by show NB (v1 1).toInt (v1 8).toInt (v1 10).toInt (v1 13).toInt (v1 14).toInt; exact NB.ab (by omega)), (by show UG (v1 1).toInt (v 13).toInt (v1 13).toInt; exact UG.ab (by omega))⟩ hP hD hS dX11_unit_145 (Nat.le_refl _) (Nat.le_refl _)
    revert jp126
    intro jp126
    refine lv_aload_n hx hb dX11_unit_114 rfl (lv_at hl 2 rfl) ?_
    refine va_get (D := (dC, dI)) (ci := 11) (v := .int (v1 5)) (C := RX11) (T := TX11) (N := 79) hx hb hts inB_11 hown hE.1 hP 0 rfl rfl 6 (Nat.le_of_ble_eq_true rfl) (hts _ k_1326) (fun _ h9 => h9) rfl dX11_unit_115 ?_
    refine lv_iconst (v := 2) hx hb dX11_unit_118 rfl ?_
    refine lv_icmp_eq (tgt := 126) hx hb dX11_unit_119 rfl (fun c200 => ?_) (fun c200 => ?_)
    · skip
      exact jp126 _ _ _ ((gsY_X11_unit_1_q11 c3 hG5.symm c200).symm.trans hT2) hP hD hS hl
    · skip
      refine lv_iload_n hx hb dX11_unit_122 rfl (lv_at hl 0 rfl) ?_
      refine lv_if_lt (tgt := 133) hx hb dX11_unit_123 rfl (fun c201 => ?_) (fun c201 => ?_)
      · skip
        exact jp133 _ _ _ ((gsY_X11_unit_1_q12 c3 hG5.symm c200 c201).symm.trans hT2) hP hD hS hl
      · skip
        exact jp126 _ _ _ ((gsY_X11_unit_1_q13 c3 hG5.symm c200 c201).symm.trans hT2) hP hD hS hl
  · skip
    have zc3 : ¬ ((v1 1).toInt ≤ 0) := zMn rfl tc_0 c3
    exact ret (v1, f1, w1, g1) _ _ _ _ _ _ ⟨(hT2.symm.trans (gsY_X11_unit_1_q14 c3)), hM_v1, hA_f1, hIv1, hCf1, hRf1, (show v1 0 = v 0 from hq0_v1), (show v1 4 = v 4 from hq4_v1), (show v1 9 = v 9 from hq9_v1), (show v1 15 = v 15 from hq15_v1), (show v1 17 = v 17 from hq17_v1), (show v1 18 = v 18 from hq18_v1), (show v1 24 = v 24 from hq24_v1), (show v1 25 = v 25 from hq25_v1), (show v1 35 = v 35 from hq35_v1), (show v1 36 = v 36 from hq36_v1), (show v1 38 = v 38 from hq38_v1), (show v1 39 = v 39 from hq39_v1), (by show GR (v 3).toInt (v 5).toInt (v1 3).toInt (v1 5).toInt; exact GR.cast hGR (by first | with_reducible rfl | with_reducible assumption | rfl | omega) (by first | with_reducible rfl | with_reducible assumption | rfl | omega)), (by show IM0 (v1 1).toInt (FI 1 (v1 10).toInt (v1 14).toInt (v1 8).toInt (f1 6) (f1 2) (f1 3)); rw [hs2_f1, hs3_f1]; intro hz9; exfalso; omega), (by show NB (v1 1).toInt (v1 8).toInt (v1 10).toInt (v1 13).toInt (v1 14).toInt; exact NB.ab (by omega)), (by show UG (v1 1).toInt (v 13).toInt (v1 13).toInt; exact UG.ab (by omega))⟩ hP hD hS dX11_unit_108 (Nat.le_refl _) (Nat.le_refl _)
set_option maxHeartbeats 4000000 in
set_option maxRecDepth 100000 in
theorem sY_X11_unit_1 (NF : Nat) (l : Launch) (dC : Nat → ClassId) (dI : Nat → Nat → Nat) (cy : Nat → ClassId) (y0 : Nat) (r : Nat → Nat)  (v : Nat → Int32) (f : Nat → Nat → Int32) (w : Int64) (g : Nat → Int64) (hIv : YI v) (hCf : YC f) (hRf : progOK (f 4) (f 5) (v 9).toInt.toNat)  (hf0 : (v 8).toInt + (v 10).toInt ≤ 10 * (v 13).toInt + 1) (hf1 : (v 10).toInt ≤ (v 14).toInt + (v 13).toInt + 1) (hf2 : (v 13).toInt ≤ 30) (hf3 : (v 14).toInt ≤ 7) (hg0 : FI 0 (v 10).toInt (v 14).toInt (v 8).toInt (f 6) (f 2) (f 3)) : ctV l (dC, dI) cy yX11_unit cX11_unit 3 4 124 0 0 ((Nat → Int32) × (Nat → Nat → Int32) × (Int64) × (Nat → Int64)) [.ref y0] (YW cy y0 r v f w g) (fun u => gsY_X11_unit_1 NF v f w g = u ∧ KV [1, 2, 3, 5, 6, 7, 8, 10, 11, 13, 14] u.1 v ∧ KF [2, 3, 6] u.2.1 f ∧ YI u.1 ∧ YC u.2.1 ∧ progOK (u.2.1 4) (u.2.1 5) (u.1 9).toInt.toNat ∧ u.1 0 = v 0 ∧ u.1 4 = v 4 ∧ u.1 9 = v 9 ∧ u.1 15 = v 15 ∧ u.1 17 = v 17 ∧ u.1 18 = v 18 ∧ u.1 24 = v 24 ∧ u.1 25 = v 25 ∧ u.1 35 = v 35 ∧ u.1 36 = v 36 ∧ u.1 38 = v 38 ∧ u.1 39 = v 39 ∧ (GR (v 3).toInt (v 5).toInt (u.1 3).toInt (u.1 5).toInt) ∧ (IM0 (u.1 1).toInt (FI 1 (u.1 10).toInt (u.1 14).toInt (u.1 8).toInt (u.2.1 6) (u.2.1 2) (u.2.1 3))) ∧ (NB (u.1 1).toInt (u.1 8).toInt (u.1 10).toInt (u.1 13).toInt (u.1 14).toInt) ∧ (UG (u.1 1).toInt (v 13).toInt (u.1 13).toInt)) (fun u => YW cy y0 r u.1 u.2.1 u.2.2.1 u.2.2.2) := by
  refine ctV_of (by decide) (Nat.le_of_ble_eq_true rfl) (fun p e s m below meth c A ls Q hx hb hml hts hown hnm hE hP hD hA hl ret => ?_)
  have hUv : (v 35).toInt + (v 36).toInt ≤ 40 := hIv.2
  have hM_v : KV [1, 2, 3, 5, 6, 7, 8, 10, 11, 13, 14] v v := fun _ _ => rfl
  have hA_f : KF [2, 3, 6] f f := fun _ _ => rfl
  have hFI := hg0
  have b1_v : (0 : Int) ≤ (v 1).toInt ∧ (v 1).toInt ≤ 4 := Yb_1 hIv.1
  have b3_v : (0 : Int) ≤ (v 3).toInt ∧ (v 3).toInt ≤ 1600 := Yb_3 hIv.1
  have b8_v : (0 : Int) ≤ (v 8).toInt ∧ (v 8).toInt ≤ 320 := Yb_8 hIv.1
  have b10_v : (0 : Int) ≤ (v 10).toInt ∧ (v 10).toInt ≤ 160 := Yb_10 hIv.1
  have b13_v : (0 : Int) ≤ (v 13).toInt ∧ (v 13).toInt ≤ 31 := Yb_13 hIv.1
  have b14_v : (0 : Int) ≤ (v 14).toInt ∧ (v 14).toInt ≤ 8 := Yb_14 hIv.1
  have hGR : GR (v 3).toInt (v 5).toInt (v 3).toInt (v 5).toInt := GR.refl _ _
  have hown : s.vm.findClass RX11 = some m.cls := hown
  have hS : va_S A s.heap s.heap [] := va_S.rf
  have hl : lv_has ls 3 [(0, .ref y0)] := hl
  refine lv_iconst (v := 1) hx hb dX11_unit_0 rfl ?_
  refine lv_istore_n (lv' := [(1, .int 1), (0, .ref y0)]) hx hb dX11_unit_1 rfl hl (Nat.le_of_ble_eq_true rfl) rfl (fun ls hl => ?_)
  have lp1 : ∀ (n1 : Nat) (l1_1 : Int32) (v1 : Nat → Int32) (f1 : Nat → Nat → Int32) (w1 : Int64) (g1 : Nat → Int64), YI v1 → YC f1 → progOK (f1 4) (f1 5) (v1 9).toInt.toNat → v1 0 = (v 0) → v1 4 = (v 4) → v1 8 = (v 8) → v1 9 = (v 9) → v1 15 = (v 15) → v1 17 = (v 17) → v1 18 = (v 18) → v1 24 = (v 24) → v1 25 = (v 25) → v1 35 = (v 35) → v1 36 = (v 36) → v1 38 = (v 38) → v1 39 = (v 39) → gsY_X11_unit_1_L1 NF n1 l1_1 v1 f1 w1 g1 = (gsY_X11_unit_1 NF v f w g) → ((0 : Int) ≤ l1_1.toInt ∧ l1_1.toInt ≤ 1) → (IM0 (v1 1).toInt (FI 0 (v1 10).toInt (v1 14).toInt (v1 8).toInt (f1 6) (f1 2) (f1 3))) → (NU (v1 1).toInt (v1 8).toInt (v1 10).toInt (v1 13).toInt (v1 14).toInt) → (GR (v 3).toInt (v 5).toInt (v1 3).toInt (v1 5).toInt) → ((v 13).toInt ≤ (v1 13).toInt) → KV [1, 2, 3, 5, 6, 7, 8, 10, 11, 13, 14] v1 v → KF [2, 3, 6] f1 f → f1 2 = (f 2) → f1 3 = (f 3) → (2 * (9 - (v1 14).toInt) + l1_1.toInt).toNat < n1 → ∀ (H : Heap) (locs : List Loc) (ls : Array Slot), va_P (dC, dI) vwCl (YW cy y0 r v1 f1 w1 g1) H → va_D A (YW cy y0 r v1 f1 w1 g1) → va_S A s.heap H locs → lv_has ls 3 [(1, .int l1_1), (0, .ref y0)] → W p l e { frames := 4, cells := 0, slots := 0, locals := 124 } s m ([.ref y0] : List Value).toArray below meth c H locs 0 0 Q (F0 m 2 ls []) := by
    intro n1
    induction n1 with
    | zero => intro l1_1 v1 f1 w1 g1 hIv1 hCf1 hRf1 hq0_v1 hq4_v1 hq8_v1 hq9_v1 hq15_v1 hq17_v1 hq18_v1 hq24_v1 hq25_v1 hq35_v1 hq36_v1 hq38_v1 hq39_v1 hT1 hr1_1 hx0_1 hx1_1 hx2_1 hx3_1 hM_v1 hA_f1 hs2_f1 hs3_f1 hm; exact absurd hm (Nat.not_lt_zero _)
    | succ n1 ih1 =>
      intro l1_1 v1 f1 w1 g1 hIv1 hCf1 hRf1 hq0_v1 hq4_v1 hq8_v1 hq9_v1 hq15_v1 hq17_v1 hq18_v1 hq24_v1 hq25_v1 hq35_v1 hq36_v1 hq38_v1 hq39_v1 hT1 hr1_1 hx0_1 hx1_1 hx2_1 hx3_1 hM_v1 hA_f1 hs2_f1 hs3_f1 hm1 H locs ls hP hD hS hl
      have jp101 := sY_X11_unit_1_jp101 NF l dC dI cy y0 r v f w g hIv hCf hRf hf0 hf1 hf2 hf3 hg0 hx hb hml hts hown hE hA ret n1 ih1 l1_1 v1 f1 w1 g1 hIv1 hCf1 hRf1 hq0_v1 hq4_v1 hq8_v1 hq9_v1 hq15_v1 hq17_v1 hq18_v1 hq24_v1 hq25_v1 hq35_v1 hq36_v1 hq38_v1 hq39_v1 hT1 hr1_1 hx0_1 hx1_1 hx2_1 hx3_1 hM_v1 hA_f1 hs2_f1 hs3_f1 hm1
      have hUv1 : (v1 35).toInt + (v1 36).toInt ≤ 40 := hIv1.2
      have zq8_v1 := congrArg Int32.toInt hq8_v1
      have b1_v1 : 0 ≤ (v1 1).toInt ∧ (v1 1).toInt ≤ 4 := Yb_1 hIv1.1
      have b10_v1 : 0 ≤ (v1 10).toInt ∧ (v1 10).toInt ≤ 160 := Yb_10 hIv1.1
      have b14_v1 : 0 ≤ (v1 14).toInt ∧ (v1 14).toInt ≤ 8 := Yb_14 hIv1.1
      have b8_v1 : 0 ≤ (v1 8).toInt ∧ (v1 8).toInt ≤ 320 := Yb_8 hIv1.1
      have b8_v : 0 ≤ (v 8).toInt ∧ (v 8).toInt ≤ 320 := Yb_8 hIv.1
      have b13_v1 : 0 ≤ (v1 13).toInt ∧ (v1 13).toInt ≤ 31 := Yb_13 hIv1.1
      have b3_v1 : 0 ≤ (v1 3).toInt ∧ (v1 3).toInt ≤ 1600 := Yb_3 hIv1.1
      rw [hs2_f1] at hx0_1
      rw [hs3_f1] at hx0_1
      have hFJ := hx0_1
      have hNU := hx1_1
      have hGR := hx2_1
      refine lv_iload_n hx hb dX11_unit_2 rfl (lv_at hl 0 rfl) ?_
      revert jp101
      intro jp101
      refine lv_if_eq (tgt := 101) hx hb dX11_unit_3 rfl (fun c202 => ?_) (fun c202 => ?_)
      · skip
        exact jp101 _ _ _ ((gsY_X11_unit_1_q15 c202).symm.trans hT1) hP hD hS hl
      · skip
        have zc202 : ¬ (l1_1.toInt = 0) := zEn rfl tc_0 c202
        refine lv_aload_n hx hb dX11_unit_6 rfl (lv_at hl 1 rfl) ?_
        refine va_get (D := (dC, dI)) (ci := 11) (v := .int (v1 1)) (C := RX11) (T := TX11) (N := 79) hx hb hts inB_11 hown hE.1 hP 0 rfl rfl 2 (Nat.le_of_ble_eq_true rfl) (hts _ k_1322) (fun _ h9 => h9) rfl dX11_unit_7 ?_
        refine lv_if_ne (tgt := 101) hx hb dX11_unit_10 rfl (fun c203 => ?_) (fun c203 => ?_)
        · skip
          exact jp101 _ _ _ ((gsY_X11_unit_1_q16 c202 c203).symm.trans hT1) hP hD hS hl
        · skip
          have zc203 : (v1 1).toInt = 0 := zEp rfl tc_0 c203
          obtain ⟨hn1, hn2, hn3, hn4⟩ := hNU (by omega)
          have jp53 : ∀ (H : Heap) (locs : List Loc) (ls : Array Slot), gsY_X11_unit_1_J204 NF f1 g1 l1_1 v1 w1 (fun z0 z1 z2 z3 z4 => gsY_X11_unit_1_L1 NF n1 z0 z1 z2 z3 z4) = (gsY_X11_unit_1 NF v f w g) → va_P (dC, dI) vwCl (YW cy y0 r v1 f1 w1 g1) H → va_D A (YW cy y0 r v1 f1 w1 g1) → va_S A s.heap H locs → lv_has ls 3 [(1, .int l1_1), (0, .ref y0)] → W p l e { frames := 4, cells := 0, slots := 0, locals := 124 } s m ([.ref y0] : List Value).toArray below meth c H locs 0 0 Q (F0 m 53 ls []) := by
            intro H locs ls hT204 hP hD hS hl
            refine lv_aload_n hx hb dX11_unit_53 rfl (lv_at hl 1 rfl) ?_
            refine va_get (D := (dC, dI)) (ci := 11) (v := .int (v1 5)) (C := RX11) (T := TX11) (N := 79) hx hb hts inB_11 hown hE.1 hP 0 rfl rfl 6 (Nat.le_of_ble_eq_true rfl) (hts _ k_1326) (fun _ h9 => h9) rfl dX11_unit_54 ?_
            refine lv_bipush (v := 40) hx hb dX11_unit_57 rfl ?_
            refine lv_icmp_ne (tgt := 96) hx hb dX11_unit_59 rfl (fun c205 => ?_) (fun c205 => ?_)
            · skip
              have zc205 : ¬ ((v1 5).toInt = 40) := zEn rfl tc_40 c205
              refine lv_iconst (v := 0) hx hb dX11_unit_96 rfl ?_
              refine lv_istore_n (lv' := [(1, .int 0), (0, .ref y0)]) hx hb dX11_unit_97 rfl hl (Nat.le_of_ble_eq_true rfl) rfl (fun ls hl => ?_)
              refine lv_goto (tgt := 2) hx hb dX11_unit_98 rfl ?_
              exact ih1 0 v1 f1 w1 g1 hIv1 hCf1 hRf1 hq0_v1 hq4_v1 hq8_v1 hq9_v1 hq15_v1 hq17_v1 hq18_v1 hq24_v1 hq25_v1 hq35_v1 hq36_v1 hq38_v1 hq39_v1 ((gsY_X11_unit_1_q17 c205).symm.trans hT204) ⟨by decide, by decide⟩ (by show IM0 (v1 1).toInt (FI 0 (v1 10).toInt (v1 14).toInt (v1 8).toInt (f1 6) (f1 2) (f1 3)); rw [hs2_f1, hs3_f1]; intro hz9; exact FI.cast (hFJ (by omega)) (by first | with_reducible rfl | with_reducible assumption | rfl | omega) (by first | with_reducible rfl | with_reducible assumption | rfl | omega) (by first | with_reducible rfl | with_reducible assumption | rfl | omega)) (by show NU (v1 1).toInt (v1 8).toInt (v1 10).toInt (v1 13).toInt (v1 14).toInt; exact NU.mk (by omega) (by omega) (by omega) (by omega)) (by show GR (v 3).toInt (v 5).toInt (v1 3).toInt (v1 5).toInt; exact GR.cast hGR (by first | with_reducible rfl | with_reducible assumption | rfl | omega) (by first | with_reducible rfl | with_reducible assumption | rfl | omega)) (show (v 13).toInt ≤ (v1 13).toInt from om_318 hx3_1) hM_v1 hA_f1 hs2_f1 hs3_f1 (show (2 * (9 - (v1 14).toInt) + (0 : Int32).toInt).toNat < n1 from om_366 hr1_1 hm1 b14_v1 zc202 tc_0) _ _ _ hP hD hS (lv_sub hl [0, 1] rfl)
            · skip
              have zc205 : (v1 5).toInt = 40 := zEp rfl tc_40 c205
              refine lv_aload_n hx hb dX11_unit_62 rfl (lv_at hl 1 rfl) ?_
              refine cbVi (n := 0) (rest := []) hx hb hml hown hts hE hP hD hS hA (sY_X11_isFull_1 NF l dC dI cy y0 r  v1 f1 w1 g1 hIv1 hCf1 hRf1 ) k_1684 k_1686 k_60 k_114 k_1687 hd_yX11_isFull ⟨Nat.le_of_ble_eq_true rfl, Nat.le_of_ble_eq_true rfl⟩ 0 11 rfl rfl (rfl) hl.1 rfl (Nat.le_of_ble_eq_true rfl) dX11_unit_63 (fun r206 u H locs hw hP hD hS => ?_)
              obtain ⟨hG207, hw⟩ := hw
              rcases hw with ⟨g208⟩ | ⟨g208, g208_0⟩
              · skip
                subst g208
                refine lv_if_ne (tgt := 78) hx hb dX11_unit_66 rfl (fun _ => ?_) (fun c0 => absurd c0 (by decide))
                refine lv_aload_n hx hb dX11_unit_78 rfl (lv_at hl 1 rfl) ?_
                refine lv_iconst (v := 2) hx hb dX11_unit_79 rfl ?_
                refine cbVv (n := 1) (rest := []) hx hb hml hown hts hE hP hD hS hA (sY_X11_wrong_1 NF l dC dI cy y0 r 2 v1 f1 w1 g1 hIv1 hCf1 hRf1 ⟨by decide, by decide⟩) k_1641 k_1643 k_50 k_114 k_1644 hd_yX11_wrong ⟨Nat.le_of_ble_eq_true rfl, Nat.le_of_ble_eq_true rfl⟩ 0 11 rfl rfl (rfl) hl.1 rfl (Nat.le_of_ble_eq_true rfl) dX11_unit_80 (fun u H locs hw hP hD hS => ?_)
                obtain ⟨hG209, hw⟩ := hw
                obtain ⟨v210, f211, w212, g213⟩ := u
                obtain ⟨kV_v210, kF_f211, hIv210, hCf211, hRf211, hk0_v210, hk3_v210, hk4_v210, hk5_v210, hk8_v210, hk9_v210, hk10_v210, hk13_v210, hk14_v210, hk15_v210, hk17_v210, hk18_v210, hk24_v210, hk25_v210, hk35_v210, hk36_v210, hk38_v210, hk39_v210, pv214, pv215, pv216, kq217, kq218, kq219⟩ := hw
                have hM_v210 : KV [1, 2, 3, 5, 6, 7, 8, 10, 11, 13, 14] v210 v := KV.tr kV_v210 hM_v1 rfl
                have hA_f211 : KF [2, 3, 6] f211 f := KF.tr kF_f211 hA_f1 rfl
                have hP : va_P (dC, dI) vwCl (YW cy y0 r v210 f211 w212 g213) H := hP
                have hD : va_D A (YW cy y0 r v210 f211 w212 g213) := hD
                have b3_v210 : 0 ≤ (v210 3).toInt ∧ (v210 3).toInt ≤ 1600 := Yb_3 hIv210.1
                have b1_v210 : 0 ≤ (v210 1).toInt ∧ (v210 1).toInt ≤ 4 := Yb_1 hIv210.1
                have pv214 : (v1 3).toInt ≤ (v210 3).toInt := pv214
                have pv215 : (v210 5).toInt = (v1 5).toInt ∨ (v1 3).toInt < (v210 3).toInt ∨ ¬ (v210 5).toInt = 59 := pv215
                have pv216 : 0 < (v210 1).toInt := pv216
                have hs2_f211 : f211 2 = (f 2) := kq217.trans hs2_f1
                have hs3_f211 : f211 3 = (f 3) := kq218.trans hs3_f1
                have hs6_f211 : f211 6 = (f1 6) := kq219
                have hUv210 : (v210 35).toInt + (v210 36).toInt ≤ 40 := hIv210.2
                have hq0_v210 : v210 0 = (v 0) := hk0_v210.trans hq0_v1
                have hq3_v210 : v210 3 = (v1 3) := hk3_v210
                have zq3_v210 := congrArg Int32.toInt hq3_v210
                have hq4_v210 : v210 4 = (v 4) := hk4_v210.trans hq4_v1
                have hq5_v210 : v210 5 = (v1 5) := hk5_v210
                have zq5_v210 := congrArg Int32.toInt hq5_v210
                have hq8_v210 : v210 8 = (v 8) := hk8_v210.trans hq8_v1
                have zq8_v210 := congrArg Int32.toInt hq8_v210
                have hq9_v210 : v210 9 = (v 9) := hk9_v210.trans hq9_v1
                have hq10_v210 : v210 10 = (v1 10) := hk10_v210
                have zq10_v210 := congrArg Int32.toInt hq10_v210
                have hq13_v210 : v210 13 = (v1 13) := hk13_v210
                have zq13_v210 := congrArg Int32.toInt hq13_v210
                have hq14_v210 : v210 14 = (v1 14) := hk14_v210
                have zq14_v210 := congrArg Int32.toInt hq14_v210
                have hq15_v210 : v210 15 = (v 15) := hk15_v210.trans hq15_v1
                have hq17_v210 : v210 17 = (v 17) := hk17_v210.trans hq17_v1
                have hq18_v210 : v210 18 = (v 18) := hk18_v210.trans hq18_v1
                have hq24_v210 : v210 24 = (v 24) := hk24_v210.trans hq24_v1
                have hq25_v210 : v210 25 = (v 25) := hk25_v210.trans hq25_v1
                have hq35_v210 : v210 35 = (v 35) := hk35_v210.trans hq35_v1
                have hq36_v210 : v210 36 = (v 36) := hk36_v210.trans hq36_v1
                have hq38_v210 : v210 38 = (v 38) := hk38_v210.trans hq38_v1
                have hq39_v210 : v210 39 = (v 39) := hk39_v210.trans hq39_v1
                have hGR : GR (v 3).toInt (v 5).toInt (v210 3).toInt (v210 5).toInt := GR.tr hGR (show GR (v1 3).toInt (v1 5).toInt (v210 3).toInt (v210 5).toInt from ⟨pv214, pv215⟩) (by first | with_reducible rfl | with_reducible assumption | rfl | omega) (by first | with_reducible rfl | with_reducible assumption | rfl | omega)
                clear pv215
                refine lv_aload_n hx hb dX11_unit_83 rfl (lv_at hl 1 rfl) ?_
                refine cbVv (n := 0) (rest := []) hx hb hml hown hts hE hP hD hS hA (sY_X11_countUnit_1 NF l dC dI cy y0 r  v210 f211 w212 g213 hIv210 hCf211 hRf211 (by show (v210 13).toInt ≤ 30; omega)) k_1688 k_1690 k_61 k_114 k_1691 hd_yX11_countUnit ⟨Nat.le_of_ble_eq_true rfl, Nat.le_of_ble_eq_true rfl⟩ 0 11 rfl rfl (rfl) hl.1 rfl (Nat.le_of_ble_eq_true rfl) dX11_unit_84 (fun u H locs hw hP hD hS => ?_)
                obtain ⟨hG220, hw⟩ := hw
                obtain ⟨v221, f222, w223, g224⟩ := u
                obtain ⟨kV_v221, kF_f222, hIv221, hCf222, hRf222, hk0_v221, hk1_v221, hk2_v221, hk3_v221, hk4_v221, hk5_v221, hk8_v221, hk9_v221, hk10_v221, hk14_v221, hk15_v221, hk17_v221, hk18_v221, hk24_v221, hk25_v221, hk35_v221, hk36_v221, hk38_v221, hk39_v221, pv225, kq226, kq227, kq228⟩ := hw
                have hM_v221 : KV [1, 2, 3, 5, 6, 7, 8, 10, 11, 13, 14] v221 v := KV.tr kV_v221 hM_v210 rfl
                have hA_f222 : KF [2, 3, 6] f222 f := KF.tr kF_f222 hA_f211 rfl
                have hP : va_P (dC, dI) vwCl (YW cy y0 r v221 f222 w223 g224) H := hP
                have hD : va_D A (YW cy y0 r v221 f222 w223 g224) := hD
                have b13_v221 : 0 ≤ (v221 13).toInt ∧ (v221 13).toInt ≤ 31 := Yb_13 hIv221.1
                have pv225 : (v221 13).toInt = (v210 13).toInt + 1 := pv225
                have hs2_f222 : f222 2 = (f 2) := kq226.trans hs2_f211
                have hs3_f222 : f222 3 = (f 3) := kq227.trans hs3_f211
                have hs6_f222 : f222 6 = (f1 6) := kq228.trans hs6_f211
                have hUv221 : (v221 35).toInt + (v221 36).toInt ≤ 40 := hIv221.2
                have hq0_v221 : v221 0 = (v 0) := hk0_v221.trans hq0_v210
                have hq1_v221 : v221 1 = (v210 1) := hk1_v221
                have zq1_v221 := congrArg Int32.toInt hq1_v221
                have hq3_v221 : v221 3 = (v1 3) := hk3_v221.trans hq3_v210
                have zq3_v221 := congrArg Int32.toInt hq3_v221
                have hq4_v221 : v221 4 = (v 4) := hk4_v221.trans hq4_v210
                have hq5_v221 : v221 5 = (v1 5) := hk5_v221.trans hq5_v210
                have zq5_v221 := congrArg Int32.toInt hq5_v221
                have hq8_v221 : v221 8 = (v 8) := hk8_v221.trans hq8_v210
                have zq8_v221 := congrArg Int32.toInt hq8_v221
                have hq9_v221 : v221 9 = (v 9) := hk9_v221.trans hq9_v210
                have hq10_v221 : v221 10 = (v1 10) := hk10_v221.trans hq10_v210
                have zq10_v221 := congrArg Int32.toInt hq10_v221
                have hq14_v221 : v221 14 = (v1 14) := hk14_v221.trans hq14_v210
                have zq14_v221 := congrArg Int32.toInt hq14_v221
                have hq15_v221 : v221 15 = (v 15) := hk15_v221.trans hq15_v210
                have hq17_v221 : v221 17 = (v 17) := hk17_v221.trans hq17_v210
                have hq18_v221 : v221 18 = (v 18) := hk18_v221.trans hq18_v210
                have hq24_v221 : v221 24 = (v 24) := hk24_v221.trans hq24_v210
                have hq25_v221 : v221 25 = (v 25) := hk25_v221.trans hq25_v210
                have hq35_v221 : v221 35 = (v 35) := hk35_v221.trans hq35_v210
                have hq36_v221 : v221 36 = (v 36) := hk36_v221.trans hq36_v210
                have hq38_v221 : v221 38 = (v 38) := hk38_v221.trans hq38_v210
                have hq39_v221 : v221 39 = (v 39) := hk39_v221.trans hq39_v210
                refine lv_aload_n hx hb dX11_unit_87 rfl (lv_at hl 1 rfl) ?_
                refine lv_bipush (v := 20) hx hb dX11_unit_88 rfl ?_
                refine cbVv (n := 1) (rest := []) hx hb hml hown hts hE hP hD hS hA (sY_X11_openUp_1 NF l dC dI cy y0 r 20 v221 f222 w223 g224 hIv221 hCf222 hRf222 (by have q1 : (20 : Int32).toInt = 20 := (by decide); show (v221 10).toInt ≤ 159; omega) (by have q1 : (20 : Int32).toInt = 20 := (by decide); show (v221 14).toInt ≤ 7; omega)) k_1680 k_1682 k_59 k_114 k_1683 hd_yX11_openUp ⟨Nat.le_of_ble_eq_true rfl, Nat.le_of_ble_eq_true rfl⟩ 0 11 rfl rfl (rfl) hl.1 rfl (Nat.le_of_ble_eq_true rfl) dX11_unit_90 (fun u H locs hw hP hD hS => ?_)
                obtain ⟨hG229, hw⟩ := hw
                obtain ⟨v230, f231, w232, g233⟩ := u
                obtain ⟨kV_v230, kF_f231, hIv230, hCf231, hRf231, hk0_v230, hk1_v230, hk2_v230, hk4_v230, hk8_v230, hk9_v230, hk13_v230, hk15_v230, hk17_v230, hk18_v230, hk24_v230, hk25_v230, hk35_v230, hk36_v230, hk38_v230, hk39_v230, pv234, pv235, pg236, pg237, kq238, kq239⟩ := hw
                have hM_v230 : KV [1, 2, 3, 5, 6, 7, 8, 10, 11, 13, 14] v230 v := KV.tr kV_v230 hM_v221 rfl
                have hA_f231 : KF [2, 3, 6] f231 f := KF.tr kF_f231 hA_f222 rfl
                have hP : va_P (dC, dI) vwCl (YW cy y0 r v230 f231 w232 g233) H := hP
                have hD : va_D A (YW cy y0 r v230 f231 w232 g233) := hD
                have b10_v230 : 0 ≤ (v230 10).toInt ∧ (v230 10).toInt ≤ 160 := Yb_10 hIv230.1
                have b14_v230 : 0 ≤ (v230 14).toInt ∧ (v230 14).toInt ≤ 8 := Yb_14 hIv230.1
                have b3_v230 : 0 ≤ (v230 3).toInt ∧ (v230 3).toInt ≤ 1600 := Yb_3 hIv230.1
                have pv234 : (v230 10).toInt = (v221 10).toInt + 1 := pv234
                have pv235 : (v230 14).toInt = (v221 14).toInt + 1 := pv235
                have pg236 : GR (v221 3).toInt (v221 5).toInt (v230 3).toInt (v230 5).toInt := pg236
                have pg237 : (f231 6) = upd (f222 6) ((v221 10).toInt).toNat 20 := pg237
                rw [hs6_f222] at pg237
                have hs2_f231 : f231 2 = (f 2) := kq238.trans hs2_f222
                have hs3_f231 : f231 3 = (f 3) := kq239.trans hs3_f222
                have hUv230 : (v230 35).toInt + (v230 36).toInt ≤ 40 := hIv230.2
                have hq0_v230 : v230 0 = (v 0) := hk0_v230.trans hq0_v221
                have hq1_v230 : v230 1 = (v210 1) := hk1_v230.trans hq1_v221
                have zq1_v230 := congrArg Int32.toInt hq1_v230
                have hq4_v230 : v230 4 = (v 4) := hk4_v230.trans hq4_v221
                have hq8_v230 : v230 8 = (v 8) := hk8_v230.trans hq8_v221
                have zq8_v230 := congrArg Int32.toInt hq8_v230
                have hq9_v230 : v230 9 = (v 9) := hk9_v230.trans hq9_v221
                have hq13_v230 : v230 13 = (v221 13) := hk13_v230
                have zq13_v230 := congrArg Int32.toInt hq13_v230
                have hq15_v230 : v230 15 = (v 15) := hk15_v230.trans hq15_v221
                have hq17_v230 : v230 17 = (v 17) := hk17_v230.trans hq17_v221
                have hq18_v230 : v230 18 = (v 18) := hk18_v230.trans hq18_v221
                have hq24_v230 : v230 24 = (v 24) := hk24_v230.trans hq24_v221
                have hq25_v230 : v230 25 = (v 25) := hk25_v230.trans hq25_v221
                have hq35_v230 : v230 35 = (v 35) := hk35_v230.trans hq35_v221
                have hq36_v230 : v230 36 = (v 36) := hk36_v230.trans hq36_v221
                have hq38_v230 : v230 38 = (v 38) := hk38_v230.trans hq38_v221
                have hq39_v230 : v230 39 = (v 39) := hk39_v230.trans hq39_v221
                have hGR : GR (v 3).toInt (v 5).toInt (v230 3).toInt (v230 5).toInt := GR.tr hGR (show GR (v221 3).toInt (v221 5).toInt (v230 3).toInt (v230 5).toInt from pg236) (by first | with_reducible rfl | with_reducible assumption | rfl | omega) (by first | with_reducible rfl | with_reducible assumption | rfl | omega)
                have hFK : FI 0 (v230 10).toInt (v230 14).toInt (v230 8).toInt (f231 6) (f 2) (f 3) := FI.push (hFJ (by omega)) pg237 (by omega) (by decide) (by first | with_reducible rfl | with_reducible assumption | rfl | omega) (by first | with_reducible rfl | with_reducible assumption | rfl | omega) (by first | with_reducible rfl | with_reducible assumption | rfl | omega)
                refine lv_goto (tgt := 2) hx hb dX11_unit_93 rfl ?_
                have rg240 := fb_rng l1_1
                exact ih1 l1_1 v230 f231 w232 g233 hIv230 hCf231 hRf231 hq0_v230 hq4_v230 hq8_v230 hq9_v230 hq15_v230 hq17_v230 hq18_v230 hq24_v230 hq25_v230 hq35_v230 hq36_v230 hq38_v230 hq39_v230 ((gsY_X11_unit_1_q18 c205 hG207 hG209 hG220 hG229).symm.trans hT204) ⟨show (0 : Int) ≤ l1_1.toInt from om_367 hr1_1, show l1_1.toInt ≤ (1 : Int) from om_368 hr1_1⟩ (by show IM0 (v230 1).toInt (FI 0 (v230 10).toInt (v230 14).toInt (v230 8).toInt (f231 6) (f231 2) (f231 3)); rw [hs2_f231, hs3_f231]; intro hz9; exact FI.cast hFK (by first | with_reducible rfl | with_reducible assumption | rfl | omega) (by first | with_reducible rfl | with_reducible assumption | rfl | omega) (by first | with_reducible rfl | with_reducible assumption | rfl | omega)) (by show NU (v230 1).toInt (v230 8).toInt (v230 10).toInt (v230 13).toInt (v230 14).toInt; exact NU.ab (by omega)) (by show GR (v 3).toInt (v 5).toInt (v230 3).toInt (v230 5).toInt; exact GR.cast hGR (by first | with_reducible rfl | with_reducible assumption | rfl | omega) (by first | with_reducible rfl | with_reducible assumption | rfl | omega)) (show (v 13).toInt ≤ (v230 13).toInt from om_369 hx3_1 zq13_v210 pv225 zq13_v230) hM_v230 hA_f231 hs2_f231 hs3_f231 (show (2 * (9 - (v230 14).toInt) + l1_1.toInt).toNat < n1 from om_370 hr1_1 hm1 zq14_v221 b14_v230 pv235) _ _ _ hP hD hS (lv_sub hl [0, 1] rfl)
              · skip
                subst g208
                refine lv_if_ne (tgt := 78) hx hb dX11_unit_66 rfl (fun c0 => absurd (by decide) c0) (fun _ => ?_)
                refine lv_aload_n hx hb dX11_unit_69 rfl (lv_at hl 1 rfl) ?_
                refine va_get (D := (dC, dI)) (ci := 11) (v := .int (v1 14)) (C := RX11) (T := TX11) (N := 79) hx hb hts inB_11 hown hE.1 hP 0 rfl rfl 23 (Nat.le_of_ble_eq_true rfl) (hts _ k_1343) (fun _ h9 => h9) rfl dX11_unit_70 ?_
                refine lv_bipush (v := 6) hx hb dX11_unit_73 rfl ?_
                refine lv_icmp_le (tgt := 83) hx hb dX11_unit_75 rfl (fun c241 => ?_) (fun c241 => ?_)
                · skip
                  have zc241 : (v1 14).toInt ≤ 6 := zMp rfl tc_6 c241
                  refine lv_aload_n hx hb dX11_unit_83 rfl (lv_at hl 1 rfl) ?_
                  refine cbVv (n := 0) (rest := []) hx hb hml hown hts hE hP hD hS hA (sY_X11_countUnit_1 NF l dC dI cy y0 r  v1 f1 w1 g1 hIv1 hCf1 hRf1 (by show (v1 13).toInt ≤ 30; omega)) k_1688 k_1690 k_61 k_114 k_1691 hd_yX11_countUnit ⟨Nat.le_of_ble_eq_true rfl, Nat.le_of_ble_eq_true rfl⟩ 0 11 rfl rfl (rfl) hl.1 rfl (Nat.le_of_ble_eq_true rfl) dX11_unit_84 (fun u H locs hw hP hD hS => ?_)
                  obtain ⟨hG242, hw⟩ := hw
                  obtain ⟨v243, f244, w245, g246⟩ := u
                  obtain ⟨kV_v243, kF_f244, hIv243, hCf244, hRf244, hk0_v243, hk1_v243, hk2_v243, hk3_v243, hk4_v243, hk5_v243, hk8_v243, hk9_v243, hk10_v243, hk14_v243, hk15_v243, hk17_v243, hk18_v243, hk24_v243, hk25_v243, hk35_v243, hk36_v243, hk38_v243, hk39_v243, pv247, kq248, kq249, kq250⟩ := hw
                  have hM_v243 : KV [1, 2, 3, 5, 6, 7, 8, 10, 11, 13, 14] v243 v := KV.tr kV_v243 hM_v1 rfl
                  have hA_f244 : KF [2, 3, 6] f244 f := KF.tr kF_f244 hA_f1 rfl
                  have hP : va_P (dC, dI) vwCl (YW cy y0 r v243 f244 w245 g246) H := hP
                  have hD : va_D A (YW cy y0 r v243 f244 w245 g246) := hD
                  have b13_v243 : 0 ≤ (v243 13).toInt ∧ (v243 13).toInt ≤ 31 := Yb_13 hIv243.1
                  have pv247 : (v243 13).toInt = (v1 13).toInt + 1 := pv247
                  have hs2_f244 : f244 2 = (f 2) := kq248.trans hs2_f1
                  have hs3_f244 : f244 3 = (f 3) := kq249.trans hs3_f1
                  have hs6_f244 : f244 6 = (f1 6) := kq250
                  have hUv243 : (v243 35).toInt + (v243 36).toInt ≤ 40 := hIv243.2
                  have hq0_v243 : v243 0 = (v 0) := hk0_v243.trans hq0_v1
                  have hq1_v243 : v243 1 = (v1 1) := hk1_v243
                  have zq1_v243 := congrArg Int32.toInt hq1_v243
                  have hq3_v243 : v243 3 = (v1 3) := hk3_v243
                  have zq3_v243 := congrArg Int32.toInt hq3_v243
                  have hq4_v243 : v243 4 = (v 4) := hk4_v243.trans hq4_v1
                  have hq5_v243 : v243 5 = (v1 5) := hk5_v243
                  have zq5_v243 := congrArg Int32.toInt hq5_v243
                  have hq8_v243 : v243 8 = (v 8) := hk8_v243.trans hq8_v1
                  have zq8_v243 := congrArg Int32.toInt hq8_v243
                  have hq9_v243 : v243 9 = (v 9) := hk9_v243.trans hq9_v1
                  have hq10_v243 : v243 10 = (v1 10) := hk10_v243
                  have zq10_v243 := congrArg Int32.toInt hq10_v243
                  have hq14_v243 : v243 14 = (v1 14) := hk14_v243
                  have zq14_v243 := congrArg Int32.toInt hq14_v243
                  have hq15_v243 : v243 15 = (v 15) := hk15_v243.trans hq15_v1
                  have hq17_v243 : v243 17 = (v 17) := hk17_v243.trans hq17_v1
                  have hq18_v243 : v243 18 = (v 18) := hk18_v243.trans hq18_v1
                  have hq24_v243 : v243 24 = (v 24) := hk24_v243.trans hq24_v1
                  have hq25_v243 : v243 25 = (v 25) := hk25_v243.trans hq25_v1
                  have hq35_v243 : v243 35 = (v 35) := hk35_v243.trans hq35_v1
                  have hq36_v243 : v243 36 = (v 36) := hk36_v243.trans hq36_v1
                  have hq38_v243 : v243 38 = (v 38) := hk38_v243.trans hq38_v1
                  have hq39_v243 : v243 39 = (v 39) := hk39_v243.trans hq39_v1
                  refine lv_aload_n hx hb dX11_unit_87 rfl (lv_at hl 1 rfl) ?_
                  refine lv_bipush (v := 20) hx hb dX11_unit_88 rfl ?_
                  refine cbVv (n := 1) (rest := []) hx hb hml hown hts hE hP hD hS hA (sY_X11_openUp_1 NF l dC dI cy y0 r 20 v243 f244 w245 g246 hIv243 hCf244 hRf244 (by have q1 : (20 : Int32).toInt = 20 := (by decide); show (v243 10).toInt ≤ 159; omega) (show (v243 14).toInt ≤ 7 from om_371 zc241 zq14_v243)) k_1680 k_1682 k_59 k_114 k_1683 hd_yX11_openUp ⟨Nat.le_of_ble_eq_true rfl, Nat.le_of_ble_eq_true rfl⟩ 0 11 rfl rfl (rfl) hl.1 rfl (Nat.le_of_ble_eq_true rfl) dX11_unit_90 (fun u H locs hw hP hD hS => ?_)
                  obtain ⟨hG251, hw⟩ := hw
                  obtain ⟨v252, f253, w254, g255⟩ := u
                  obtain ⟨kV_v252, kF_f253, hIv252, hCf253, hRf253, hk0_v252, hk1_v252, hk2_v252, hk4_v252, hk8_v252, hk9_v252, hk13_v252, hk15_v252, hk17_v252, hk18_v252, hk24_v252, hk25_v252, hk35_v252, hk36_v252, hk38_v252, hk39_v252, pv256, pv257, pg258, pg259, kq260, kq261⟩ := hw
                  have hM_v252 : KV [1, 2, 3, 5, 6, 7, 8, 10, 11, 13, 14] v252 v := KV.tr kV_v252 hM_v243 rfl
                  have hA_f253 : KF [2, 3, 6] f253 f := KF.tr kF_f253 hA_f244 rfl
                  have hP : va_P (dC, dI) vwCl (YW cy y0 r v252 f253 w254 g255) H := hP
                  have hD : va_D A (YW cy y0 r v252 f253 w254 g255) := hD
                  have b10_v252 : 0 ≤ (v252 10).toInt ∧ (v252 10).toInt ≤ 160 := Yb_10 hIv252.1
                  have b14_v252 : 0 ≤ (v252 14).toInt ∧ (v252 14).toInt ≤ 8 := Yb_14 hIv252.1
                  have b3_v252 : 0 ≤ (v252 3).toInt ∧ (v252 3).toInt ≤ 1600 := Yb_3 hIv252.1
                  have pv256 : (v252 10).toInt = (v243 10).toInt + 1 := pv256
                  have pv257 : (v252 14).toInt = (v243 14).toInt + 1 := pv257
                  have pg258 : GR (v243 3).toInt (v243 5).toInt (v252 3).toInt (v252 5).toInt := pg258
                  have pg259 : (f253 6) = upd (f244 6) ((v243 10).toInt).toNat 20 := pg259
                  rw [hs6_f244] at pg259
                  have hs2_f253 : f253 2 = (f 2) := kq260.trans hs2_f244
                  have hs3_f253 : f253 3 = (f 3) := kq261.trans hs3_f244
                  have hUv252 : (v252 35).toInt + (v252 36).toInt ≤ 40 := hIv252.2
                  have hq0_v252 : v252 0 = (v 0) := hk0_v252.trans hq0_v243
                  have hq1_v252 : v252 1 = (v1 1) := hk1_v252.trans hq1_v243
                  have zq1_v252 := congrArg Int32.toInt hq1_v252
                  have hq4_v252 : v252 4 = (v 4) := hk4_v252.trans hq4_v243
                  have hq8_v252 : v252 8 = (v 8) := hk8_v252.trans hq8_v243
                  have zq8_v252 := congrArg Int32.toInt hq8_v252
                  have hq9_v252 : v252 9 = (v 9) := hk9_v252.trans hq9_v243
                  have hq13_v252 : v252 13 = (v243 13) := hk13_v252
                  have zq13_v252 := congrArg Int32.toInt hq13_v252
                  have hq15_v252 : v252 15 = (v 15) := hk15_v252.trans hq15_v243
                  have hq17_v252 : v252 17 = (v 17) := hk17_v252.trans hq17_v243
                  have hq18_v252 : v252 18 = (v 18) := hk18_v252.trans hq18_v243
                  have hq24_v252 : v252 24 = (v 24) := hk24_v252.trans hq24_v243
                  have hq25_v252 : v252 25 = (v 25) := hk25_v252.trans hq25_v243
                  have hq35_v252 : v252 35 = (v 35) := hk35_v252.trans hq35_v243
                  have hq36_v252 : v252 36 = (v 36) := hk36_v252.trans hq36_v243
                  have hq38_v252 : v252 38 = (v 38) := hk38_v252.trans hq38_v243
                  have hq39_v252 : v252 39 = (v 39) := hk39_v252.trans hq39_v243
                  have hGR : GR (v 3).toInt (v 5).toInt (v252 3).toInt (v252 5).toInt := GR.tr hGR (show GR (v243 3).toInt (v243 5).toInt (v252 3).toInt (v252 5).toInt from pg258) (by first | with_reducible rfl | with_reducible assumption | rfl | omega) (by first | with_reducible rfl | with_reducible assumption | rfl | omega)
                  have hFK : FI 0 (v252 10).toInt (v252 14).toInt (v252 8).toInt (f253 6) (f 2) (f 3) := FI.push (hFJ (by omega)) pg259 (by omega) (by decide) (by first | with_reducible rfl | with_reducible assumption | rfl | omega) (by first | with_reducible rfl | with_reducible assumption | rfl | omega) (by first | with_reducible rfl | with_reducible assumption | rfl | omega)
                  refine lv_goto (tgt := 2) hx hb dX11_unit_93 rfl ?_
                  have rg262 := fb_rng l1_1
                  exact ih1 l1_1 v252 f253 w254 g255 hIv252 hCf253 hRf253 hq0_v252 hq4_v252 hq8_v252 hq9_v252 hq15_v252 hq17_v252 hq18_v252 hq24_v252 hq25_v252 hq35_v252 hq36_v252 hq38_v252 hq39_v252 ((gsY_X11_unit_1_q19 c205 hG207 c241 hG242 hG251).symm.trans hT204) ⟨show (0 : Int) ≤ l1_1.toInt from om_367 hr1_1, show l1_1.toInt ≤ (1 : Int) from om_368 hr1_1⟩ (by show IM0 (v252 1).toInt (FI 0 (v252 10).toInt (v252 14).toInt (v252 8).toInt (f253 6) (f253 2) (f253 3)); rw [hs2_f253, hs3_f253]; intro hz9; exact FI.cast hFK (by first | with_reducible rfl | with_reducible assumption | rfl | omega) (by first | with_reducible rfl | with_reducible assumption | rfl | omega) (by first | with_reducible rfl | with_reducible assumption | rfl | omega)) (by show NU (v252 1).toInt (v252 8).toInt (v252 10).toInt (v252 13).toInt (v252 14).toInt; exact NU.mk (by omega) (by omega) (by omega) (by omega)) (by show GR (v 3).toInt (v 5).toInt (v252 3).toInt (v252 5).toInt; exact GR.cast hGR (by first | with_reducible rfl | with_reducible assumption | rfl | omega) (by first | with_reducible rfl | with_reducible assumption | rfl | omega)) (show (v 13).toInt ≤ (v252 13).toInt from om_372 hx3_1 pv247 zq13_v252) hM_v252 hA_f253 hs2_f253 hs3_f253 (show (2 * (9 - (v252 14).toInt) + l1_1.toInt).toNat < n1 from om_373 hr1_1 hm1 zc241 zq14_v243 pv257) _ _ _ hP hD hS (lv_sub hl [0, 1] rfl)
                · skip
                  have zc241 : ¬ ((v1 14).toInt ≤ 6) := zMn rfl tc_6 c241
                  refine lv_aload_n hx hb dX11_unit_78 rfl (lv_at hl 1 rfl) ?_
                  refine lv_iconst (v := 2) hx hb dX11_unit_79 rfl ?_
                  refine cbVv (n := 1) (rest := []) hx hb hml hown hts hE hP hD hS hA (sY_X11_wrong_1 NF l dC dI cy y0 r 2 v1 f1 w1 g1 hIv1 hCf1 hRf1 ⟨by decide, by decide⟩) k_1641 k_1643 k_50 k_114 k_1644 hd_yX11_wrong ⟨Nat.le_of_ble_eq_true rfl, Nat.le_of_ble_eq_true rfl⟩ 0 11 rfl rfl (rfl) hl.1 rfl (Nat.le_of_ble_eq_true rfl) dX11_unit_80 (fun u H locs hw hP hD hS => ?_)
                  obtain ⟨hG263, hw⟩ := hw
                  obtain ⟨v264, f265, w266, g267⟩ := u
                  obtain ⟨kV_v264, kF_f265, hIv264, hCf265, hRf265, hk0_v264, hk3_v264, hk4_v264, hk5_v264, hk8_v264, hk9_v264, hk10_v264, hk13_v264, hk14_v264, hk15_v264, hk17_v264, hk18_v264, hk24_v264, hk25_v264, hk35_v264, hk36_v264, hk38_v264, hk39_v264, pv268, pv269, pv270, kq271, kq272, kq273⟩ := hw
                  have hM_v264 : KV [1, 2, 3, 5, 6, 7, 8, 10, 11, 13, 14] v264 v := KV.tr kV_v264 hM_v1 rfl
                  have hA_f265 : KF [2, 3, 6] f265 f := KF.tr kF_f265 hA_f1 rfl
                  have hP : va_P (dC, dI) vwCl (YW cy y0 r v264 f265 w266 g267) H := hP
                  have hD : va_D A (YW cy y0 r v264 f265 w266 g267) := hD
                  have b3_v264 : 0 ≤ (v264 3).toInt ∧ (v264 3).toInt ≤ 1600 := Yb_3 hIv264.1
                  have b1_v264 : 0 ≤ (v264 1).toInt ∧ (v264 1).toInt ≤ 4 := Yb_1 hIv264.1
                  have pv268 : (v1 3).toInt ≤ (v264 3).toInt := pv268
                  have pv269 : (v264 5).toInt = (v1 5).toInt ∨ (v1 3).toInt < (v264 3).toInt ∨ ¬ (v264 5).toInt = 59 := pv269
                  have pv270 : 0 < (v264 1).toInt := pv270
                  have hs2_f265 : f265 2 = (f 2) := kq271.trans hs2_f1
                  have hs3_f265 : f265 3 = (f 3) := kq272.trans hs3_f1
                  have hs6_f265 : f265 6 = (f1 6) := kq273
                  have hUv264 : (v264 35).toInt + (v264 36).toInt ≤ 40 := hIv264.2
                  have hq0_v264 : v264 0 = (v 0) := hk0_v264.trans hq0_v1
                  have hq3_v264 : v264 3 = (v1 3) := hk3_v264
                  have zq3_v264 := congrArg Int32.toInt hq3_v264
                  have hq4_v264 : v264 4 = (v 4) := hk4_v264.trans hq4_v1
                  have hq5_v264 : v264 5 = (v1 5) := hk5_v264
                  have zq5_v264 := congrArg Int32.toInt hq5_v264
                  have hq8_v264 : v264 8 = (v 8) := hk8_v264.trans hq8_v1
                  have zq8_v264 := congrArg Int32.toInt hq8_v264
                  have hq9_v264 : v264 9 = (v 9) := hk9_v264.trans hq9_v1
                  have hq10_v264 : v264 10 = (v1 10) := hk10_v264
                  have zq10_v264 := congrArg Int32.toInt hq10_v264
                  have hq13_v264 : v264 13 = (v1 13) := hk13_v264
                  have zq13_v264 := congrArg Int32.toInt hq13_v264
                  have hq14_v264 : v264 14 = (v1 14) := hk14_v264
                  have zq14_v264 := congrArg Int32.toInt hq14_v264
                  have hq15_v264 : v264 15 = (v 15) := hk15_v264.trans hq15_v1
                  have hq17_v264 : v264 17 = (v 17) := hk17_v264.trans hq17_v1
                  have hq18_v264 : v264 18 = (v 18) := hk18_v264.trans hq18_v1
                  have hq24_v264 : v264 24 = (v 24) := hk24_v264.trans hq24_v1
                  have hq25_v264 : v264 25 = (v 25) := hk25_v264.trans hq25_v1
                  have hq35_v264 : v264 35 = (v 35) := hk35_v264.trans hq35_v1
                  have hq36_v264 : v264 36 = (v 36) := hk36_v264.trans hq36_v1
                  have hq38_v264 : v264 38 = (v 38) := hk38_v264.trans hq38_v1
                  have hq39_v264 : v264 39 = (v 39) := hk39_v264.trans hq39_v1
                  have hGR : GR (v 3).toInt (v 5).toInt (v264 3).toInt (v264 5).toInt := GR.tr hGR (show GR (v1 3).toInt (v1 5).toInt (v264 3).toInt (v264 5).toInt from ⟨pv268, pv269⟩) (by first | with_reducible rfl | with_reducible assumption | rfl | omega) (by first | with_reducible rfl | with_reducible assumption | rfl | omega)
                  clear pv269
                  refine lv_aload_n hx hb dX11_unit_83 rfl (lv_at hl 1 rfl) ?_
                  refine cbVv (n := 0) (rest := []) hx hb hml hown hts hE hP hD hS hA (sY_X11_countUnit_1 NF l dC dI cy y0 r  v264 f265 w266 g267 hIv264 hCf265 hRf265 (by show (v264 13).toInt ≤ 30; omega)) k_1688 k_1690 k_61 k_114 k_1691 hd_yX11_countUnit ⟨Nat.le_of_ble_eq_true rfl, Nat.le_of_ble_eq_true rfl⟩ 0 11 rfl rfl (rfl) hl.1 rfl (Nat.le_of_ble_eq_true rfl) dX11_unit_84 (fun u H locs hw hP hD hS => ?_)
                  obtain ⟨hG274, hw⟩ := hw
                  obtain ⟨v275, f276, w277, g278⟩ := u
                  obtain ⟨kV_v275, kF_f276, hIv275, hCf276, hRf276, hk0_v275, hk1_v275, hk2_v275, hk3_v275, hk4_v275, hk5_v275, hk8_v275, hk9_v275, hk10_v275, hk14_v275, hk15_v275, hk17_v275, hk18_v275, hk24_v275, hk25_v275, hk35_v275, hk36_v275, hk38_v275, hk39_v275, pv279, kq280, kq281, kq282⟩ := hw
                  have hM_v275 : KV [1, 2, 3, 5, 6, 7, 8, 10, 11, 13, 14] v275 v := KV.tr kV_v275 hM_v264 rfl
                  have hA_f276 : KF [2, 3, 6] f276 f := KF.tr kF_f276 hA_f265 rfl
                  have hP : va_P (dC, dI) vwCl (YW cy y0 r v275 f276 w277 g278) H := hP
                  have hD : va_D A (YW cy y0 r v275 f276 w277 g278) := hD
                  have b13_v275 : 0 ≤ (v275 13).toInt ∧ (v275 13).toInt ≤ 31 := Yb_13 hIv275.1
                  have pv279 : (v275 13).toInt = (v264 13).toInt + 1 := pv279
                  have hs2_f276 : f276 2 = (f 2) := kq280.trans hs2_f265
                  have hs3_f276 : f276 3 = (f 3) := kq281.trans hs3_f265
                  have hs6_f276 : f276 6 = (f1 6) := kq282.trans hs6_f265
                  have hUv275 : (v275 35).toInt + (v275 36).toInt ≤ 40 := hIv275.2
                  have hq0_v275 : v275 0 = (v 0) := hk0_v275.trans hq0_v264
                  have hq1_v275 : v275 1 = (v264 1) := hk1_v275
                  have zq1_v275 := congrArg Int32.toInt hq1_v275
                  have hq3_v275 : v275 3 = (v1 3) := hk3_v275.trans hq3_v264
                  have zq3_v275 := congrArg Int32.toInt hq3_v275
                  have hq4_v275 : v275 4 = (v 4) := hk4_v275.trans hq4_v264
                  have hq5_v275 : v275 5 = (v1 5) := hk5_v275.trans hq5_v264
                  have zq5_v275 := congrArg Int32.toInt hq5_v275
                  have hq8_v275 : v275 8 = (v 8) := hk8_v275.trans hq8_v264
                  have zq8_v275 := congrArg Int32.toInt hq8_v275
                  have hq9_v275 : v275 9 = (v 9) := hk9_v275.trans hq9_v264
                  have hq10_v275 : v275 10 = (v1 10) := hk10_v275.trans hq10_v264
                  have zq10_v275 := congrArg Int32.toInt hq10_v275
                  have hq14_v275 : v275 14 = (v1 14) := hk14_v275.trans hq14_v264
                  have zq14_v275 := congrArg Int32.toInt hq14_v275
                  have hq15_v275 : v275 15 = (v 15) := hk15_v275.trans hq15_v264
                  have hq17_v275 : v275 17 = (v 17) := hk17_v275.trans hq17_v264
                  have hq18_v275 : v275 18 = (v 18) := hk18_v275.trans hq18_v264
                  have hq24_v275 : v275 24 = (v 24) := hk24_v275.trans hq24_v264
                  have hq25_v275 : v275 25 = (v 25) := hk25_v275.trans hq25_v264
                  have hq35_v275 : v275 35 = (v 35) := hk35_v275.trans hq35_v264
                  have hq36_v275 : v275 36 = (v 36) := hk36_v275.trans hq36_v264
                  have hq38_v275 : v275 38 = (v 38) := hk38_v275.trans hq38_v264
                  have hq39_v275 : v275 39 = (v 39) := hk39_v275.trans hq39_v264
                  refine lv_aload_n hx hb dX11_unit_87 rfl (lv_at hl 1 rfl) ?_
                  refine lv_bipush (v := 20) hx hb dX11_unit_88 rfl ?_
                  refine cbVv (n := 1) (rest := []) hx hb hml hown hts hE hP hD hS hA (sY_X11_openUp_1 NF l dC dI cy y0 r 20 v275 f276 w277 g278 hIv275 hCf276 hRf276 (by have q1 : (20 : Int32).toInt = 20 := (by decide); show (v275 10).toInt ≤ 159; omega) (by have q1 : (20 : Int32).toInt = 20 := (by decide); show (v275 14).toInt ≤ 7; omega)) k_1680 k_1682 k_59 k_114 k_1683 hd_yX11_openUp ⟨Nat.le_of_ble_eq_true rfl, Nat.le_of_ble_eq_true rfl⟩ 0 11 rfl rfl (rfl) hl.1 rfl (Nat.le_of_ble_eq_true rfl) dX11_unit_90 (fun u H locs hw hP hD hS => ?_)
                  obtain ⟨hG283, hw⟩ := hw
                  obtain ⟨v284, f285, w286, g287⟩ := u
                  obtain ⟨kV_v284, kF_f285, hIv284, hCf285, hRf285, hk0_v284, hk1_v284, hk2_v284, hk4_v284, hk8_v284, hk9_v284, hk13_v284, hk15_v284, hk17_v284, hk18_v284, hk24_v284, hk25_v284, hk35_v284, hk36_v284, hk38_v284, hk39_v284, pv288, pv289, pg290, pg291, kq292, kq293⟩ := hw
                  have hM_v284 : KV [1, 2, 3, 5, 6, 7, 8, 10, 11, 13, 14] v284 v := KV.tr kV_v284 hM_v275 rfl
                  have hA_f285 : KF [2, 3, 6] f285 f := KF.tr kF_f285 hA_f276 rfl
                  have hP : va_P (dC, dI) vwCl (YW cy y0 r v284 f285 w286 g287) H := hP
                  have hD : va_D A (YW cy y0 r v284 f285 w286 g287) := hD
                  have b10_v284 : 0 ≤ (v284 10).toInt ∧ (v284 10).toInt ≤ 160 := Yb_10 hIv284.1
                  have b14_v284 : 0 ≤ (v284 14).toInt ∧ (v284 14).toInt ≤ 8 := Yb_14 hIv284.1
                  have b3_v284 : 0 ≤ (v284 3).toInt ∧ (v284 3).toInt ≤ 1600 := Yb_3 hIv284.1
                  have pv288 : (v284 10).toInt = (v275 10).toInt + 1 := pv288
                  have pv289 : (v284 14).toInt = (v275 14).toInt + 1 := pv289
                  have pg290 : GR (v275 3).toInt (v275 5).toInt (v284 3).toInt (v284 5).toInt := pg290
                  have pg291 : (f285 6) = upd (f276 6) ((v275 10).toInt).toNat 20 := pg291
                  rw [hs6_f276] at pg291
                  have hs2_f285 : f285 2 = (f 2) := kq292.trans hs2_f276
                  have hs3_f285 : f285 3 = (f 3) := kq293.trans hs3_f276
                  have hUv284 : (v284 35).toInt + (v284 36).toInt ≤ 40 := hIv284.2
                  have hq0_v284 : v284 0 = (v 0) := hk0_v284.trans hq0_v275
                  have hq1_v284 : v284 1 = (v264 1) := hk1_v284.trans hq1_v275
                  have zq1_v284 := congrArg Int32.toInt hq1_v284
                  have hq4_v284 : v284 4 = (v 4) := hk4_v284.trans hq4_v275
                  have hq8_v284 : v284 8 = (v 8) := hk8_v284.trans hq8_v275
                  have zq8_v284 := congrArg Int32.toInt hq8_v284
                  have hq9_v284 : v284 9 = (v 9) := hk9_v284.trans hq9_v275
                  have hq13_v284 : v284 13 = (v275 13) := hk13_v284
                  have zq13_v284 := congrArg Int32.toInt hq13_v284
                  have hq15_v284 : v284 15 = (v 15) := hk15_v284.trans hq15_v275
                  have hq17_v284 : v284 17 = (v 17) := hk17_v284.trans hq17_v275
                  have hq18_v284 : v284 18 = (v 18) := hk18_v284.trans hq18_v275
                  have hq24_v284 : v284 24 = (v 24) := hk24_v284.trans hq24_v275
                  have hq25_v284 : v284 25 = (v 25) := hk25_v284.trans hq25_v275
                  have hq35_v284 : v284 35 = (v 35) := hk35_v284.trans hq35_v275
                  have hq36_v284 : v284 36 = (v 36) := hk36_v284.trans hq36_v275
                  have hq38_v284 : v284 38 = (v 38) := hk38_v284.trans hq38_v275
                  have hq39_v284 : v284 39 = (v 39) := hk39_v284.trans hq39_v275
                  have hGR : GR (v 3).toInt (v 5).toInt (v284 3).toInt (v284 5).toInt := GR.tr hGR (show GR (v275 3).toInt (v275 5).toInt (v284 3).toInt (v284 5).toInt from pg290) (by first | with_reducible rfl | with_reducible assumption | rfl | omega) (by first | with_reducible rfl | with_reducible assumption | rfl | omega)
                  have hFK : FI 0 (v284 10).toInt (v284 14).toInt (v284 8).toInt (f285 6) (f 2) (f 3) := FI.push (hFJ (by omega)) pg291 (by omega) (by decide) (by first | with_reducible rfl | with_reducible assumption | rfl | omega) (by first | with_reducible rfl | with_reducible assumption | rfl | omega) (by first | with_reducible rfl | with_reducible assumption | rfl | omega)
                  refine lv_goto (tgt := 2) hx hb dX11_unit_93 rfl ?_
                  have rg294 := fb_rng l1_1
                  exact ih1 l1_1 v284 f285 w286 g287 hIv284 hCf285 hRf285 hq0_v284 hq4_v284 hq8_v284 hq9_v284 hq15_v284 hq17_v284 hq18_v284 hq24_v284 hq25_v284 hq35_v284 hq36_v284 hq38_v284 hq39_v284 ((gsY_X11_unit_1_q20 c205 hG207 c241 hG263 hG274 hG283).symm.trans hT204) ⟨show (0 : Int) ≤ l1_1.toInt from om_367 hr1_1, show l1_1.toInt ≤ (1 : Int) from om_368 hr1_1⟩ (by show IM0 (v284 1).toInt (FI 0 (v284 10).toInt (v284 14).toInt (v284 8).toInt (f285 6) (f285 2) (f285 3)); rw [hs2_f285, hs3_f285]; intro hz9; exact FI.cast hFK (by first | with_reducible rfl | with_reducible assumption | rfl | omega) (by first | with_reducible rfl | with_reducible assumption | rfl | omega) (by first | with_reducible rfl | with_reducible assumption | rfl | omega)) (by show NU (v284 1).toInt (v284 8).toInt (v284 10).toInt (v284 13).toInt (v284 14).toInt; exact NU.ab (by omega)) (by show GR (v 3).toInt (v 5).toInt (v284 3).toInt (v284 5).toInt; exact GR.cast hGR (by first | with_reducible rfl | with_reducible assumption | rfl | omega) (by first | with_reducible rfl | with_reducible assumption | rfl | omega)) (show (v 13).toInt ≤ (v284 13).toInt from om_369 hx3_1 zq13_v264 pv279 zq13_v284) hM_v284 hA_f285 hs2_f285 hs3_f285 (show (2 * (9 - (v284 14).toInt) + l1_1.toInt).toNat < n1 from om_370 hr1_1 hm1 zq14_v275 b14_v284 pv289) _ _ _ hP hD hS (lv_sub hl [0, 1] rfl)
          revert jp53
          intro jp53
          refine lv_aload_n hx hb dX11_unit_13 rfl (lv_at hl 1 rfl) ?_
          refine lv_ldc2 (v := 7237492) hx hb hown (hts _ k_1640) dX11_unit_14 ?_
          refine cbVi (n := 1) (rest := []) hx hb hml hown hts hE hP hD hS hA (sY_X11_isWord_1 NF l dC dI cy y0 r 7237492 v1 f1 w1 g1 hIv1 hCf1 hRf1 ) k_1601 k_1603 k_45 k_114 k_1604 hd_yX11_isWord ⟨Nat.le_of_ble_eq_true rfl, Nat.le_of_ble_eq_true rfl⟩ 0 11 rfl rfl (rfl) hl.1 rfl (Nat.le_of_ble_eq_true rfl) dX11_unit_17 (fun r295 u H locs hw hP hD hS => ?_)
          obtain ⟨hG296, hw⟩ := hw
          rcases hw with ⟨g297, g297_0⟩ | ⟨g297⟩
          · skip
            subst g297
            refine lv_if_eq (tgt := 53) hx hb dX11_unit_20 rfl (fun c0 => absurd c0 (by decide)) (fun _ => ?_)
            refine lv_aload_n hx hb dX11_unit_23 rfl (lv_at hl 1 rfl) ?_
            refine cbVi (n := 0) (rest := []) hx hb hml hown hts hE hP hD hS hA (sY_X11_mayNot_1 NF l dC dI cy y0 r  v1 f1 w1 g1 hIv1 hCf1 hRf1 ) k_1673 k_1675 k_58 k_114 k_1676 hd_yX11_mayNot ⟨Nat.le_of_ble_eq_true rfl, Nat.le_of_ble_eq_true rfl⟩ 0 11 rfl rfl (rfl) hl.1 rfl (Nat.le_of_ble_eq_true rfl) dX11_unit_24 (fun r298 u H locs hw hP hD hS => ?_)
            obtain ⟨hG299, hw⟩ := hw
            rcases hw with ⟨g300⟩ | ⟨g300⟩
            · skip
              subst g300
              refine lv_if_eq (tgt := 53) hx hb dX11_unit_27 rfl (fun c0 => absurd c0 (by decide)) (fun _ => ?_)
              refine lv_aload_n hx hb dX11_unit_30 rfl (lv_at hl 1 rfl) ?_
              refine va_get (D := (dC, dI)) (ci := 11) (v := .int (v1 14)) (C := RX11) (T := TX11) (N := 79) hx hb hts inB_11 hown hE.1 hP 0 rfl rfl 23 (Nat.le_of_ble_eq_true rfl) (hts _ k_1343) (fun _ h9 => h9) rfl dX11_unit_31 ?_
              refine lv_bipush (v := 6) hx hb dX11_unit_34 rfl ?_
              refine lv_icmp_le (tgt := 44) hx hb dX11_unit_36 rfl (fun c301 => ?_) (fun c301 => ?_)
              · skip
                have zc301 : (v1 14).toInt ≤ 6 := zMp rfl tc_6 c301
                refine lv_aload_n hx hb dX11_unit_44 rfl (lv_at hl 1 rfl) ?_
                refine lv_bipush (v := 21) hx hb dX11_unit_45 rfl ?_
                refine cbVv (n := 1) (rest := []) hx hb hml hown hts hE hP hD hS hA (sY_X11_openUp_1 NF l dC dI cy y0 r 21 v1 f1 w1 g1 hIv1 hCf1 hRf1 (by have q1 : (21 : Int32).toInt = 21 := (by decide); show (v1 10).toInt ≤ 159; omega) (show (v1 14).toInt ≤ 7 from om_374 zc301)) k_1680 k_1682 k_59 k_114 k_1683 hd_yX11_openUp ⟨Nat.le_of_ble_eq_true rfl, Nat.le_of_ble_eq_true rfl⟩ 0 11 rfl rfl (rfl) hl.1 rfl (Nat.le_of_ble_eq_true rfl) dX11_unit_47 (fun u H locs hw hP hD hS => ?_)
                obtain ⟨hG302, hw⟩ := hw
                obtain ⟨v303, f304, w305, g306⟩ := u
                obtain ⟨kV_v303, kF_f304, hIv303, hCf304, hRf304, hk0_v303, hk1_v303, hk2_v303, hk4_v303, hk8_v303, hk9_v303, hk13_v303, hk15_v303, hk17_v303, hk18_v303, hk24_v303, hk25_v303, hk35_v303, hk36_v303, hk38_v303, hk39_v303, pv307, pv308, pg309, pg310, kq311, kq312⟩ := hw
                have hM_v303 : KV [1, 2, 3, 5, 6, 7, 8, 10, 11, 13, 14] v303 v := KV.tr kV_v303 hM_v1 rfl
                have hA_f304 : KF [2, 3, 6] f304 f := KF.tr kF_f304 hA_f1 rfl
                have hP : va_P (dC, dI) vwCl (YW cy y0 r v303 f304 w305 g306) H := hP
                have hD : va_D A (YW cy y0 r v303 f304 w305 g306) := hD
                have b10_v303 : 0 ≤ (v303 10).toInt ∧ (v303 10).toInt ≤ 160 := Yb_10 hIv303.1
                have b14_v303 : 0 ≤ (v303 14).toInt ∧ (v303 14).toInt ≤ 8 := Yb_14 hIv303.1
                have b3_v303 : 0 ≤ (v303 3).toInt ∧ (v303 3).toInt ≤ 1600 := Yb_3 hIv303.1
                have pv307 : (v303 10).toInt = (v1 10).toInt + 1 := pv307
                have pv308 : (v303 14).toInt = (v1 14).toInt + 1 := pv308
                have pg309 : GR (v1 3).toInt (v1 5).toInt (v303 3).toInt (v303 5).toInt := pg309
                have pg310 : (f304 6) = upd (f1 6) ((v1 10).toInt).toNat 21 := pg310
                have hs2_f304 : f304 2 = (f 2) := kq311.trans hs2_f1
                have hs3_f304 : f304 3 = (f 3) := kq312.trans hs3_f1
                have hUv303 : (v303 35).toInt + (v303 36).toInt ≤ 40 := hIv303.2
                have hq0_v303 : v303 0 = (v 0) := hk0_v303.trans hq0_v1
                have hq1_v303 : v303 1 = (v1 1) := hk1_v303
                have zq1_v303 := congrArg Int32.toInt hq1_v303
                have hq4_v303 : v303 4 = (v 4) := hk4_v303.trans hq4_v1
                have hq8_v303 : v303 8 = (v 8) := hk8_v303.trans hq8_v1
                have zq8_v303 := congrArg Int32.toInt hq8_v303
                have hq9_v303 : v303 9 = (v 9) := hk9_v303.trans hq9_v1
                have hq13_v303 : v303 13 = (v1 13) := hk13_v303
                have zq13_v303 := congrArg Int32.toInt hq13_v303
                have hq15_v303 : v303 15 = (v 15) := hk15_v303.trans hq15_v1
                have hq17_v303 : v303 17 = (v 17) := hk17_v303.trans hq17_v1
                have hq18_v303 : v303 18 = (v 18) := hk18_v303.trans hq18_v1
                have hq24_v303 : v303 24 = (v 24) := hk24_v303.trans hq24_v1
                have hq25_v303 : v303 25 = (v 25) := hk25_v303.trans hq25_v1
                have hq35_v303 : v303 35 = (v 35) := hk35_v303.trans hq35_v1
                have hq36_v303 : v303 36 = (v 36) := hk36_v303.trans hq36_v1
                have hq38_v303 : v303 38 = (v 38) := hk38_v303.trans hq38_v1
                have hq39_v303 : v303 39 = (v 39) := hk39_v303.trans hq39_v1
                have hGR : GR (v 3).toInt (v 5).toInt (v303 3).toInt (v303 5).toInt := GR.tr hGR (show GR (v1 3).toInt (v1 5).toInt (v303 3).toInt (v303 5).toInt from pg309) (by first | with_reducible rfl | with_reducible assumption | rfl | omega) (by first | with_reducible rfl | with_reducible assumption | rfl | omega)
                have hFK : FI 0 (v303 10).toInt (v303 14).toInt (v303 8).toInt (f304 6) (f 2) (f 3) := FI.push (hFJ (by omega)) pg310 (by omega) (by decide) (by first | with_reducible rfl | with_reducible assumption | rfl | omega) (by first | with_reducible rfl | with_reducible assumption | rfl | omega) (by first | with_reducible rfl | with_reducible assumption | rfl | omega)
                refine lv_goto (tgt := 2) hx hb dX11_unit_50 rfl ?_
                have rg313 := fb_rng l1_1
                exact ih1 l1_1 v303 f304 w305 g306 hIv303 hCf304 hRf304 hq0_v303 hq4_v303 hq8_v303 hq9_v303 hq15_v303 hq17_v303 hq18_v303 hq24_v303 hq25_v303 hq35_v303 hq36_v303 hq38_v303 hq39_v303 ((gsY_X11_unit_1_q21 c202 c203 hG296 hG299 c301 hG302).symm.trans hT1) ⟨show (0 : Int) ≤ l1_1.toInt from om_367 hr1_1, show l1_1.toInt ≤ (1 : Int) from om_368 hr1_1⟩ (by show IM0 (v303 1).toInt (FI 0 (v303 10).toInt (v303 14).toInt (v303 8).toInt (f304 6) (f304 2) (f304 3)); rw [hs2_f304, hs3_f304]; intro hz9; exact FI.cast hFK (by first | with_reducible rfl | with_reducible assumption | rfl | omega) (by first | with_reducible rfl | with_reducible assumption | rfl | omega) (by first | with_reducible rfl | with_reducible assumption | rfl | omega)) (by show NU (v303 1).toInt (v303 8).toInt (v303 10).toInt (v303 13).toInt (v303 14).toInt; exact NU.mk (by omega) (by omega) (by omega) (by omega)) (by show GR (v 3).toInt (v 5).toInt (v303 3).toInt (v303 5).toInt; exact GR.cast hGR (by first | with_reducible rfl | with_reducible assumption | rfl | omega) (by first | with_reducible rfl | with_reducible assumption | rfl | omega)) (show (v 13).toInt ≤ (v303 13).toInt from om_306 hx3_1 zq13_v303) hM_v303 hA_f304 hs2_f304 hs3_f304 (show (2 * (9 - (v303 14).toInt) + l1_1.toInt).toNat < n1 from om_375 hr1_1 hm1 b14_v303 pv308) _ _ _ hP hD hS (lv_sub hl [0, 1] rfl)
              · skip
                have zc301 : ¬ ((v1 14).toInt ≤ 6) := zMn rfl tc_6 c301
                refine lv_aload_n hx hb dX11_unit_39 rfl (lv_at hl 1 rfl) ?_
                refine lv_iconst (v := 2) hx hb dX11_unit_40 rfl ?_
                refine cbVv (n := 1) (rest := []) hx hb hml hown hts hE hP hD hS hA (sY_X11_wrong_1 NF l dC dI cy y0 r 2 v1 f1 w1 g1 hIv1 hCf1 hRf1 ⟨by decide, by decide⟩) k_1641 k_1643 k_50 k_114 k_1644 hd_yX11_wrong ⟨Nat.le_of_ble_eq_true rfl, Nat.le_of_ble_eq_true rfl⟩ 0 11 rfl rfl (rfl) hl.1 rfl (Nat.le_of_ble_eq_true rfl) dX11_unit_41 (fun u H locs hw hP hD hS => ?_)
                obtain ⟨hG314, hw⟩ := hw
                obtain ⟨v315, f316, w317, g318⟩ := u
                obtain ⟨kV_v315, kF_f316, hIv315, hCf316, hRf316, hk0_v315, hk3_v315, hk4_v315, hk5_v315, hk8_v315, hk9_v315, hk10_v315, hk13_v315, hk14_v315, hk15_v315, hk17_v315, hk18_v315, hk24_v315, hk25_v315, hk35_v315, hk36_v315, hk38_v315, hk39_v315, pv319, pv320, pv321, kq322, kq323, kq324⟩ := hw
                have hM_v315 : KV [1, 2, 3, 5, 6, 7, 8, 10, 11, 13, 14] v315 v := KV.tr kV_v315 hM_v1 rfl
                have hA_f316 : KF [2, 3, 6] f316 f := KF.tr kF_f316 hA_f1 rfl
                have hP : va_P (dC, dI) vwCl (YW cy y0 r v315 f316 w317 g318) H := hP
                have hD : va_D A (YW cy y0 r v315 f316 w317 g318) := hD
                have b3_v315 : 0 ≤ (v315 3).toInt ∧ (v315 3).toInt ≤ 1600 := Yb_3 hIv315.1
                have b1_v315 : 0 ≤ (v315 1).toInt ∧ (v315 1).toInt ≤ 4 := Yb_1 hIv315.1
                have pv319 : (v1 3).toInt ≤ (v315 3).toInt := pv319
                have pv320 : (v315 5).toInt = (v1 5).toInt ∨ (v1 3).toInt < (v315 3).toInt ∨ ¬ (v315 5).toInt = 59 := pv320
                have pv321 : 0 < (v315 1).toInt := pv321
                have hs2_f316 : f316 2 = (f 2) := kq322.trans hs2_f1
                have hs3_f316 : f316 3 = (f 3) := kq323.trans hs3_f1
                have hs6_f316 : f316 6 = (f1 6) := kq324
                have hUv315 : (v315 35).toInt + (v315 36).toInt ≤ 40 := hIv315.2
                have hq0_v315 : v315 0 = (v 0) := hk0_v315.trans hq0_v1
                have hq3_v315 : v315 3 = (v1 3) := hk3_v315
                have zq3_v315 := congrArg Int32.toInt hq3_v315
                have hq4_v315 : v315 4 = (v 4) := hk4_v315.trans hq4_v1
                have hq5_v315 : v315 5 = (v1 5) := hk5_v315
                have zq5_v315 := congrArg Int32.toInt hq5_v315
                have hq8_v315 : v315 8 = (v 8) := hk8_v315.trans hq8_v1
                have zq8_v315 := congrArg Int32.toInt hq8_v315
                have hq9_v315 : v315 9 = (v 9) := hk9_v315.trans hq9_v1
                have hq10_v315 : v315 10 = (v1 10) := hk10_v315
                have zq10_v315 := congrArg Int32.toInt hq10_v315
                have hq13_v315 : v315 13 = (v1 13) := hk13_v315
                have zq13_v315 := congrArg Int32.toInt hq13_v315
                have hq14_v315 : v315 14 = (v1 14) := hk14_v315
                have zq14_v315 := congrArg Int32.toInt hq14_v315
                have hq15_v315 : v315 15 = (v 15) := hk15_v315.trans hq15_v1
                have hq17_v315 : v315 17 = (v 17) := hk17_v315.trans hq17_v1
                have hq18_v315 : v315 18 = (v 18) := hk18_v315.trans hq18_v1
                have hq24_v315 : v315 24 = (v 24) := hk24_v315.trans hq24_v1
                have hq25_v315 : v315 25 = (v 25) := hk25_v315.trans hq25_v1
                have hq35_v315 : v315 35 = (v 35) := hk35_v315.trans hq35_v1
                have hq36_v315 : v315 36 = (v 36) := hk36_v315.trans hq36_v1
                have hq38_v315 : v315 38 = (v 38) := hk38_v315.trans hq38_v1
                have hq39_v315 : v315 39 = (v 39) := hk39_v315.trans hq39_v1
                have hGR : GR (v 3).toInt (v 5).toInt (v315 3).toInt (v315 5).toInt := GR.tr hGR (show GR (v1 3).toInt (v1 5).toInt (v315 3).toInt (v315 5).toInt from ⟨pv319, pv320⟩) (by first | with_reducible rfl | with_reducible assumption | rfl | omega) (by first | with_reducible rfl | with_reducible assumption | rfl | omega)
                clear pv320
                refine lv_aload_n hx hb dX11_unit_44 rfl (lv_at hl 1 rfl) ?_
                refine lv_bipush (v := 21) hx hb dX11_unit_45 rfl ?_
                refine cbVv (n := 1) (rest := []) hx hb hml hown hts hE hP hD hS hA (sY_X11_openUp_1 NF l dC dI cy y0 r 21 v315 f316 w317 g318 hIv315 hCf316 hRf316 (by have q1 : (21 : Int32).toInt = 21 := (by decide); show (v315 10).toInt ≤ 159; omega) (by have q1 : (21 : Int32).toInt = 21 := (by decide); show (v315 14).toInt ≤ 7; omega)) k_1680 k_1682 k_59 k_114 k_1683 hd_yX11_openUp ⟨Nat.le_of_ble_eq_true rfl, Nat.le_of_ble_eq_true rfl⟩ 0 11 rfl rfl (rfl) hl.1 rfl (Nat.le_of_ble_eq_true rfl) dX11_unit_47 (fun u H locs hw hP hD hS => ?_)
                obtain ⟨hG325, hw⟩ := hw
                obtain ⟨v326, f327, w328, g329⟩ := u
                obtain ⟨kV_v326, kF_f327, hIv326, hCf327, hRf327, hk0_v326, hk1_v326, hk2_v326, hk4_v326, hk8_v326, hk9_v326, hk13_v326, hk15_v326, hk17_v326, hk18_v326, hk24_v326, hk25_v326, hk35_v326, hk36_v326, hk38_v326, hk39_v326, pv330, pv331, pg332, pg333, kq334, kq335⟩ := hw
                have hM_v326 : KV [1, 2, 3, 5, 6, 7, 8, 10, 11, 13, 14] v326 v := KV.tr kV_v326 hM_v315 rfl
                have hA_f327 : KF [2, 3, 6] f327 f := KF.tr kF_f327 hA_f316 rfl
                have hP : va_P (dC, dI) vwCl (YW cy y0 r v326 f327 w328 g329) H := hP
                have hD : va_D A (YW cy y0 r v326 f327 w328 g329) := hD
                have b10_v326 : 0 ≤ (v326 10).toInt ∧ (v326 10).toInt ≤ 160 := Yb_10 hIv326.1
                have b14_v326 : 0 ≤ (v326 14).toInt ∧ (v326 14).toInt ≤ 8 := Yb_14 hIv326.1
                have b3_v326 : 0 ≤ (v326 3).toInt ∧ (v326 3).toInt ≤ 1600 := Yb_3 hIv326.1
                have pv330 : (v326 10).toInt = (v315 10).toInt + 1 := pv330
                have pv331 : (v326 14).toInt = (v315 14).toInt + 1 := pv331
                have pg332 : GR (v315 3).toInt (v315 5).toInt (v326 3).toInt (v326 5).toInt := pg332
                have pg333 : (f327 6) = upd (f316 6) ((v315 10).toInt).toNat 21 := pg333
                rw [hs6_f316] at pg333
                have hs2_f327 : f327 2 = (f 2) := kq334.trans hs2_f316
                have hs3_f327 : f327 3 = (f 3) := kq335.trans hs3_f316
                have hUv326 : (v326 35).toInt + (v326 36).toInt ≤ 40 := hIv326.2
                have hq0_v326 : v326 0 = (v 0) := hk0_v326.trans hq0_v315
                have hq1_v326 : v326 1 = (v315 1) := hk1_v326
                have zq1_v326 := congrArg Int32.toInt hq1_v326
                have hq4_v326 : v326 4 = (v 4) := hk4_v326.trans hq4_v315
                have hq8_v326 : v326 8 = (v 8) := hk8_v326.trans hq8_v315
                have zq8_v326 := congrArg Int32.toInt hq8_v326
                have hq9_v326 : v326 9 = (v 9) := hk9_v326.trans hq9_v315
                have hq13_v326 : v326 13 = (v1 13) := hk13_v326.trans hq13_v315
                have zq13_v326 := congrArg Int32.toInt hq13_v326
                have hq15_v326 : v326 15 = (v 15) := hk15_v326.trans hq15_v315
                have hq17_v326 : v326 17 = (v 17) := hk17_v326.trans hq17_v315
                have hq18_v326 : v326 18 = (v 18) := hk18_v326.trans hq18_v315
                have hq24_v326 : v326 24 = (v 24) := hk24_v326.trans hq24_v315
                have hq25_v326 : v326 25 = (v 25) := hk25_v326.trans hq25_v315
                have hq35_v326 : v326 35 = (v 35) := hk35_v326.trans hq35_v315
                have hq36_v326 : v326 36 = (v 36) := hk36_v326.trans hq36_v315
                have hq38_v326 : v326 38 = (v 38) := hk38_v326.trans hq38_v315
                have hq39_v326 : v326 39 = (v 39) := hk39_v326.trans hq39_v315
                have hGR : GR (v 3).toInt (v 5).toInt (v326 3).toInt (v326 5).toInt := GR.tr hGR (show GR (v315 3).toInt (v315 5).toInt (v326 3).toInt (v326 5).toInt from pg332) (by first | with_reducible rfl | with_reducible assumption | rfl | omega) (by first | with_reducible rfl | with_reducible assumption | rfl | omega)
                have hFK : FI 0 (v326 10).toInt (v326 14).toInt (v326 8).toInt (f327 6) (f 2) (f 3) := FI.push (hFJ (by omega)) pg333 (by omega) (by decide) (by first | with_reducible rfl | with_reducible assumption | rfl | omega) (by first | with_reducible rfl | with_reducible assumption | rfl | omega) (by first | with_reducible rfl | with_reducible assumption | rfl | omega)
                refine lv_goto (tgt := 2) hx hb dX11_unit_50 rfl ?_
                have rg336 := fb_rng l1_1
                exact ih1 l1_1 v326 f327 w328 g329 hIv326 hCf327 hRf327 hq0_v326 hq4_v326 hq8_v326 hq9_v326 hq15_v326 hq17_v326 hq18_v326 hq24_v326 hq25_v326 hq35_v326 hq36_v326 hq38_v326 hq39_v326 ((gsY_X11_unit_1_q22 c202 c203 hG296 hG299 c301 hG314 hG325).symm.trans hT1) ⟨show (0 : Int) ≤ l1_1.toInt from om_367 hr1_1, show l1_1.toInt ≤ (1 : Int) from om_368 hr1_1⟩ (by show IM0 (v326 1).toInt (FI 0 (v326 10).toInt (v326 14).toInt (v326 8).toInt (f327 6) (f327 2) (f327 3)); rw [hs2_f327, hs3_f327]; intro hz9; exact FI.cast hFK (by first | with_reducible rfl | with_reducible assumption | rfl | omega) (by first | with_reducible rfl | with_reducible assumption | rfl | omega) (by first | with_reducible rfl | with_reducible assumption | rfl | omega)) (by show NU (v326 1).toInt (v326 8).toInt (v326 10).toInt (v326 13).toInt (v326 14).toInt; exact NU.ab (by omega)) (by show GR (v 3).toInt (v 5).toInt (v326 3).toInt (v326 5).toInt; exact GR.cast hGR (by first | with_reducible rfl | with_reducible assumption | rfl | omega) (by first | with_reducible rfl | with_reducible assumption | rfl | omega)) (show (v 13).toInt ≤ (v326 13).toInt from om_306 hx3_1 zq13_v326) hM_v326 hA_f327 hs2_f327 hs3_f327 (show (2 * (9 - (v326 14).toInt) + l1_1.toInt).toNat < n1 from om_370 hr1_1 hm1 zq14_v315 b14_v326 pv331) _ _ _ hP hD hS (lv_sub hl [0, 1] rfl)
            · skip
              subst g300
              refine lv_if_eq (tgt := 53) hx hb dX11_unit_27 rfl (fun _ => ?_) (fun c0 => absurd (by decide) c0)
              exact jp53 _ _ _ ((gsY_X11_unit_1_q23 c202 c203 hG296 hG299).symm.trans hT1) hP hD hS hl
          · skip
            subst g297
            refine lv_if_eq (tgt := 53) hx hb dX11_unit_20 rfl (fun _ => ?_) (fun c0 => absurd (by decide) c0)
            exact jp53 _ _ _ ((gsY_X11_unit_1_q24 c202 c203 hG296).symm.trans hT1) hP hD hS hl
  exact lp1 (4294967296 + NF) 1 v f w g hIv hCf hRf rfl rfl rfl rfl rfl rfl rfl rfl rfl rfl rfl rfl rfl gsY_X11_unit_1_q25.symm ⟨by decide, by decide⟩ (by show IM0 (v 1).toInt (FI 0 (v 10).toInt (v 14).toInt (v 8).toInt (f 6) (f 2) (f 3)); exact fun _ => hFI) (by show NU (v 1).toInt (v 8).toInt (v 10).toInt (v 13).toInt (v 14).toInt; exact NU.mk (by omega) (by omega) (by omega) (by omega)) (by show GR (v 3).toInt (v 5).toInt (v 3).toInt (v 5).toInt; exact GR.cast hGR (by first | with_reducible rfl | with_reducible assumption | rfl | omega) (by first | with_reducible rfl | with_reducible assumption | rfl | omega)) (show (v 13).toInt ≤ (v 13).toInt from om_329) hM_v hA_f rfl rfl (show (2 * (9 - (v 14).toInt) + (1 : Int32).toInt).toNat < 4294967296 + NF from om_376 b14_v tc_1) _ _ _ hP hD hS (lv_sub hl [0, 1] rfl)
set_option maxHeartbeats 4000000 in
set_option maxRecDepth 100000 in
theorem sY_X11_close_1 (NF : Nat) (l : Launch) (dC : Nat → ClassId) (dI : Nat → Nat → Nat) (cy : Nat → ClassId) (y0 : Nat) (r : Nat → Nat) (p1 : Int32) (v : Nat → Int32) (f : Nat → Nat → Int32) (w : Int64) (g : Nat → Int64) (hIv : YI v) (hCf : YC f) (hRf : progOK (f 4) (f 5) (v 9).toInt.toNat) (hp1 : (0 : Int) ≤ p1.toInt ∧ p1.toInt ≤ 6) (hf0 : (v 8).toInt + (v 10).toInt ≤ 310) (hg0 : FI 1 (v 10).toInt (v 14).toInt (v 8).toInt (f 6) (f 2) (f 3)) : ctV l (dC, dI) cy yX11_close cX11_close 2 2 82 0 0 ((Nat → Int32) × (Nat → Nat → Int32) × (Int64) × (Nat → Int64)) [.ref y0, .int p1] (YW cy y0 r v f w g) (fun u => gsY_X11_close_1 NF p1 v f w g = u ∧ KV [8, 10, 14] u.1 v ∧ KF [2, 3] u.2.1 f ∧ YI u.1 ∧ YC u.2.1 ∧ progOK (u.2.1 4) (u.2.1 5) (u.1 9).toInt.toNat ∧ u.1 0 = v 0 ∧ u.1 1 = v 1 ∧ u.1 2 = v 2 ∧ u.1 3 = v 3 ∧ u.1 4 = v 4 ∧ u.1 5 = v 5 ∧ u.1 9 = v 9 ∧ u.1 13 = v 13 ∧ u.1 15 = v 15 ∧ u.1 17 = v 17 ∧ u.1 18 = v 18 ∧ u.1 24 = v 24 ∧ u.1 25 = v 25 ∧ u.1 35 = v 35 ∧ u.1 36 = v 36 ∧ u.1 38 = v 38 ∧ u.1 39 = v 39 ∧ ((u.1 8).toInt + (u.1 10).toInt = (v 8).toInt + (v 10).toInt) ∧ ((u.1 10).toInt - (u.1 14).toInt ≤ (v 10).toInt - (v 14).toInt) ∧ ((u.1 10).toInt ≤ (v 10).toInt) ∧ ((u.1 14).toInt ≤ (v 14).toInt) ∧ (FI 1 (u.1 10).toInt (u.1 14).toInt (u.1 8).toInt (u.2.1 6) (u.2.1 2) (u.2.1 3)) ∧ (∀ k, k < ((v 10).toInt).toNat → (f 6) k = 20 → k < ((u.1 10).toInt).toNat) ∧ (0 < p1.toInt ∨ (u.1 10).toInt = 0 ∨ (u.2.1 6) ((u.1 10).toInt - 1).toNat = 20) ∧ u.2.1 6 = f 6) (fun u => YW cy y0 r u.1 u.2.1 u.2.2.1 u.2.2.2) := by
  refine ctV_of (by decide) (Nat.le_of_ble_eq_true rfl) (fun p e s m below meth c A ls Q hx hb hml hts hown hnm hE hP hD hA hl ret => ?_)
  have hUv : (v 35).toInt + (v 36).toInt ≤ 40 := hIv.2
  have hM_v : KV [8, 10, 14] v v := fun _ _ => rfl
  have hA_f : KF [2, 3] f f := fun _ _ => rfl
  have hFI := hg0
  have b1_v : (0 : Int) ≤ (v 1).toInt ∧ (v 1).toInt ≤ 4 := Yb_1 hIv.1
  have b3_v : (0 : Int) ≤ (v 3).toInt ∧ (v 3).toInt ≤ 1600 := Yb_3 hIv.1
  have b8_v : (0 : Int) ≤ (v 8).toInt ∧ (v 8).toInt ≤ 320 := Yb_8 hIv.1
  have b10_v : (0 : Int) ≤ (v 10).toInt ∧ (v 10).toInt ≤ 160 := Yb_10 hIv.1
  have b13_v : (0 : Int) ≤ (v 13).toInt ∧ (v 13).toInt ≤ 31 := Yb_13 hIv.1
  have b14_v : (0 : Int) ≤ (v 14).toInt ∧ (v 14).toInt ≤ 8 := Yb_14 hIv.1
  have hown : s.vm.findClass RX11 = some m.cls := hown
  have hS : va_S A s.heap s.heap [] := va_S.rf
  have hl : lv_has ls 2 [(0, .ref y0), (1, .int p1)] := hl
  have lp1 : ∀ (n1 : Nat)  (v1 : Nat → Int32) (f1 : Nat → Nat → Int32) (w1 : Int64) (g1 : Nat → Int64), YI v1 → YC f1 → progOK (f1 4) (f1 5) (v1 9).toInt.toNat → v1 0 = (v 0) → v1 1 = (v 1) → v1 2 = (v 2) → v1 3 = (v 3) → v1 4 = (v 4) → v1 5 = (v 5) → v1 9 = (v 9) → v1 13 = (v 13) → v1 15 = (v 15) → v1 17 = (v 17) → v1 18 = (v 18) → v1 24 = (v 24) → v1 25 = (v 25) → v1 35 = (v 35) → v1 36 = (v 36) → v1 38 = (v 38) → v1 39 = (v 39) → gsY_X11_close_1_L1 NF p1 n1 v1 f1 w1 g1 = (gsY_X11_close_1 NF p1 v f w g) → (FI 1 (v1 10).toInt (v1 14).toInt (v1 8).toInt (f1 6) (f1 2) (f1 3)) → (∀ k, k < ((v 10).toInt).toNat → (f1 6) k = 20 → k < ((v1 10).toInt).toNat) → ((v1 8).toInt + (v1 10).toInt = (v 8).toInt + (v 10).toInt) → ((v1 10).toInt - (v1 14).toInt ≤ (v 10).toInt - (v 14).toInt) → ((v1 10).toInt ≤ (v 10).toInt) → ((v1 14).toInt ≤ (v 14).toInt) → KV [8, 10, 14] v1 v → KF [2, 3] f1 f → f1 6 = (f 6) → ((v1 10).toInt).toNat < n1 → ∀ (H : Heap) (locs : List Loc) (ls : Array Slot), va_P (dC, dI) vwCl (YW cy y0 r v1 f1 w1 g1) H → va_D A (YW cy y0 r v1 f1 w1 g1) → va_S A s.heap H locs → lv_has ls 2 [(0, .ref y0), (1, .int p1)] → W p l e { frames := 2, cells := 0, slots := 0, locals := 82 } s m ([.ref y0, .int p1] : List Value).toArray below meth c H locs 0 0 Q (F0 m 0 ls []) := by
    intro n1
    induction n1 with
    | zero => intro  v1 f1 w1 g1 hIv1 hCf1 hRf1 hq0_v1 hq1_v1 hq2_v1 hq3_v1 hq4_v1 hq5_v1 hq9_v1 hq13_v1 hq15_v1 hq17_v1 hq18_v1 hq24_v1 hq25_v1 hq35_v1 hq36_v1 hq38_v1 hq39_v1 hT1 hx0_1 hx1_1 hx2_1 hx3_1 hx4_1 hx5_1 hM_v1 hA_f1 hs6_f1 hm; exact absurd hm (Nat.not_lt_zero _)
    | succ n1 ih1 =>
      intro  v1 f1 w1 g1 hIv1 hCf1 hRf1 hq0_v1 hq1_v1 hq2_v1 hq3_v1 hq4_v1 hq5_v1 hq9_v1 hq13_v1 hq15_v1 hq17_v1 hq18_v1 hq24_v1 hq25_v1 hq35_v1 hq36_v1 hq38_v1 hq39_v1 hT1 hx0_1 hx1_1 hx2_1 hx3_1 hx4_1 hx5_1 hM_v1 hA_f1 hs6_f1 hm1 H locs ls hP hD hS hl
      have hUv1 : (v1 35).toInt + (v1 36).toInt ≤ 40 := hIv1.2
      have zq1_v1 := congrArg Int32.toInt hq1_v1
      have zq3_v1 := congrArg Int32.toInt hq3_v1
      have zq13_v1 := congrArg Int32.toInt hq13_v1
      have b10_v1 : 0 ≤ (v1 10).toInt ∧ (v1 10).toInt ≤ 160 := Yb_10 hIv1.1
      have b14_v1 : 0 ≤ (v1 14).toInt ∧ (v1 14).toInt ≤ 8 := Yb_14 hIv1.1
      have b8_v1 : 0 ≤ (v1 8).toInt ∧ (v1 8).toInt ≤ 320 := Yb_8 hIv1.1
      rw [hs6_f1] at hx0_1
      rw [hs6_f1] at hx1_1
      have hFI := hx0_1
      have hGK := hx1_1
      refine lv_aload_n hx hb dX11_close_0 rfl (lv_at hl 0 rfl) ?_
      refine va_get (D := (dC, dI)) (ci := 11) (v := .int (v1 10)) (C := RX11) (T := TX11) (N := 79) hx hb hts inB_11 hown hE.1 hP 0 rfl rfl 19 (Nat.le_of_ble_eq_true rfl) (hts _ k_1339) (fun _ h9 => h9) rfl dX11_close_1 ?_
      refine lv_if_le (tgt := 101) hx hb dX11_close_4 rfl (fun c2 => ?_) (fun c2 => ?_)
      · skip
        have zc2 : (v1 10).toInt ≤ 0 := zMp rfl tc_0 c2
        exact ret (v1, f1, w1, g1) _ _ _ _ _ _ ⟨(hT1.symm.trans (gsY_X11_close_1_q0 c2)), hM_v1, hA_f1, hIv1, hCf1, hRf1, (show v1 0 = v 0 from hq0_v1), (show v1 1 = v 1 from hq1_v1), (show v1 2 = v 2 from hq2_v1), (show v1 3 = v 3 from hq3_v1), (show v1 4 = v 4 from hq4_v1), (show v1 5 = v 5 from hq5_v1), (show v1 9 = v 9 from hq9_v1), (show v1 13 = v 13 from hq13_v1), (show v1 15 = v 15 from hq15_v1), (show v1 17 = v 17 from hq17_v1), (show v1 18 = v 18 from hq18_v1), (show v1 24 = v 24 from hq24_v1), (show v1 25 = v 25 from hq25_v1), (show v1 35 = v 35 from hq35_v1), (show v1 36 = v 36 from hq36_v1), (show v1 38 = v 38 from hq38_v1), (show v1 39 = v 39 from hq39_v1), (show (v1 8).toInt + (v1 10).toInt = (v 8).toInt + (v 10).toInt from om_377 hx2_1), (show (v1 10).toInt - (v1 14).toInt ≤ (v 10).toInt - (v 14).toInt from om_378 hx3_1), (show (v1 10).toInt ≤ (v 10).toInt from om_379 b10_v zc2), (show (v1 14).toInt ≤ (v 14).toInt from om_318 hx5_1), (by show FI 1 (v1 10).toInt (v1 14).toInt (v1 8).toInt (f1 6) (f1 2) (f1 3); rw [hs6_f1]; exact hFI), (by show ∀ k, k < ((v 10).toInt).toNat → (f 6) k = 20 → k < ((v1 10).toInt).toNat; exact hGK), (by show 0 < p1.toInt ∨ (v1 10).toInt = 0 ∨ (f1 6) ((v1 10).toInt - 1).toNat = 20; rw [hs6_f1]; first | exact Or.inl (by omega) | exact Or.inr (Or.inl (by omega)) | exact Or.inr (Or.inr (topEq hO (by omega) (by omega)))), hs6_f1⟩ hP hD hS dX11_close_101 (Nat.le_refl _) (Nat.le_refl _)
      · skip
        have zc2 : ¬ ((v1 10).toInt ≤ 0) := zMn rfl tc_0 c2
        refine lv_aload_n hx hb dX11_close_7 rfl (lv_at hl 0 rfl) ?_
        refine va_get (D := (dC, dI)) (ci := 11) (v := .ref (r 15)) (C := RX11) (T := TX11) (N := 79) hx hb hts inB_11 hown hE.1 hP 0 rfl rfl 15 (Nat.le_of_ble_eq_true rfl) (hts _ k_1335) (fun _ h9 => h9) rfl dX11_close_8 ?_
        refine lv_aload_n hx hb dX11_close_11 rfl (lv_at hl 0 rfl) ?_
        refine va_get (D := (dC, dI)) (ci := 11) (v := .int (v1 10)) (C := RX11) (T := TX11) (N := 79) hx hb hts inB_11 hown hE.1 hP 0 rfl rfl 19 (Nat.le_of_ble_eq_true rfl) (hts _ k_1339) (fun _ h9 => h9) rfl dX11_close_12 ?_
        refine lv_iconst (v := 1) hx hb dX11_close_15 rfl ?_
        refine lv_isub hx hb dX11_close_16 ?_
        refine lv_topi (fun t3 et3 => ?_)
        have rg4 := fb_rng (v1 10)
        have zt3 : t3.toInt = (v1 10).toInt - 1 := (congrArg Int32.toInt et3).trans (sub_i rfl tc_1 (om_380 zc2) (om_362 b10_v1))
        refine ldI hx hb hE hP 7 rfl (vpI (k := 160) rfl (show 0 ≤ t3.toInt from om_381 zc2 zt3) (show t3.toInt < 160 from om_364 b10_v1 zt3)) rfl rfl dX11_close_17 ?_
        refine lv_topi (fun t5 et5 => ?_)
        have hO : (f 6) t3.toInt.toNat = t5 := by rw [et5, hs6_f1]; rfl
        refine lv_bipush (v := 20) hx hb dX11_close_18 rfl ?_
        refine lv_icmp_eq (tgt := 101) hx hb dX11_close_20 rfl (fun c6 => ?_) (fun c6 => ?_)
        · skip
          have zc6 : t5.toInt = 20 := zEp rfl tc_20 c6
          exact ret (v1, f1, w1, g1) _ _ _ _ _ _ ⟨(hT1.symm.trans (gsY_X11_close_1_q1 c2 et3 et5 c6)), hM_v1, hA_f1, hIv1, hCf1, hRf1, (show v1 0 = v 0 from hq0_v1), (show v1 1 = v 1 from hq1_v1), (show v1 2 = v 2 from hq2_v1), (show v1 3 = v 3 from hq3_v1), (show v1 4 = v 4 from hq4_v1), (show v1 5 = v 5 from hq5_v1), (show v1 9 = v 9 from hq9_v1), (show v1 13 = v 13 from hq13_v1), (show v1 15 = v 15 from hq15_v1), (show v1 17 = v 17 from hq17_v1), (show v1 18 = v 18 from hq18_v1), (show v1 24 = v 24 from hq24_v1), (show v1 25 = v 25 from hq25_v1), (show v1 35 = v 35 from hq35_v1), (show v1 36 = v 36 from hq36_v1), (show v1 38 = v 38 from hq38_v1), (show v1 39 = v 39 from hq39_v1), (show (v1 8).toInt + (v1 10).toInt = (v 8).toInt + (v 10).toInt from om_377 hx2_1), (show (v1 10).toInt - (v1 14).toInt ≤ (v 10).toInt - (v 14).toInt from om_378 hx3_1), (show (v1 10).toInt ≤ (v 10).toInt from om_318 hx4_1), (show (v1 14).toInt ≤ (v 14).toInt from om_318 hx5_1), (by show FI 1 (v1 10).toInt (v1 14).toInt (v1 8).toInt (f1 6) (f1 2) (f1 3); rw [hs6_f1]; exact hFI), (by show ∀ k, k < ((v 10).toInt).toNat → (f 6) k = 20 → k < ((v1 10).toInt).toNat; exact hGK), (by show 0 < p1.toInt ∨ (v1 10).toInt = 0 ∨ (f1 6) ((v1 10).toInt - 1).toNat = 20; rw [hs6_f1]; first | exact Or.inl (by omega) | exact Or.inr (Or.inl (by omega)) | exact Or.inr (Or.inr (topEq hO (by omega) (by omega)))), hs6_f1⟩ hP hD hS dX11_close_101 (Nat.le_refl _) (Nat.le_refl _)
        · skip
          have zc6 : ¬ (t5.toInt = 20) := zEn rfl tc_20 c6
          refine lv_aload_n hx hb dX11_close_23 rfl (lv_at hl 0 rfl) ?_
          refine va_get (D := (dC, dI)) (ci := 11) (v := .ref (r 15)) (C := RX11) (T := TX11) (N := 79) hx hb hts inB_11 hown hE.1 hP 0 rfl rfl 15 (Nat.le_of_ble_eq_true rfl) (hts _ k_1335) (fun _ h9 => h9) rfl dX11_close_24 ?_
          refine lv_aload_n hx hb dX11_close_27 rfl (lv_at hl 0 rfl) ?_
          refine va_get (D := (dC, dI)) (ci := 11) (v := .int (v1 10)) (C := RX11) (T := TX11) (N := 79) hx hb hts inB_11 hown hE.1 hP 0 rfl rfl 19 (Nat.le_of_ble_eq_true rfl) (hts _ k_1339) (fun _ h9 => h9) rfl dX11_close_28 ?_
          refine lv_iconst (v := 1) hx hb dX11_close_31 rfl ?_
          refine lv_isub hx hb dX11_close_32 ?_
          refine tI (y := t3) et3.symm ?_
          refine ldI hx hb hE hP 7 rfl (vpI (k := 160) rfl (show 0 ≤ t3.toInt from om_381 zc2 zt3) (show t3.toInt < 160 from om_364 b10_v1 zt3)) rfl rfl dX11_close_33 ?_
          refine tI (y := t5) et5.symm ?_
          refine cbSi (n := 1) (rest := []) hx hb hml hown hts hE hP hD hS hA (sY_X11_tight_1 NF l dC dI cy y0 r t5 v1 f1 w1 g1 hIv1 hCf1 hRf1 ) k_1677 k_1678 k_114 k_1679 he_yX11_tight ⟨Nat.le_of_ble_eq_true rfl, Nat.le_of_ble_eq_true rfl⟩ (rfl) hl.1 rfl (Nat.le_of_ble_eq_true rfl) dX11_close_34 (fun r7 u H locs hw hP hD hS => ?_)
          obtain ⟨hG8, hw⟩ := hw
          have pw_r7 : (1 : Int) ≤ r7.toInt ∧ r7.toInt ≤ 6 := hw
          refine lv_iload_n hx hb dX11_close_37 rfl (lv_at hl 1 rfl) ?_
          refine lv_icmp_lt (tgt := 101) hx hb dX11_close_38 rfl (fun c9 => ?_) (fun c9 => ?_)
          · skip
            have zc9 : r7.toInt < p1.toInt := zLp rfl rfl c9
            have rg10 := fb_rng r7
            have rg11 := fb_rng p1
            exact ret (v1, f1, w1, g1) _ _ _ _ _ _ ⟨(hT1.symm.trans (gsY_X11_close_1_q2 c2 et3 et5 c6 hG8.symm c9)), hM_v1, hA_f1, hIv1, hCf1, hRf1, (show v1 0 = v 0 from hq0_v1), (show v1 1 = v 1 from hq1_v1), (show v1 2 = v 2 from hq2_v1), (show v1 3 = v 3 from hq3_v1), (show v1 4 = v 4 from hq4_v1), (show v1 5 = v 5 from hq5_v1), (show v1 9 = v 9 from hq9_v1), (show v1 13 = v 13 from hq13_v1), (show v1 15 = v 15 from hq15_v1), (show v1 17 = v 17 from hq17_v1), (show v1 18 = v 18 from hq18_v1), (show v1 24 = v 24 from hq24_v1), (show v1 25 = v 25 from hq25_v1), (show v1 35 = v 35 from hq35_v1), (show v1 36 = v 36 from hq36_v1), (show v1 38 = v 38 from hq38_v1), (show v1 39 = v 39 from hq39_v1), (show (v1 8).toInt + (v1 10).toInt = (v 8).toInt + (v 10).toInt from om_377 hx2_1), (show (v1 10).toInt - (v1 14).toInt ≤ (v 10).toInt - (v 14).toInt from om_378 hx3_1), (show (v1 10).toInt ≤ (v 10).toInt from om_318 hx4_1), (show (v1 14).toInt ≤ (v 14).toInt from om_318 hx5_1), (by show FI 1 (v1 10).toInt (v1 14).toInt (v1 8).toInt (f1 6) (f1 2) (f1 3); rw [hs6_f1]; exact hFI), (by show ∀ k, k < ((v 10).toInt).toNat → (f 6) k = 20 → k < ((v1 10).toInt).toNat; exact hGK), (by show 0 < p1.toInt ∨ (v1 10).toInt = 0 ∨ (f1 6) ((v1 10).toInt - 1).toNat = 20; rw [hs6_f1]; first | exact Or.inl (by omega) | exact Or.inr (Or.inl (by omega)) | exact Or.inr (Or.inr (topEq hO (by omega) (by omega)))), hs6_f1⟩ hP hD hS dX11_close_101 (Nat.le_refl _) (Nat.le_refl _)
          · skip
            have zc9 : ¬ (r7.toInt < p1.toInt) := zLn rfl rfl c9
            have rg12 := fb_rng r7
            have rg13 := fb_rng p1
            refine lv_aload_n hx hb dX11_close_41 rfl (lv_at hl 0 rfl) ?_
            refine lv_dup hx hb dX11_close_42 rfl ?_
            refine va_get (D := (dC, dI)) (ci := 11) (v := .int (v1 10)) (C := RX11) (T := TX11) (N := 79) hx hb hts inB_11 hown hE.1 hP 0 rfl rfl 19 (Nat.le_of_ble_eq_true rfl) (hts _ k_1339) (fun _ h9 => h9) rfl dX11_close_43 ?_
            refine lv_iconst (v := 1) hx hb dX11_close_46 rfl ?_
            refine lv_isub hx hb dX11_close_47 ?_
            refine tI (y := t3) et3.symm ?_
            refine va_put (D := (dC, dI)) (ci := 11) (v := .int t3) (ty := tyX11 19) (C := RX11) (T := TX11) (N := 79) hx hb hts inB_11 tyX11 tyX11_ok nmX11 hown hE.1 hP hD hS 0 rfl rfl 19 (Nat.le_of_ble_eq_true rfl) (hts _ k_1339) (fun _ h9 => h9) rfl (tyX11_ok 19 (Nat.le_of_ble_eq_true rfl)) rfl rfl (Nat.le_of_ble_eq_true rfl) dX11_close_48 (fun H locs hP hD hS => ?_)
            have hP : va_P (dC, dI) vwCl (YW cy y0 r (upd v1 10 t3) f1 w1 g1) H := hP
            have hD : va_D A (YW cy y0 r (upd v1 10 t3) f1 w1 g1) := hD
            refine lv_aload_n hx hb dX11_close_51 rfl (lv_at hl 0 rfl) ?_
            refine va_get (D := (dC, dI)) (ci := 11) (v := .ref (r 15)) (C := RX11) (T := TX11) (N := 79) hx hb hts inB_11 hown hE.1 hP 0 rfl rfl 15 (Nat.le_of_ble_eq_true rfl) (hts _ k_1335) (fun _ h9 => h9) rfl dX11_close_52 ?_
            refine lv_aload_n hx hb dX11_close_55 rfl (lv_at hl 0 rfl) ?_
            refine va_get (D := (dC, dI)) (ci := 11) (v := .int t3) (C := RX11) (T := TX11) (N := 79) hx hb hts inB_11 hown hE.1 hP 0 rfl rfl 19 (Nat.le_of_ble_eq_true rfl) (hts _ k_1339) (fun _ h9 => h9) rfl dX11_close_56 ?_
            refine ldI hx hb hE hP 7 rfl (vpI (k := 160) rfl (show 0 ≤ t3.toInt from om_381 zc2 zt3) (show t3.toInt < 160 from om_364 b10_v1 zt3)) rfl rfl dX11_close_59 ?_
            refine tI (y := t5) et5.symm ?_
            refine lv_bipush (v := 21) hx hb dX11_close_60 rfl ?_
            refine lv_icmp_ne (tgt := 84) hx hb dX11_close_62 rfl (fun c14 => ?_) (fun c14 => ?_)
            · skip
              have zc14 : ¬ (t5.toInt = 21) := zEn rfl tc_21 c14
              refine lv_aload_n hx hb dX11_close_84 rfl (lv_at hl 0 rfl) ?_
              refine lv_iconst (v := 3) hx hb dX11_close_85 rfl ?_
              refine lv_aload_n hx hb dX11_close_86 rfl (lv_at hl 0 rfl) ?_
              refine va_get (D := (dC, dI)) (ci := 11) (v := .ref (r 15)) (C := RX11) (T := TX11) (N := 79) hx hb hts inB_11 hown hE.1 hP 0 rfl rfl 15 (Nat.le_of_ble_eq_true rfl) (hts _ k_1335) (fun _ h9 => h9) rfl dX11_close_87 ?_
              refine lv_aload_n hx hb dX11_close_90 rfl (lv_at hl 0 rfl) ?_
              refine va_get (D := (dC, dI)) (ci := 11) (v := .int t3) (C := RX11) (T := TX11) (N := 79) hx hb hts inB_11 hown hE.1 hP 0 rfl rfl 19 (Nat.le_of_ble_eq_true rfl) (hts _ k_1339) (fun _ h9 => h9) rfl dX11_close_91 ?_
              refine ldI hx hb hE hP 7 rfl (vpI (k := 160) rfl (show 0 ≤ t3.toInt from om_381 zc2 zt3) (show t3.toInt < 160 from om_364 b10_v1 zt3)) rfl rfl dX11_close_94 ?_
              refine tI (y := t5) et5.symm ?_
              refine cbVv (n := 2) (rest := []) hx hb hml hown hts hE hP hD hS hA (sY_X11_add_1 NF l dC dI cy y0 r 3 t5 (upd v1 10 t3) f1 w1 g1 ⟨(Yu_10 (x := t3) hIv1.1 (show (0 : Int) ≤ t3.toInt from om_381 zc2 zt3) (show t3.toInt ≤ (160 : Int) from om_382 b10_v1 zt3)), hIv1.2⟩ hCf1 hRf1 (show (v1 8).toInt ≤ 319 from om_383 hf0 hx2_1 zc2)) k_1696 k_1698 k_63 k_114 k_1699 hd_yX11_add ⟨Nat.le_of_ble_eq_true rfl, Nat.le_of_ble_eq_true rfl⟩ 0 11 rfl rfl (rfl) hl.1 rfl (Nat.le_of_ble_eq_true rfl) dX11_close_95 (fun u H locs hw hP hD hS => ?_)
              obtain ⟨hG15, hw⟩ := hw
              obtain ⟨v16, f17, w18, g19⟩ := u
              obtain ⟨kV_v16, kF_f17, hIv16, hCf17, hRf17, hk0_v16, hk1_v16, hk2_v16, hk3_v16, hk4_v16, hk5_v16, hk9_v16, hk10_v16, hk13_v16, hk14_v16, hk15_v16, hk17_v16, hk18_v16, hk24_v16, hk25_v16, hk35_v16, hk36_v16, hk38_v16, hk39_v16, pv20, pg21, pg22, kq23⟩ := hw
              have hM_v16 : KV [8, 10, 14] v16 v := KV.tr kV_v16 (KV.up (j := 10) (x := t3) hM_v1 rfl) rfl
              have hA_f17 : KF [2, 3] f17 f := KF.tr kF_f17 hA_f1 rfl
              have hP : va_P (dC, dI) vwCl (YW cy y0 r v16 f17 w18 g19) H := hP
              have hD : va_D A (YW cy y0 r v16 f17 w18 g19) := hD
              have b8_v16 : 0 ≤ (v16 8).toInt ∧ (v16 8).toInt ≤ 320 := Yb_8 hIv16.1
              have pv20 : (v16 8).toInt = (v1 8).toInt + 1 := pv20
              have pg21 : (f17 2) = upd (f1 2) ((v1 8).toInt).toNat 3 := pg21
              have pg22 : (f17 3) = upd (f1 3) ((v1 8).toInt).toNat t5 := pg22
              have hs6_f17 : f17 6 = (f 6) := kq23.trans hs6_f1
              have hUv16 : (v16 35).toInt + (v16 36).toInt ≤ 40 := hIv16.2
              have hq0_v16 : v16 0 = (v 0) := hk0_v16.trans hq0_v1
              have hq1_v16 : v16 1 = (v 1) := hk1_v16.trans hq1_v1
              have zq1_v16 := congrArg Int32.toInt hq1_v16
              have hq2_v16 : v16 2 = (v 2) := hk2_v16.trans hq2_v1
              have hq3_v16 : v16 3 = (v 3) := hk3_v16.trans hq3_v1
              have zq3_v16 := congrArg Int32.toInt hq3_v16
              have hq4_v16 : v16 4 = (v 4) := hk4_v16.trans hq4_v1
              have hq5_v16 : v16 5 = (v 5) := hk5_v16.trans hq5_v1
              have hq9_v16 : v16 9 = (v 9) := hk9_v16.trans hq9_v1
              have hq10_v16 : v16 10 = t3 := hk10_v16
              have zq10_v16 := congrArg Int32.toInt hq10_v16
              have hq13_v16 : v16 13 = (v 13) := hk13_v16.trans hq13_v1
              have zq13_v16 := congrArg Int32.toInt hq13_v16
              have hq14_v16 : v16 14 = (v1 14) := hk14_v16
              have zq14_v16 := congrArg Int32.toInt hq14_v16
              have hq15_v16 : v16 15 = (v 15) := hk15_v16.trans hq15_v1
              have hq17_v16 : v16 17 = (v 17) := hk17_v16.trans hq17_v1
              have hq18_v16 : v16 18 = (v 18) := hk18_v16.trans hq18_v1
              have hq24_v16 : v16 24 = (v 24) := hk24_v16.trans hq24_v1
              have hq25_v16 : v16 25 = (v 25) := hk25_v16.trans hq25_v1
              have hq35_v16 : v16 35 = (v 35) := hk35_v16.trans hq35_v1
              have hq36_v16 : v16 36 = (v 36) := hk36_v16.trans hq36_v1
              have hq38_v16 : v16 38 = (v 38) := hk38_v16.trans hq38_v1
              have hq39_v16 : v16 39 = (v 39) := hk39_v16.trans hq39_v1
              have hAS := pg21
              have hAA := pg22
              refine lv_goto (tgt := 0) hx hb dX11_close_98 rfl ?_
              exact ih1  v16 f17 w18 g19 hIv16 hCf17 hRf17 hq0_v16 hq1_v16 hq2_v16 hq3_v16 hq4_v16 hq5_v16 hq9_v16 hq13_v16 hq15_v16 hq17_v16 hq18_v16 hq24_v16 hq25_v16 hq35_v16 hq36_v16 hq38_v16 hq39_v16 ((gsY_X11_close_1_q3 c2 et3 et5 c6 hG8.symm c9 c14 hG15).symm.trans hT1) (by show FI 1 (v16 10).toInt (v16 14).toInt (v16 8).toInt (f17 6) (f17 2) (f17 3); rw [hs6_f17]; exact FI.dos hFI hO (by omega) (by omega) (by omega) hAS hAA (by omega) (by first | with_reducible rfl | with_reducible assumption | rfl | omega) (by first | with_reducible rfl | with_reducible assumption | rfl | omega) (by first | with_reducible rfl | with_reducible assumption | rfl | omega)) (by show ∀ k, k < ((v 10).toInt).toNat → (f17 6) k = 20 → k < ((v16 10).toInt).toNat; rw [hs6_f17]; exact gk_pop hGK hO (by omega) (by omega) (by omega)) (show (v16 8).toInt + (v16 10).toInt = (v 8).toInt + (v 10).toInt from om_384 hx2_1 zt3 pv20 zq10_v16) (show (v16 10).toInt - (v16 14).toInt ≤ (v 10).toInt - (v 14).toInt from om_385 hx3_1 zt3 zq10_v16 zq14_v16) (show (v16 10).toInt ≤ (v 10).toInt from om_386 hx4_1 zt3 zq10_v16) (show (v16 14).toInt ≤ (v 14).toInt from om_387 hx5_1 zq14_v16) hM_v16 hA_f17 hs6_f17 (show ((v16 10).toInt).toNat < n1 from om_388 hm1 zc2 zt3 zq10_v16) _ _ _ hP hD hS (lv_sub hl [0, 1] rfl)
            · skip
              have zc14 : t5.toInt = 21 := zEp rfl tc_21 c14
              refine lv_aload_n hx hb dX11_close_65 rfl (lv_at hl 0 rfl) ?_
              refine lv_iconst (v := 2) hx hb dX11_close_66 rfl ?_
              refine lv_iconst (v := 0) hx hb dX11_close_67 rfl ?_
              refine cbVv (n := 2) (rest := []) hx hb hml hown hts hE hP hD hS hA (sY_X11_add_1 NF l dC dI cy y0 r 2 0 (upd v1 10 t3) f1 w1 g1 ⟨(Yu_10 (x := t3) hIv1.1 (show (0 : Int) ≤ t3.toInt from om_381 zc2 zt3) (show t3.toInt ≤ (160 : Int) from om_382 b10_v1 zt3)), hIv1.2⟩ hCf1 hRf1 (show (v1 8).toInt ≤ 319 from om_383 hf0 hx2_1 zc2)) k_1696 k_1698 k_63 k_114 k_1699 hd_yX11_add ⟨Nat.le_of_ble_eq_true rfl, Nat.le_of_ble_eq_true rfl⟩ 0 11 rfl rfl (rfl) hl.1 rfl (Nat.le_of_ble_eq_true rfl) dX11_close_68 (fun u H locs hw hP hD hS => ?_)
              obtain ⟨hG24, hw⟩ := hw
              obtain ⟨v25, f26, w27, g28⟩ := u
              obtain ⟨kV_v25, kF_f26, hIv25, hCf26, hRf26, hk0_v25, hk1_v25, hk2_v25, hk3_v25, hk4_v25, hk5_v25, hk9_v25, hk10_v25, hk13_v25, hk14_v25, hk15_v25, hk17_v25, hk18_v25, hk24_v25, hk25_v25, hk35_v25, hk36_v25, hk38_v25, hk39_v25, pv29, pg30, pg31, kq32⟩ := hw
              have hM_v25 : KV [8, 10, 14] v25 v := KV.tr kV_v25 (KV.up (j := 10) (x := t3) hM_v1 rfl) rfl
              have hA_f26 : KF [2, 3] f26 f := KF.tr kF_f26 hA_f1 rfl
              have hP : va_P (dC, dI) vwCl (YW cy y0 r v25 f26 w27 g28) H := hP
              have hD : va_D A (YW cy y0 r v25 f26 w27 g28) := hD
              have b8_v25 : 0 ≤ (v25 8).toInt ∧ (v25 8).toInt ≤ 320 := Yb_8 hIv25.1
              have pv29 : (v25 8).toInt = (v1 8).toInt + 1 := pv29
              have pg30 : (f26 2) = upd (f1 2) ((v1 8).toInt).toNat 2 := pg30
              have pg31 : (f26 3) = upd (f1 3) ((v1 8).toInt).toNat 0 := pg31
              have hs6_f26 : f26 6 = (f 6) := kq32.trans hs6_f1
              have hUv25 : (v25 35).toInt + (v25 36).toInt ≤ 40 := hIv25.2
              have hq0_v25 : v25 0 = (v 0) := hk0_v25.trans hq0_v1
              have hq1_v25 : v25 1 = (v 1) := hk1_v25.trans hq1_v1
              have zq1_v25 := congrArg Int32.toInt hq1_v25
              have hq2_v25 : v25 2 = (v 2) := hk2_v25.trans hq2_v1
              have hq3_v25 : v25 3 = (v 3) := hk3_v25.trans hq3_v1
              have zq3_v25 := congrArg Int32.toInt hq3_v25
              have hq4_v25 : v25 4 = (v 4) := hk4_v25.trans hq4_v1
              have hq5_v25 : v25 5 = (v 5) := hk5_v25.trans hq5_v1
              have hq9_v25 : v25 9 = (v 9) := hk9_v25.trans hq9_v1
              have hq10_v25 : v25 10 = t3 := hk10_v25
              have zq10_v25 := congrArg Int32.toInt hq10_v25
              have hq13_v25 : v25 13 = (v 13) := hk13_v25.trans hq13_v1
              have zq13_v25 := congrArg Int32.toInt hq13_v25
              have hq14_v25 : v25 14 = (v1 14) := hk14_v25
              have zq14_v25 := congrArg Int32.toInt hq14_v25
              have hq15_v25 : v25 15 = (v 15) := hk15_v25.trans hq15_v1
              have hq17_v25 : v25 17 = (v 17) := hk17_v25.trans hq17_v1
              have hq18_v25 : v25 18 = (v 18) := hk18_v25.trans hq18_v1
              have hq24_v25 : v25 24 = (v 24) := hk24_v25.trans hq24_v1
              have hq25_v25 : v25 25 = (v 25) := hk25_v25.trans hq25_v1
              have hq35_v25 : v25 35 = (v 35) := hk35_v25.trans hq35_v1
              have hq36_v25 : v25 36 = (v 36) := hk36_v25.trans hq36_v1
              have hq38_v25 : v25 38 = (v 38) := hk38_v25.trans hq38_v1
              have hq39_v25 : v25 39 = (v 39) := hk39_v25.trans hq39_v1
              have hAS := pg30
              have hAA := pg31
              have hdn := FI.topd hFI hO (by omega) (by omega)
              refine lv_aload_n hx hb dX11_close_71 rfl (lv_at hl 0 rfl) ?_
              refine lv_dup hx hb dX11_close_72 rfl ?_
              refine va_get (D := (dC, dI)) (ci := 11) (v := .int (v25 14)) (C := RX11) (T := TX11) (N := 79) hx hb hts inB_11 hown hE.1 hP 0 rfl rfl 23 (Nat.le_of_ble_eq_true rfl) (hts _ k_1343) (fun _ h9 => h9) rfl dX11_close_73 ?_
              refine tI (y := (v1 14)) hq14_v25 ?_
              have b14_v1 : 0 ≤ (v1 14).toInt ∧ (v1 14).toInt ≤ 8 := Yb_14 hIv1.1
              refine lv_iconst (v := 1) hx hb dX11_close_76 rfl ?_
              refine lv_isub hx hb dX11_close_77 ?_
              refine lv_topi (fun t33 et33 => ?_)
              have rg34 := fb_rng (v1 14)
              have zt33 : t33.toInt = (v1 14).toInt - 1 := (congrArg Int32.toInt et33).trans (sub_i rfl tc_1 (om_389 b14_v1) (om_390 b14_v1))
              refine va_put (D := (dC, dI)) (ci := 11) (v := .int t33) (ty := tyX11 23) (C := RX11) (T := TX11) (N := 79) hx hb hts inB_11 tyX11 tyX11_ok nmX11 hown hE.1 hP hD hS 0 rfl rfl 23 (Nat.le_of_ble_eq_true rfl) (hts _ k_1343) (fun _ h9 => h9) rfl (tyX11_ok 23 (Nat.le_of_ble_eq_true rfl)) rfl rfl (Nat.le_of_ble_eq_true rfl) dX11_close_78 (fun H locs hP hD hS => ?_)
              have hP : va_P (dC, dI) vwCl (YW cy y0 r (upd v25 14 t33) f26 w27 g28) H := hP
              have hD : va_D A (YW cy y0 r (upd v25 14 t33) f26 w27 g28) := hD
              refine lv_goto (tgt := 0) hx hb dX11_close_81 rfl ?_
              exact ih1  (upd v25 14 t33) f26 w27 g28 ⟨(Yu_14 (x := t33) hIv25.1 (show (0 : Int) ≤ t33.toInt by omega) (show t33.toInt ≤ (8 : Int) from om_391 b14_v1 zt33)), hIv25.2⟩ hCf26 hRf26 hq0_v25 hq1_v25 hq2_v25 hq3_v25 hq4_v25 hq5_v25 hq9_v25 hq13_v25 hq15_v25 hq17_v25 hq18_v25 hq24_v25 hq25_v25 hq35_v25 hq36_v25 hq38_v25 hq39_v25 ((gsY_X11_close_1_q4 c2 et3 et5 c6 hG8.symm c9 c14 hG24 et33).symm.trans hT1) (by show FI 1 (v25 10).toInt t33.toInt (v25 8).toInt (f26 6) (f26 2) (f26 3); rw [hs6_f26]; exact FI.not hFI hO (by omega) (by omega) hAS hAA (by omega) (by first | with_reducible rfl | with_reducible assumption | rfl | omega) (by first | with_reducible rfl | with_reducible assumption | rfl | omega) (by first | with_reducible rfl | with_reducible assumption | rfl | omega)) (by show ∀ k, k < ((v 10).toInt).toNat → (f26 6) k = 20 → k < ((v25 10).toInt).toNat; rw [hs6_f26]; exact gk_pop hGK hO (by omega) (by omega) (by omega)) (show (v25 8).toInt + (v25 10).toInt = (v 8).toInt + (v 10).toInt from om_384 hx2_1 zt3 pv29 zq10_v25) (show (v25 10).toInt - t33.toInt ≤ (v 10).toInt - (v 14).toInt from om_392 hx3_1 zt3 zq10_v25 zt33) (show (v25 10).toInt ≤ (v 10).toInt from om_386 hx4_1 zt3 zq10_v25) (show t33.toInt ≤ (v 14).toInt from om_393 hx5_1 zt33) (KV.up (j := 14) (x := t33) hM_v25 rfl) hA_f26 hs6_f26 (show ((v25 10).toInt).toNat < n1 from om_388 hm1 zc2 zt3 zq10_v25) _ _ _ hP hD hS (lv_sub hl [0, 1] rfl)
  exact lp1 (4294967296 + NF)  v f w g hIv hCf hRf rfl rfl rfl rfl rfl rfl rfl rfl rfl rfl rfl rfl rfl rfl rfl rfl rfl gsY_X11_close_1_q5.symm (by show FI 1 (v 10).toInt (v 14).toInt (v 8).toInt (f 6) (f 2) (f 3); exact hFI) (by show ∀ k, k < ((v 10).toInt).toNat → (f 6) k = 20 → k < ((v 10).toInt).toNat; exact fun k h1 h2 => h1) (show (v 8).toInt + (v 10).toInt = (v 8).toInt + (v 10).toInt from om_394) (show (v 10).toInt - (v 14).toInt ≤ (v 10).toInt - (v 14).toInt from om_395) (show (v 10).toInt ≤ (v 10).toInt from om_329) (show (v 14).toInt ≤ (v 14).toInt from om_329) hM_v hA_f rfl (show ((v 10).toInt).toNat < 4294967296 + NF from om_396 b10_v) _ _ _ hP hD hS (lv_sub hl [0, 1] rfl)
