set_option maxHeartbeats 4000000 in
set_option maxRecDepth 100000 in
theorem sY_X11_four_1 (NF : Nat) (l : Launch) (dC : Nat → ClassId) (dI : Nat → Nat → Nat) (cy : Nat → ClassId) (y0 : Nat) (r : Nat → Nat) (p1 : Int32) (v : Nat → Int32) (f : Nat → Nat → Int32) (w : Int64) (g : Nat → Int64) (hIv : YI v) (hCf : YC f) (hRf : progOK (f 4) (f 5) (v 9).toInt.toNat)  (hf0 : (v 0).toInt ≤ 1596) : ctV l (dC, dI) cy yX11_four cX11_four 3 1 60 0 0 ((Nat → Int32) × (Nat → Nat → Int32) × (Int64) × (Nat → Int64)) [.ref y0, .int p1] (YW cy y0 r v f w g) (fun u => gsY_X11_four_1 NF p1 v f w g = u ∧ KV [0] u.1 v ∧ KF [0] u.2.1 f ∧ YI u.1 ∧ YC u.2.1 ∧ progOK (u.2.1 4) (u.2.1 5) (u.1 9).toInt.toNat ∧ u.1 1 = v 1 ∧ u.1 2 = v 2 ∧ u.1 3 = v 3 ∧ u.1 4 = v 4 ∧ u.1 5 = v 5 ∧ u.1 8 = v 8 ∧ u.1 9 = v 9 ∧ u.1 10 = v 10 ∧ u.1 13 = v 13 ∧ u.1 14 = v 14 ∧ u.1 15 = v 15 ∧ u.1 17 = v 17 ∧ u.1 18 = v 18 ∧ u.1 24 = v 24 ∧ u.1 25 = v 25 ∧ u.1 35 = v 35 ∧ u.1 36 = v 36 ∧ u.1 38 = v 38 ∧ u.1 39 = v 39 ∧ ((u.1 0).toInt = (v 0).toInt + 4)) (fun u => YW cy y0 r u.1 u.2.1 u.2.2.1 u.2.2.2) := by
  refine ctV_of (by decide) (Nat.le_of_ble_eq_true rfl) (fun p e s m below meth c A ls Q hx hb hml hts hown hnm hE hP hD hA hl ret => ?_)
  have hUv : (v 35).toInt + (v 36).toInt ≤ 40 := hIv.2
  have hM_v : KV [0] v v := fun _ _ => rfl
  have hA_f : KF [0] f f := fun _ _ => rfl
  have hown : s.vm.findClass RX11 = some m.cls := hown
  have hS : va_S A s.heap s.heap [] := va_S.rf
  have hl : lv_has ls 3 [(0, .ref y0), (1, .int p1)] := hl
  refine lv_bipush (v := 24) hx hb dX11_four_0 (by decide) ?_
  refine lv_istore_n (lv' := [(2, .int 24), (0, .ref y0), (1, .int p1)]) hx hb dX11_four_2 rfl hl (by decide) rfl (fun ls hl => ?_)
  have lp1 : ∀ (n1 : Nat) (l2_1 : Int32) (v1 : Nat → Int32) (f1 : Nat → Nat → Int32) (w1 : Int64) (g1 : Nat → Int64), YI v1 → YC f1 → progOK (f1 4) (f1 5) (v1 9).toInt.toNat → v1 1 = (v 1) → v1 2 = (v 2) → v1 3 = (v 3) → v1 4 = (v 4) → v1 5 = (v 5) → v1 8 = (v 8) → v1 9 = (v 9) → v1 10 = (v 10) → v1 13 = (v 13) → v1 14 = (v 14) → v1 15 = (v 15) → v1 17 = (v 17) → v1 18 = (v 18) → v1 24 = (v 24) → v1 25 = (v 25) → v1 35 = (v 35) → v1 36 = (v 36) → v1 38 = (v 38) → v1 39 = (v 39) → gsY_X11_four_1_L1 NF p1 n1 l2_1 v1 f1 w1 g1 = (gsY_X11_four_1 NF p1 v f w g) → ((-8 : Int) ≤ l2_1.toInt ∧ l2_1.toInt ≤ 24) → (8 * (v1 0).toInt + l2_1.toInt = 8 * (v 0).toInt + 24) → KV [0] v1 v → KF [0] f1 f → (l2_1.toInt + 8).toNat < n1 → ∀ (H : Heap) (locs : List Loc) (ls : Array Slot), va_P (dC, dI) vwCl (YW cy y0 r v1 f1 w1 g1) H → va_D A (YW cy y0 r v1 f1 w1 g1) → va_S A s.heap H locs → lv_has ls 3 [(2, .int l2_1), (0, .ref y0), (1, .int p1)] → W p l e { frames := 1, cells := 0, slots := 0, locals := 60 } s m ([.ref y0, .int p1] : List Value).toArray below meth c H locs 0 0 Q (F0 m 3 ls []) := by
    intro n1
    induction n1 with
    | zero => intro l2_1 v1 f1 w1 g1 hIv1 hCf1 hRf1 hq1_v1 hq2_v1 hq3_v1 hq4_v1 hq5_v1 hq8_v1 hq9_v1 hq10_v1 hq13_v1 hq14_v1 hq15_v1 hq17_v1 hq18_v1 hq24_v1 hq25_v1 hq35_v1 hq36_v1 hq38_v1 hq39_v1 hT1 hr2_1 hx0_1 hM_v1 hA_f1 hm; exact absurd hm (Nat.not_lt_zero _)
    | succ n1 ih1 =>
      intro l2_1 v1 f1 w1 g1 hIv1 hCf1 hRf1 hq1_v1 hq2_v1 hq3_v1 hq4_v1 hq5_v1 hq8_v1 hq9_v1 hq10_v1 hq13_v1 hq14_v1 hq15_v1 hq17_v1 hq18_v1 hq24_v1 hq25_v1 hq35_v1 hq36_v1 hq38_v1 hq39_v1 hT1 hr2_1 hx0_1 hM_v1 hA_f1 hm1 H locs ls hP hD hS hl
      have hUv1 : (v1 35).toInt + (v1 36).toInt ≤ 40 := hIv1.2
      have zq9_v1 := congrArg Int32.toInt hq9_v1
      have b0_v1 : 0 ≤ (v1 0).toInt ∧ (v1 0).toInt ≤ 1600 := YIb.b hIv1.1 0 (by decide)
      refine lv_iload_n hx hb dX11_four_3 rfl (lv_at hl 0 rfl) ?_
      refine lv_if_lt (tgt := 39) hx hb dX11_four_4 (by decide) (fun c2 => ?_) (fun c2 => ?_)
      · skip
        have zc2 : l2_1.toInt < 0 := by rw [fa_lt, show (0 : Int32).toInt = 0 from by decide] at c2; exact c2
        exact ret (v1, f1, w1, g1) _ _ _ _ _ _ ⟨(hT1.symm.trans (gsY_X11_four_1_q0 c2)), hM_v1, hA_f1, hIv1, hCf1, hRf1, (show v1 1 = v 1 from hq1_v1), (show v1 2 = v 2 from hq2_v1), (show v1 3 = v 3 from hq3_v1), (show v1 4 = v 4 from hq4_v1), (show v1 5 = v 5 from hq5_v1), (show v1 8 = v 8 from hq8_v1), (show v1 9 = v 9 from hq9_v1), (show v1 10 = v 10 from hq10_v1), (show v1 13 = v 13 from hq13_v1), (show v1 14 = v 14 from hq14_v1), (show v1 15 = v 15 from hq15_v1), (show v1 17 = v 17 from hq17_v1), (show v1 18 = v 18 from hq18_v1), (show v1 24 = v 24 from hq24_v1), (show v1 25 = v 25 from hq25_v1), (show v1 35 = v 35 from hq35_v1), (show v1 36 = v 36 from hq36_v1), (show v1 38 = v 38 from hq38_v1), (show v1 39 = v 39 from hq39_v1), (by show (v1 0).toInt = (v 0).toInt + 4; omega)⟩ hP hD hS dX11_four_39 (Nat.le_refl _) (Nat.le_refl _)
      · skip
        have zc2 : ¬ (l2_1.toInt < 0) := by rw [fa_lt, show (0 : Int32).toInt = 0 from by decide] at c2; exact c2
        refine lv_aload_n hx hb dX11_four_7 rfl (lv_at hl 1 rfl) ?_
        refine va_get (D := (dC, dI)) (ci := 11) (v := .ref (r 0)) (C := RX11) (T := TX11) (N := 79) hx hb hts inB_11 hown hE.1 hP 0 rfl rfl 0 (by decide) (hts _ k_1320) (fun _ h9 => h9) rfl dX11_four_8 ?_
        refine lv_aload_n hx hb dX11_four_11 rfl (lv_at hl 1 rfl) ?_
        refine va_get (D := (dC, dI)) (ci := 11) (v := .int (v1 0)) (C := RX11) (T := TX11) (N := 79) hx hb hts inB_11 hown hE.1 hP 0 rfl rfl 1 (by decide) (hts _ k_1321) (fun _ h9 => h9) rfl dX11_four_12 ?_
        refine lv_iload_n hx hb dX11_four_15 rfl (lv_at hl 2 rfl) ?_
        refine lv_iload_n hx hb dX11_four_16 rfl (lv_at hl 0 rfl) ?_
        refine lv_ishr hx hb dX11_four_17 ?_
        refine lv_topi (fun t3 et3 => ?_)
        refine lv_sipush (v := 255) hx hb dX11_four_18 (by decide) ?_
        refine lv_iand hx hb dX11_four_21 ?_
        refine lv_topi (fun t4 et4 => ?_)
        have zt4 : 0 ≤ t4.toInt ∧ t4.toInt < 256 := by rw [et4]; exact and_rng _ (k := 8) (by decide) (by decide)
        refine stI hx hb hE hP hD hS 1 rfl (vp_in_iff.mpr ⟨by omega, by omega⟩) rfl dX11_four_22 (fun H locs hP hD hS => ?_)
        obtain ⟨f5, ef5, hP, hD⟩ : ∃ fz9, fz9 = upd2 f1 0 (upd (f1 0) (v1 0).toNatClampNeg t4) ∧ va_P (dC, dI) vwCl (YW cy y0 r v1 fz9 w1 g1) H ∧ va_D A (YW cy y0 r v1 fz9 w1 g1) := ⟨_, rfl, hP, hD⟩
        have hCf5 : YC f5 := by rw [ef5]; exact hCf1
        have hRf5 : progOK (f5 4) (f5 5) (v1 9).toInt.toNat := by rw [ef5]; exact hRf1
        have hA_f5 : KF [0] f5 f := by rw [ef5]; exact KF.up hA_f1 rfl
        refine lv_aload_n hx hb dX11_four_23 rfl (lv_at hl 1 rfl) ?_
        refine lv_dup hx hb dX11_four_24 rfl ?_
        refine va_get (D := (dC, dI)) (ci := 11) (v := .int (v1 0)) (C := RX11) (T := TX11) (N := 79) hx hb hts inB_11 hown hE.1 hP 0 rfl rfl 1 (by decide) (hts _ k_1321) (fun _ h9 => h9) rfl dX11_four_25 ?_
        refine lv_iconst (v := 1) hx hb dX11_four_28 (by decide) ?_
        refine lv_iadd hx hb dX11_four_29 ?_
        refine lv_topi (fun t6 et6 => ?_)
        have rg7 := fb_rng (v1 0)
        have zt6 : t6.toInt = (v1 0).toInt + 1 := by rw [et6]; exact add_i rfl (by decide) (by omega) (by omega)
        refine va_put (D := (dC, dI)) (ci := 11) (v := .int t6) (ty := tyX11 1) (C := RX11) (T := TX11) (N := 79) hx hb hts inB_11 tyX11 tyX11_ok nmX11 hown hE.1 hP hD hS 0 rfl rfl 1 (by decide) (hts _ k_1321) (fun _ h9 => h9) rfl (tyX11_ok 1 (by decide)) rfl rfl (Nat.le_of_ble_eq_true rfl) dX11_four_30 (fun H locs hP hD hS => ?_)
        have hP : va_P (dC, dI) vwCl (YW cy y0 r (upd v1 0 t6) f5 w1 g1) H := hP
        have hD : va_D A (YW cy y0 r (upd v1 0 t6) f5 w1 g1) := hD
        obtain ⟨t8, et8⟩ : ∃ y : Int32, y = l2_1 + (-8) := ⟨_, rfl⟩
        have rg9 := fb_rng l2_1
        have zt8 : t8.toInt = l2_1.toInt + (-8) := by rw [et8]; exact add_i rfl (by decide) (by omega) (by omega)
        refine lv_iinc (v := t8) (lv' := [(2, .int t8), (0, .ref y0), (1, .int p1)]) hx hb dX11_four_33 hl (k := 0) rfl (by rw [et8]; rfl) (by decide) rfl (fun ls hl => ?_)
        refine lv_goto (tgt := 3) hx hb dX11_four_36 (by decide) ?_
        have rg10 := fb_rng t8
        exact ih1 t8 (upd v1 0 t6) f5 w1 g1 ⟨(YIb.upd (j := 0) (x := t6) hIv1.1 (show (0 : Int) ≤ t6.toInt by omega) (show t6.toInt ≤ (1600 : Int) by omega)), hIv1.2⟩ hCf5 hRf5 hq1_v1 hq2_v1 hq3_v1 hq4_v1 hq5_v1 hq8_v1 hq9_v1 hq10_v1 hq13_v1 hq14_v1 hq15_v1 hq17_v1 hq18_v1 hq24_v1 hq25_v1 hq35_v1 hq36_v1 hq38_v1 hq39_v1 ((gsY_X11_four_1_q1 c2 et3 et4 ef5 et6 et8).symm.trans hT1) ⟨show (-8 : Int) ≤ t8.toInt by omega, show t8.toInt ≤ (24 : Int) by omega⟩ (by show 8 * t6.toInt + t8.toInt = 8 * (v 0).toInt + 24; omega) (KV.up (j := 0) (x := t6) hM_v1 rfl) hA_f5 (by show (t8.toInt + 8).toNat < n1; omega) _ _ _ hP hD hS (lv_sub hl [0, 1, 2] rfl)
  exact lp1 (4294967296 + NF) 24 v f w g hIv hCf hRf rfl rfl rfl rfl rfl rfl rfl rfl rfl rfl rfl rfl rfl rfl rfl rfl rfl rfl rfl gsY_X11_four_1_q2.symm ⟨by decide, by decide⟩ (by have q2 : (24 : Int32).toInt = 24 := (by decide); show 8 * (v 0).toInt + (24 : Int32).toInt = 8 * (v 0).toInt + 24; omega) hM_v hA_f (by have q2 : (24 : Int32).toInt = 24 := (by decide); show ((24 : Int32).toInt + 8).toNat < 4294967296 + NF; omega) _ _ _ hP hD hS (lv_sub hl [0, 1, 2] rfl)
set_option maxHeartbeats 4000000 in
set_option maxRecDepth 100000 in
theorem sY_X11_feed_1 (NF : Nat) (l : Launch) (dC : Nat → ClassId) (dI : Nat → Nat → Nat) (cy : Nat → ClassId) (y0 : Nat) (r : Nat → Nat) (p1 : Int32) (p2 : Int32) (p3 : Int32) (p4 : Int32) (p5 : Int32) (v : Nat → Int32) (f : Nat → Nat → Int32) (w : Int64) (g : Nat → Int64) (hIv : YI v) (hCf : YC f) (hRf : progOK (f 4) (f 5) (v 9).toInt.toNat)  : ctI l (dC, dI) cy yX11_feed cX11_feed 6 .int 2 82 0 0 ((Nat → Int32) × (Nat → Nat → Int32) × (Int64) × (Nat → Int64)) [.ref y0, .int p1, .int p2, .int p3, .int p4, .int p5] (YW cy y0 r v f w g) (fun r u => gsY_X11_feed_1 NF p1 p2 p3 p4 p5 v f w g = (r, u) ∧ KV [0] u.1 v ∧ KF [0] u.2.1 f ∧ YI u.1 ∧ YC u.2.1 ∧ progOK (u.2.1 4) (u.2.1 5) (u.1 9).toInt.toNat ∧ u.1 1 = v 1 ∧ u.1 2 = v 2 ∧ u.1 3 = v 3 ∧ u.1 4 = v 4 ∧ u.1 5 = v 5 ∧ u.1 8 = v 8 ∧ u.1 9 = v 9 ∧ u.1 10 = v 10 ∧ u.1 13 = v 13 ∧ u.1 14 = v 14 ∧ u.1 15 = v 15 ∧ u.1 17 = v 17 ∧ u.1 18 = v 18 ∧ u.1 24 = v 24 ∧ u.1 25 = v 25 ∧ u.1 35 = v 35 ∧ u.1 36 = v 36 ∧ u.1 38 = v 38 ∧ u.1 39 = v 39) (fun u => YW cy y0 r u.1 u.2.1 u.2.2.1 u.2.2.2) := by
  refine ctI_of (by decide) (Nat.le_of_ble_eq_true rfl) (fun p e s m below meth c A ls Q hx hb hml hts hown hE hP hD hA hl ret => ?_)
  have hUv : (v 35).toInt + (v 36).toInt ≤ 40 := hIv.2
  have hM_v : KV [0] v v := fun _ _ => rfl
  have hA_f : KF [0] f f := fun _ _ => rfl
  have hown : s.vm.findClass RX11 = some m.cls := hown
  have hS : va_S A s.heap s.heap [] := va_S.rf
  have hl : lv_has ls 6 [(0, .ref y0), (1, .int p1), (2, .int p2), (3, .int p3), (4, .int p4), (5, .int p5)] := hl
  refine lv_aload_n hx hb dX11_feed_0 rfl (lv_at hl 0 rfl) ?_
  refine va_get (D := (dC, dI)) (ci := 11) (v := .int (v 0)) (C := RX11) (T := TX11) (N := 79) hx hb hts inB_11 hown hE.1 hP 0 rfl rfl 1 (by decide) (hts _ k_1321) (fun _ h9 => h9) rfl dX11_feed_1 ?_
  have b0_v : 0 ≤ (v 0).toInt ∧ (v 0).toInt ≤ 1600 := YIb.b hIv.1 0 (by decide)
  refine lv_bipush (v := 20) hx hb dX11_feed_4 (by decide) ?_
  refine lv_iadd hx hb dX11_feed_6 ?_
  refine lv_topi (fun t1 et1 => ?_)
  have rg2 := fb_rng (v 0)
  have zt1 : t1.toInt = (v 0).toInt + 20 := by rw [et1]; exact add_i rfl (by decide) (by omega) (by omega)
  refine lv_sipush (v := 1600) hx hb dX11_feed_7 (by decide) ?_
  refine lv_icmp_le (tgt := 15) hx hb dX11_feed_10 (by decide) (fun c3 => ?_) (fun c3 => ?_)
  · skip
    have zc3 : t1.toInt ≤ 1600 := by rw [fa_le, show (1600 : Int32).toInt = 1600 from by decide] at c3; exact c3
    refine lv_aload_n hx hb dX11_feed_15 rfl (lv_at hl 0 rfl) ?_
    refine lv_iload_n hx hb dX11_feed_16 rfl (lv_at hl 1 rfl) ?_
    refine cbVv (n := 1) (rest := []) hx hb hml hown hts hE hP hD hS hA (sY_X11_four_1 NF l dC dI cy y0 r p1 v f w g hIv hCf hRf (by show (v 0).toInt ≤ 1596; omega)) k_1563 k_1565 k_40 k_114 k_1566 (by decide +kernel) ⟨Nat.le_of_ble_eq_true rfl, Nat.le_of_ble_eq_true rfl⟩ 0 11 rfl rfl (rfl) hl.1 rfl (Nat.le_of_ble_eq_true rfl) dX11_feed_17 (fun u H locs hw hP hD hS => ?_)
    obtain ⟨hG4, hw⟩ := hw
    obtain ⟨v5, f6, w7, g8⟩ := u
    obtain ⟨kV_v5, kF_f6, hIv5, hCf6, hRf6, hk1_v5, hk2_v5, hk3_v5, hk4_v5, hk5_v5, hk8_v5, hk9_v5, hk10_v5, hk13_v5, hk14_v5, hk15_v5, hk17_v5, hk18_v5, hk24_v5, hk25_v5, hk35_v5, hk36_v5, hk38_v5, hk39_v5, pv9⟩ := hw
    have hM_v5 : KV [0] v5 v := KV.tr kV_v5 hM_v rfl
    have hA_f6 : KF [0] f6 f := KF.tr kF_f6 hA_f rfl
    have hP : va_P (dC, dI) vwCl (YW cy y0 r v5 f6 w7 g8) H := hP
    have hD : va_D A (YW cy y0 r v5 f6 w7 g8) := hD
    have b0_v5 : 0 ≤ (v5 0).toInt ∧ (v5 0).toInt ≤ 1600 := YIb.b hIv5.1 0 (by decide)
    have pv9 : (v5 0).toInt = (v 0).toInt + 4 := pv9
    have hUv5 : (v5 35).toInt + (v5 36).toInt ≤ 40 := hIv5.2
    have hq9_v5 : v5 9 = (v 9) := hk9_v5
    have zq9_v5 := congrArg Int32.toInt hq9_v5
    refine lv_aload_n hx hb dX11_feed_20 rfl (lv_at hl 0 rfl) ?_
    refine lv_iload_n hx hb dX11_feed_21 rfl (lv_at hl 2 rfl) ?_
    refine cbVv (n := 1) (rest := []) hx hb hml hown hts hE hP hD hS hA (sY_X11_four_1 NF l dC dI cy y0 r p2 v5 f6 w7 g8 hIv5 hCf6 hRf6 (by show (v5 0).toInt ≤ 1596; omega)) k_1563 k_1565 k_40 k_114 k_1566 (by decide +kernel) ⟨Nat.le_of_ble_eq_true rfl, Nat.le_of_ble_eq_true rfl⟩ 0 11 rfl rfl (rfl) hl.1 rfl (Nat.le_of_ble_eq_true rfl) dX11_feed_22 (fun u H locs hw hP hD hS => ?_)
    obtain ⟨hG10, hw⟩ := hw
    obtain ⟨v11, f12, w13, g14⟩ := u
    obtain ⟨kV_v11, kF_f12, hIv11, hCf12, hRf12, hk1_v11, hk2_v11, hk3_v11, hk4_v11, hk5_v11, hk8_v11, hk9_v11, hk10_v11, hk13_v11, hk14_v11, hk15_v11, hk17_v11, hk18_v11, hk24_v11, hk25_v11, hk35_v11, hk36_v11, hk38_v11, hk39_v11, pv15⟩ := hw
    have hM_v11 : KV [0] v11 v := KV.tr kV_v11 hM_v5 rfl
    have hA_f12 : KF [0] f12 f := KF.tr kF_f12 hA_f6 rfl
    have hP : va_P (dC, dI) vwCl (YW cy y0 r v11 f12 w13 g14) H := hP
    have hD : va_D A (YW cy y0 r v11 f12 w13 g14) := hD
    have b0_v11 : 0 ≤ (v11 0).toInt ∧ (v11 0).toInt ≤ 1600 := YIb.b hIv11.1 0 (by decide)
    have pv15 : (v11 0).toInt = (v5 0).toInt + 4 := pv15
    have hUv11 : (v11 35).toInt + (v11 36).toInt ≤ 40 := hIv11.2
    have hq9_v11 : v11 9 = (v 9) := hk9_v11.trans hq9_v5
    have zq9_v11 := congrArg Int32.toInt hq9_v11
    refine lv_aload_n hx hb dX11_feed_25 rfl (lv_at hl 0 rfl) ?_
    refine lv_iload_n hx hb dX11_feed_26 rfl (lv_at hl 3 rfl) ?_
    refine cbVv (n := 1) (rest := []) hx hb hml hown hts hE hP hD hS hA (sY_X11_four_1 NF l dC dI cy y0 r p3 v11 f12 w13 g14 hIv11 hCf12 hRf12 (by show (v11 0).toInt ≤ 1596; omega)) k_1563 k_1565 k_40 k_114 k_1566 (by decide +kernel) ⟨Nat.le_of_ble_eq_true rfl, Nat.le_of_ble_eq_true rfl⟩ 0 11 rfl rfl (rfl) hl.1 rfl (Nat.le_of_ble_eq_true rfl) dX11_feed_27 (fun u H locs hw hP hD hS => ?_)
    obtain ⟨hG16, hw⟩ := hw
    obtain ⟨v17, f18, w19, g20⟩ := u
    obtain ⟨kV_v17, kF_f18, hIv17, hCf18, hRf18, hk1_v17, hk2_v17, hk3_v17, hk4_v17, hk5_v17, hk8_v17, hk9_v17, hk10_v17, hk13_v17, hk14_v17, hk15_v17, hk17_v17, hk18_v17, hk24_v17, hk25_v17, hk35_v17, hk36_v17, hk38_v17, hk39_v17, pv21⟩ := hw
    have hM_v17 : KV [0] v17 v := KV.tr kV_v17 hM_v11 rfl
    have hA_f18 : KF [0] f18 f := KF.tr kF_f18 hA_f12 rfl
    have hP : va_P (dC, dI) vwCl (YW cy y0 r v17 f18 w19 g20) H := hP
    have hD : va_D A (YW cy y0 r v17 f18 w19 g20) := hD
    have b0_v17 : 0 ≤ (v17 0).toInt ∧ (v17 0).toInt ≤ 1600 := YIb.b hIv17.1 0 (by decide)
    have pv21 : (v17 0).toInt = (v11 0).toInt + 4 := pv21
    have hUv17 : (v17 35).toInt + (v17 36).toInt ≤ 40 := hIv17.2
    have hq9_v17 : v17 9 = (v 9) := hk9_v17.trans hq9_v11
    have zq9_v17 := congrArg Int32.toInt hq9_v17
    refine lv_aload_n hx hb dX11_feed_30 rfl (lv_at hl 0 rfl) ?_
    refine lv_iload hx hb dX11_feed_31 (lv_at hl 4 rfl) ?_
    refine cbVv (n := 1) (rest := []) hx hb hml hown hts hE hP hD hS hA (sY_X11_four_1 NF l dC dI cy y0 r p4 v17 f18 w19 g20 hIv17 hCf18 hRf18 (by show (v17 0).toInt ≤ 1596; omega)) k_1563 k_1565 k_40 k_114 k_1566 (by decide +kernel) ⟨Nat.le_of_ble_eq_true rfl, Nat.le_of_ble_eq_true rfl⟩ 0 11 rfl rfl (rfl) hl.1 rfl (Nat.le_of_ble_eq_true rfl) dX11_feed_33 (fun u H locs hw hP hD hS => ?_)
    obtain ⟨hG22, hw⟩ := hw
    obtain ⟨v23, f24, w25, g26⟩ := u
    obtain ⟨kV_v23, kF_f24, hIv23, hCf24, hRf24, hk1_v23, hk2_v23, hk3_v23, hk4_v23, hk5_v23, hk8_v23, hk9_v23, hk10_v23, hk13_v23, hk14_v23, hk15_v23, hk17_v23, hk18_v23, hk24_v23, hk25_v23, hk35_v23, hk36_v23, hk38_v23, hk39_v23, pv27⟩ := hw
    have hM_v23 : KV [0] v23 v := KV.tr kV_v23 hM_v17 rfl
    have hA_f24 : KF [0] f24 f := KF.tr kF_f24 hA_f18 rfl
    have hP : va_P (dC, dI) vwCl (YW cy y0 r v23 f24 w25 g26) H := hP
    have hD : va_D A (YW cy y0 r v23 f24 w25 g26) := hD
    have b0_v23 : 0 ≤ (v23 0).toInt ∧ (v23 0).toInt ≤ 1600 := YIb.b hIv23.1 0 (by decide)
    have pv27 : (v23 0).toInt = (v17 0).toInt + 4 := pv27
    have hUv23 : (v23 35).toInt + (v23 36).toInt ≤ 40 := hIv23.2
    have hq9_v23 : v23 9 = (v 9) := hk9_v23.trans hq9_v17
    have zq9_v23 := congrArg Int32.toInt hq9_v23
    refine lv_aload_n hx hb dX11_feed_36 rfl (lv_at hl 0 rfl) ?_
    refine lv_iload hx hb dX11_feed_37 (lv_at hl 5 rfl) ?_
    refine cbVv (n := 1) (rest := []) hx hb hml hown hts hE hP hD hS hA (sY_X11_four_1 NF l dC dI cy y0 r p5 v23 f24 w25 g26 hIv23 hCf24 hRf24 (by show (v23 0).toInt ≤ 1596; omega)) k_1563 k_1565 k_40 k_114 k_1566 (by decide +kernel) ⟨Nat.le_of_ble_eq_true rfl, Nat.le_of_ble_eq_true rfl⟩ 0 11 rfl rfl (rfl) hl.1 rfl (Nat.le_of_ble_eq_true rfl) dX11_feed_39 (fun u H locs hw hP hD hS => ?_)
    obtain ⟨hG28, hw⟩ := hw
    obtain ⟨v29, f30, w31, g32⟩ := u
    obtain ⟨kV_v29, kF_f30, hIv29, hCf30, hRf30, hk1_v29, hk2_v29, hk3_v29, hk4_v29, hk5_v29, hk8_v29, hk9_v29, hk10_v29, hk13_v29, hk14_v29, hk15_v29, hk17_v29, hk18_v29, hk24_v29, hk25_v29, hk35_v29, hk36_v29, hk38_v29, hk39_v29, pv33⟩ := hw
    have hM_v29 : KV [0] v29 v := KV.tr kV_v29 hM_v23 rfl
    have hA_f30 : KF [0] f30 f := KF.tr kF_f30 hA_f24 rfl
    have hP : va_P (dC, dI) vwCl (YW cy y0 r v29 f30 w31 g32) H := hP
    have hD : va_D A (YW cy y0 r v29 f30 w31 g32) := hD
    have b0_v29 : 0 ≤ (v29 0).toInt ∧ (v29 0).toInt ≤ 1600 := YIb.b hIv29.1 0 (by decide)
    have pv33 : (v29 0).toInt = (v23 0).toInt + 4 := pv33
    have hUv29 : (v29 35).toInt + (v29 36).toInt ≤ 40 := hIv29.2
    have hq9_v29 : v29 9 = (v 9) := hk9_v29.trans hq9_v23
    have zq9_v29 := congrArg Int32.toInt hq9_v29
    refine lv_aload_n hx hb dX11_feed_42 rfl (lv_at hl 0 rfl) ?_
    refine va_get (D := (dC, dI)) (ci := 11) (v := .int (v29 0)) (C := RX11) (T := TX11) (N := 79) hx hb hts inB_11 hown hE.1 hP 0 rfl rfl 1 (by decide) (hts _ k_1321) (fun _ h9 => h9) rfl dX11_feed_43 ?_
    have b0_v29 : 0 ≤ (v29 0).toInt ∧ (v29 0).toInt ≤ 1600 := YIb.b hIv29.1 0 (by decide)
    exact ret (v29 0) (v29, f30, w31, g32) _ _ _ _ _ _ rfl ⟨(gsY_X11_feed_1_q0 et1 c3 hG4 hG10 hG16 hG22 hG28), hM_v29, hA_f30, hIv29, hCf30, hRf30, (hk1_v29.trans (hk1_v23.trans (hk1_v17.trans (hk1_v11.trans hk1_v5)))), (hk2_v29.trans (hk2_v23.trans (hk2_v17.trans (hk2_v11.trans hk2_v5)))), (hk3_v29.trans (hk3_v23.trans (hk3_v17.trans (hk3_v11.trans hk3_v5)))), (hk4_v29.trans (hk4_v23.trans (hk4_v17.trans (hk4_v11.trans hk4_v5)))), (hk5_v29.trans (hk5_v23.trans (hk5_v17.trans (hk5_v11.trans hk5_v5)))), (hk8_v29.trans (hk8_v23.trans (hk8_v17.trans (hk8_v11.trans hk8_v5)))), (hk9_v29.trans (hk9_v23.trans (hk9_v17.trans (hk9_v11.trans hk9_v5)))), (hk10_v29.trans (hk10_v23.trans (hk10_v17.trans (hk10_v11.trans hk10_v5)))), (hk13_v29.trans (hk13_v23.trans (hk13_v17.trans (hk13_v11.trans hk13_v5)))), (hk14_v29.trans (hk14_v23.trans (hk14_v17.trans (hk14_v11.trans hk14_v5)))), (hk15_v29.trans (hk15_v23.trans (hk15_v17.trans (hk15_v11.trans hk15_v5)))), (hk17_v29.trans (hk17_v23.trans (hk17_v17.trans (hk17_v11.trans hk17_v5)))), (hk18_v29.trans (hk18_v23.trans (hk18_v17.trans (hk18_v11.trans hk18_v5)))), (hk24_v29.trans (hk24_v23.trans (hk24_v17.trans (hk24_v11.trans hk24_v5)))), (hk25_v29.trans (hk25_v23.trans (hk25_v17.trans (hk25_v11.trans hk25_v5)))), (hk35_v29.trans (hk35_v23.trans (hk35_v17.trans (hk35_v11.trans hk35_v5)))), (hk36_v29.trans (hk36_v23.trans (hk36_v17.trans (hk36_v11.trans hk36_v5)))), (hk38_v29.trans (hk38_v23.trans (hk38_v17.trans (hk38_v11.trans hk38_v5)))), (hk39_v29.trans (hk39_v23.trans (hk39_v17.trans (hk39_v11.trans hk39_v5))))⟩ hP hD hS dX11_feed_46 (Nat.le_refl _) (Nat.le_refl _)
  · skip
    have zc3 : ¬ (t1.toInt ≤ 1600) := by rw [fa_le, show (1600 : Int32).toInt = 1600 from by decide] at c3; exact c3
    refine lv_iconst (v := (-1)) hx hb dX11_feed_13 (by decide) ?_
    exact ret (-1) (v, f, w, g) _ _ _ _ _ _ rfl ⟨(gsY_X11_feed_1_q1 et1 c3), hM_v, hA_f, hIv, hCf, hRf, rfl, rfl, rfl, rfl, rfl, rfl, rfl, rfl, rfl, rfl, rfl, rfl, rfl, rfl, rfl, rfl, rfl, rfl, rfl⟩ hP hD hS dX11_feed_14 (Nat.le_refl _) (Nat.le_refl _)
set_option maxHeartbeats 4000000 in
set_option maxRecDepth 100000 in
theorem sY_X11_end_1 (NF : Nat) (l : Launch) (dC : Nat → ClassId) (dI : Nat → Nat → Nat) (cy : Nat → ClassId) (y0 : Nat) (r : Nat → Nat) (p1 : Int32) (v : Nat → Int32) (f : Nat → Nat → Int32) (w : Int64) (g : Nat → Int64) (hIv : YI v) (hCf : YC f) (hRf : progOK (f 4) (f 5) (v 9).toInt.toNat)  : ctI l (dC, dI) cy yX11_end cX11_end 2 .int 1 60 0 0 ((Nat → Int32) × (Nat → Nat → Int32) × (Int64) × (Nat → Int64)) [.ref y0, .int p1] (YW cy y0 r v f w g) (fun r u => gsY_X11_end_1 NF p1 v f w g = (r, u) ∧ KV [0] u.1 v ∧ KF [] u.2.1 f ∧ YI u.1 ∧ YC u.2.1 ∧ progOK (u.2.1 4) (u.2.1 5) (u.1 9).toInt.toNat ∧ u.1 1 = v 1 ∧ u.1 2 = v 2 ∧ u.1 3 = v 3 ∧ u.1 4 = v 4 ∧ u.1 5 = v 5 ∧ u.1 8 = v 8 ∧ u.1 9 = v 9 ∧ u.1 10 = v 10 ∧ u.1 13 = v 13 ∧ u.1 14 = v 14 ∧ u.1 15 = v 15 ∧ u.1 17 = v 17 ∧ u.1 18 = v 18 ∧ u.1 24 = v 24 ∧ u.1 25 = v 25 ∧ u.1 35 = v 35 ∧ u.1 36 = v 36 ∧ u.1 38 = v 38 ∧ u.1 39 = v 39) (fun u => YW cy y0 r u.1 u.2.1 u.2.2.1 u.2.2.2) := by
  refine ctI_of (by decide) (Nat.le_of_ble_eq_true rfl) (fun p e s m below meth c A ls Q hx hb hml hts hown hE hP hD hA hl ret => ?_)
  have hUv : (v 35).toInt + (v 36).toInt ≤ 40 := hIv.2
  have hM_v : KV [0] v v := fun _ _ => rfl
  have hA_f : KF [] f f := fun _ _ => rfl
  have hown : s.vm.findClass RX11 = some m.cls := hown
  have hS : va_S A s.heap s.heap [] := va_S.rf
  have hl : lv_has ls 2 [(0, .ref y0), (1, .int p1)] := hl
  refine lv_iload_n hx hb dX11_end_0 rfl (lv_at hl 1 rfl) ?_
  refine lv_if_lt (tgt := 12) hx hb dX11_end_1 (by decide) (fun c1 => ?_) (fun c1 => ?_)
  · skip
    have zc1 : p1.toInt < 0 := by rw [fa_lt, show (0 : Int32).toInt = 0 from by decide] at c1; exact c1
    refine lv_iconst (v := (-1)) hx hb dX11_end_12 (by decide) ?_
    exact ret (-1) (v, f, w, g) _ _ _ _ _ _ rfl ⟨(gsY_X11_end_1_q0 c1), hM_v, hA_f, hIv, hCf, hRf, rfl, rfl, rfl, rfl, rfl, rfl, rfl, rfl, rfl, rfl, rfl, rfl, rfl, rfl, rfl, rfl, rfl, rfl, rfl⟩ hP hD hS dX11_end_13 (Nat.le_refl _) (Nat.le_refl _)
  · skip
    have zc1 : ¬ (p1.toInt < 0) := by rw [fa_lt, show (0 : Int32).toInt = 0 from by decide] at c1; exact c1
    refine lv_iload_n hx hb dX11_end_4 rfl (lv_at hl 1 rfl) ?_
    refine lv_aload_n hx hb dX11_end_5 rfl (lv_at hl 0 rfl) ?_
    refine va_get (D := (dC, dI)) (ci := 11) (v := .int (v 0)) (C := RX11) (T := TX11) (N := 79) hx hb hts inB_11 hown hE.1 hP 0 rfl rfl 1 (by decide) (hts _ k_1321) (fun _ h9 => h9) rfl dX11_end_6 ?_
    have b0_v : 0 ≤ (v 0).toInt ∧ (v 0).toInt ≤ 1600 := YIb.b hIv.1 0 (by decide)
    refine lv_icmp_le (tgt := 14) hx hb dX11_end_9 (by decide) (fun c2 => ?_) (fun c2 => ?_)
    · skip
      have zc2 : p1.toInt ≤ (v 0).toInt := by rw [fa_le] at c2; exact c2
      have rg3 := fb_rng p1
      have rg4 := fb_rng (v 0)
      refine lv_aload_n hx hb dX11_end_14 rfl (lv_at hl 0 rfl) ?_
      refine lv_iload_n hx hb dX11_end_15 rfl (lv_at hl 1 rfl) ?_
      refine va_put (D := (dC, dI)) (ci := 11) (v := .int p1) (ty := tyX11 1) (C := RX11) (T := TX11) (N := 79) hx hb hts inB_11 tyX11 tyX11_ok nmX11 hown hE.1 hP hD hS 0 rfl rfl 1 (by decide) (hts _ k_1321) (fun _ h9 => h9) rfl (tyX11_ok 1 (by decide)) rfl rfl (Nat.le_of_ble_eq_true rfl) dX11_end_16 (fun H locs hP hD hS => ?_)
      have hP : va_P (dC, dI) vwCl (YW cy y0 r (upd v 0 p1) f w g) H := hP
      have hD : va_D A (YW cy y0 r (upd v 0 p1) f w g) := hD
      refine lv_iload_n hx hb dX11_end_19 rfl (lv_at hl 1 rfl) ?_
      exact ret p1 ((upd v 0 p1), f, w, g) _ _ _ _ _ _ rfl ⟨(gsY_X11_end_1_q1 c1 c2), (KV.up (j := 0) (x := p1) hM_v rfl), hA_f, ⟨(YIb.upd (j := 0) (x := p1) hIv.1 (show (0 : Int) ≤ p1.toInt by omega) (show p1.toInt ≤ (1600 : Int) by omega)), hIv.2⟩, hCf, hRf, rfl, rfl, rfl, rfl, rfl, rfl, rfl, rfl, rfl, rfl, rfl, rfl, rfl, rfl, rfl, rfl, rfl, rfl, rfl⟩ hP hD hS dX11_end_20 (Nat.le_refl _) (Nat.le_refl _)
    · skip
      have zc2 : ¬ (p1.toInt ≤ (v 0).toInt) := by rw [fa_le] at c2; exact c2
      have rg5 := fb_rng p1
      have rg6 := fb_rng (v 0)
      refine lv_iconst (v := (-1)) hx hb dX11_end_12 (by decide) ?_
      exact ret (-1) (v, f, w, g) _ _ _ _ _ _ rfl ⟨(gsY_X11_end_1_q2 c1 c2), hM_v, hA_f, hIv, hCf, hRf, rfl, rfl, rfl, rfl, rfl, rfl, rfl, rfl, rfl, rfl, rfl, rfl, rfl, rfl, rfl, rfl, rfl, rfl, rfl⟩ hP hD hS dX11_end_13 (Nat.le_refl _) (Nat.le_refl _)
set_option maxHeartbeats 4000000 in
set_option maxRecDepth 100000 in
theorem sY_X11_fault_1 (NF : Nat) (l : Launch) (dC : Nat → ClassId) (dI : Nat → Nat → Nat) (cy : Nat → ClassId) (y0 : Nat) (r : Nat → Nat) (p1 : Int32) (v : Nat → Int32) (f : Nat → Nat → Int32) (w : Int64) (g : Nat → Int64) (hIv : YI v) (hCf : YC f) (hRf : progOK (f 4) (f 5) (v 9).toInt.toNat)  : ctI l (dC, dI) cy yX11_fault cX11_fault 2 .int 1 60 0 0 Unit [.ref y0, .int p1] (YW cy y0 r v f w g) (fun r u => gsY_X11_fault_1 NF p1 v f w g = r) (fun u => YW cy y0 r v f w g) := by
  refine ctI_of (by decide) (Nat.le_of_ble_eq_true rfl) (fun p e s m below meth c A ls Q hx hb hml hts hown hE hP hD hA hl ret => ?_)
  have hUv : (v 35).toInt + (v 36).toInt ≤ 40 := hIv.2
  have hown : s.vm.findClass RX11 = some m.cls := hown
  have hS : va_S A s.heap s.heap [] := va_S.rf
  have hl : lv_has ls 2 [(0, .ref y0), (1, .int p1)] := hl
  refine lv_iload_n hx hb dX11_fault_0 rfl (lv_at hl 1 rfl) ?_
  refine lv_if_ne (tgt := 11) hx hb dX11_fault_1 (by decide) (fun c1 => ?_) (fun c1 => ?_)
  · skip
    have zc1 : ¬ (p1.toInt = 0) := by rw [fa_eq, show (0 : Int32).toInt = 0 from by decide] at c1; exact c1
    refine lv_iload_n hx hb dX11_fault_11 rfl (lv_at hl 1 rfl) ?_
    refine lv_iconst (v := 1) hx hb dX11_fault_12 (by decide) ?_
    refine lv_icmp_ne (tgt := 23) hx hb dX11_fault_13 (by decide) (fun c2 => ?_) (fun c2 => ?_)
    · skip
      have zc2 : ¬ (p1.toInt = 1) := by rw [fa_eq, show (1 : Int32).toInt = 1 from by decide] at c2; exact c2
      refine lv_iconst (v := (-1)) hx hb dX11_fault_23 (by decide) ?_
      exact ret (-1) () _ _ _ _ _ _ rfl (gsY_X11_fault_1_q0 c1 c2) hP hD hS dX11_fault_24 (Nat.le_refl _) (Nat.le_refl _)
    · skip
      have zc2 : p1.toInt = 1 := by rw [fa_eq, show (1 : Int32).toInt = 1 from by decide] at c2; exact c2
      refine lv_aload_n hx hb dX11_fault_16 rfl (lv_at hl 0 rfl) ?_
      refine va_get (D := (dC, dI)) (ci := 11) (v := .int (v 2)) (C := RX11) (T := TX11) (N := 79) hx hb hts inB_11 hown hE.1 hP 0 rfl rfl 3 (by decide) (hts _ k_1323) (fun _ h9 => h9) rfl dX11_fault_17 ?_
      refine lv_goto (tgt := 24) hx hb dX11_fault_20 (by decide) ?_
      exact ret (v 2) () _ _ _ _ _ _ rfl (gsY_X11_fault_1_q1 c1 c2) hP hD hS dX11_fault_24 (Nat.le_refl _) (Nat.le_refl _)
  · skip
    have zc1 : p1.toInt = 0 := by rw [fa_eq, show (0 : Int32).toInt = 0 from by decide] at c1; exact c1
    refine lv_aload_n hx hb dX11_fault_4 rfl (lv_at hl 0 rfl) ?_
    refine va_get (D := (dC, dI)) (ci := 11) (v := .int (v 1)) (C := RX11) (T := TX11) (N := 79) hx hb hts inB_11 hown hE.1 hP 0 rfl rfl 2 (by decide) (hts _ k_1322) (fun _ h9 => h9) rfl dX11_fault_5 ?_
    have b1_v : 0 ≤ (v 1).toInt ∧ (v 1).toInt ≤ 4 := YIb.b hIv.1 1 (by decide)
    refine lv_goto (tgt := 24) hx hb dX11_fault_8 (by decide) ?_
    exact ret (v 1) () _ _ _ _ _ _ rfl (gsY_X11_fault_1_q2 c1) hP hD hS dX11_fault_24 (Nat.le_refl _) (Nat.le_refl _)
set_option maxHeartbeats 4000000 in
set_option maxRecDepth 100000 in
theorem sY_X11_here_1 (NF : Nat) (l : Launch) (dC : Nat → ClassId) (dI : Nat → Nat → Nat) (cy : Nat → ClassId) (y0 : Nat) (r : Nat → Nat) (p1 : Int32) (v : Nat → Int32) (f : Nat → Nat → Int32) (w : Int64) (g : Nat → Int64) (hIv : YI v) (hCf : YC f) (hRf : progOK (f 4) (f 5) (v 9).toInt.toNat) (hp1 : (0 : Int) ≤ p1.toInt ∧ p1.toInt ≤ 1600) : ctI l (dC, dI) cy yX11_here cX11_here 2 .int 1 60 0 0 Unit [.ref y0, .int p1] (YW cy y0 r v f w g) (fun r u => gsY_X11_here_1 NF p1 v f w g = r ∧ (r.toInt < 0 ∨ (v 3).toInt + p1.toInt < (v 4).toInt)) (fun u => YW cy y0 r v f w g) := by
  refine ctI_of (by decide) (Nat.le_of_ble_eq_true rfl) (fun p e s m below meth c A ls Q hx hb hml hts hown hE hP hD hA hl ret => ?_)
  have hUv : (v 35).toInt + (v 36).toInt ≤ 40 := hIv.2
  have hown : s.vm.findClass RX11 = some m.cls := hown
  have hS : va_S A s.heap s.heap [] := va_S.rf
  have hl : lv_has ls 2 [(0, .ref y0), (1, .int p1)] := hl
  refine lv_aload_n hx hb dX11_here_0 rfl (lv_at hl 0 rfl) ?_
  refine va_get (D := (dC, dI)) (ci := 11) (v := .int (v 3)) (C := RX11) (T := TX11) (N := 79) hx hb hts inB_11 hown hE.1 hP 0 rfl rfl 4 (by decide) (hts _ k_1324) (fun _ h9 => h9) rfl dX11_here_1 ?_
  have b3_v : 0 ≤ (v 3).toInt ∧ (v 3).toInt ≤ 1600 := YIb.b hIv.1 3 (by decide)
  refine lv_iload_n hx hb dX11_here_4 rfl (lv_at hl 1 rfl) ?_
  refine lv_iadd hx hb dX11_here_5 ?_
  refine lv_topi (fun t1 et1 => ?_)
  have rg2 := fb_rng (v 3)
  have rg3 := fb_rng p1
  have zt1 : t1.toInt = (v 3).toInt + p1.toInt := by rw [et1]; exact add_i rfl rfl (by omega) (by omega)
  refine lv_aload_n hx hb dX11_here_6 rfl (lv_at hl 0 rfl) ?_
  refine va_get (D := (dC, dI)) (ci := 11) (v := .int (v 4)) (C := RX11) (T := TX11) (N := 79) hx hb hts inB_11 hown hE.1 hP 0 rfl rfl 5 (by decide) (hts _ k_1325) (fun _ h9 => h9) rfl dX11_here_7 ?_
  have b4_v : 0 ≤ (v 4).toInt ∧ (v 4).toInt ≤ 1600 := YIb.b hIv.1 4 (by decide)
  refine lv_icmp_ge (tgt := 27) hx hb dX11_here_10 (by decide) (fun c4 => ?_) (fun c4 => ?_)
  · skip
    have zc4 : (v 4).toInt ≤ t1.toInt := by rw [fa_le] at c4; exact c4
    have rg5 := fb_rng t1
    have rg6 := fb_rng (v 4)
    refine lv_iconst (v := (-1)) hx hb dX11_here_27 (by decide) ?_
    exact ret (-1) () _ _ _ _ _ _ rfl ⟨(gsY_X11_here_1_q0 et1 c4), (by have q9 : ((-1) : Int32).toInt = -1 := (by decide); show ((-1) : Int32).toInt < 0 ∨ (v 3).toInt + p1.toInt < (v 4).toInt; omega)⟩ hP hD hS dX11_here_28 (Nat.le_refl _) (Nat.le_refl _)
  · skip
    have zc4 : ¬ ((v 4).toInt ≤ t1.toInt) := by rw [fa_le] at c4; exact c4
    have rg7 := fb_rng t1
    have rg8 := fb_rng (v 4)
    refine lv_aload_n hx hb dX11_here_13 rfl (lv_at hl 0 rfl) ?_
    refine va_get (D := (dC, dI)) (ci := 11) (v := .ref (r 0)) (C := RX11) (T := TX11) (N := 79) hx hb hts inB_11 hown hE.1 hP 0 rfl rfl 0 (by decide) (hts _ k_1320) (fun _ h9 => h9) rfl dX11_here_14 ?_
    refine lv_aload_n hx hb dX11_here_17 rfl (lv_at hl 0 rfl) ?_
    refine va_get (D := (dC, dI)) (ci := 11) (v := .int (v 3)) (C := RX11) (T := TX11) (N := 79) hx hb hts inB_11 hown hE.1 hP 0 rfl rfl 4 (by decide) (hts _ k_1324) (fun _ h9 => h9) rfl dX11_here_18 ?_
    refine lv_iload_n hx hb dX11_here_21 rfl (lv_at hl 1 rfl) ?_
    refine lv_iadd hx hb dX11_here_22 ?_
    refine tI (y := t1) et1.symm ?_
    refine ldI hx hb hE hP 1 rfl (vp_in_iff.mpr ⟨by omega, by omega⟩) rfl rfl dX11_here_23 ?_
    refine lv_topi (fun t9 et9 => ?_)
    refine lv_goto (tgt := 28) hx hb dX11_here_24 (by decide) ?_
    exact ret t9 () _ _ _ _ _ _ rfl ⟨(gsY_X11_here_1_q1 et1 c4 et9), (by show t9.toInt < 0 ∨ (v 3).toInt + p1.toInt < (v 4).toInt; omega)⟩ hP hD hS dX11_here_28 (Nat.le_refl _) (Nat.le_refl _)
set_option maxHeartbeats 4000000 in
set_option maxRecDepth 100000 in
theorem sY_X11_isLetter_1 (NF : Nat) (l : Launch) (dC : Nat → ClassId) (dI : Nat → Nat → Nat) (cy : Nat → ClassId) (y0 : Nat) (r : Nat → Nat) (p0 : Int32) (v : Nat → Int32) (f : Nat → Nat → Int32) (w : Int64) (g : Nat → Int64) (hIv : YI v) (hCf : YC f) (hRf : progOK (f 4) (f 5) (v 9).toInt.toNat)  : ctI l (dC, dI) cy yX11_isLetter cX11_isLetter 1 .boolean 1 60 0 0 Unit [.int p0] (YW cy y0 r v f w g) (fun r u => gsY_X11_isLetter_1 NF p0 v f w g = r ∧ ((r = 1 ∧ 97 ≤ p0.toInt) ∨ (r = 0))) (fun u => YW cy y0 r v f w g) := by
  refine ctI_of (by decide) (Nat.le_of_ble_eq_true rfl) (fun p e s m below meth c A ls Q hx hb hml hts hown hE hP hD hA hl ret => ?_)
  have hUv : (v 35).toInt + (v 36).toInt ≤ 40 := hIv.2
  have hown : s.vm.findClass RX11 = some m.cls := hown
  have hS : va_S A s.heap s.heap [] := va_S.rf
  have hl : lv_has ls 1 [(0, .int p0)] := hl
  refine lv_iload_n hx hb dX11_isLetter_0 rfl (lv_at hl 0 rfl) ?_
  refine lv_bipush (v := 97) hx hb dX11_isLetter_1 (by decide) ?_
  refine lv_icmp_lt (tgt := 16) hx hb dX11_isLetter_3 (by decide) (fun c1 => ?_) (fun c1 => ?_)
  · skip
    have zc1 : p0.toInt < 97 := by rw [fa_lt, show (97 : Int32).toInt = 97 from by decide] at c1; exact c1
    refine lv_iconst (v := 0) hx hb dX11_isLetter_16 (by decide) ?_
    exact ret 0 () _ _ _ _ _ _ rfl ⟨(gsY_X11_isLetter_1_q0 c1), (Or.inr rfl)⟩ hP hD hS dX11_isLetter_17 (Nat.le_refl _) (Nat.le_refl _)
  · skip
    have zc1 : ¬ (p0.toInt < 97) := by rw [fa_lt, show (97 : Int32).toInt = 97 from by decide] at c1; exact c1
    refine lv_iload_n hx hb dX11_isLetter_6 rfl (lv_at hl 0 rfl) ?_
    refine lv_bipush (v := 122) hx hb dX11_isLetter_7 (by decide) ?_
    refine lv_icmp_gt (tgt := 16) hx hb dX11_isLetter_9 (by decide) (fun c2 => ?_) (fun c2 => ?_)
    · skip
      have zc2 : 122 < p0.toInt := by rw [fa_lt, show (122 : Int32).toInt = 122 from by decide] at c2; exact c2
      refine lv_iconst (v := 0) hx hb dX11_isLetter_16 (by decide) ?_
      exact ret 0 () _ _ _ _ _ _ rfl ⟨(gsY_X11_isLetter_1_q1 c1 c2), (Or.inr rfl)⟩ hP hD hS dX11_isLetter_17 (Nat.le_refl _) (Nat.le_refl _)
    · skip
      have zc2 : ¬ (122 < p0.toInt) := by rw [fa_lt, show (122 : Int32).toInt = 122 from by decide] at c2; exact c2
      refine lv_iconst (v := 1) hx hb dX11_isLetter_12 (by decide) ?_
      refine lv_goto (tgt := 17) hx hb dX11_isLetter_13 (by decide) ?_
      exact ret 1 () _ _ _ _ _ _ rfl ⟨(gsY_X11_isLetter_1_q2 c1 c2), (Or.inl ⟨rfl, by omega⟩)⟩ hP hD hS dX11_isLetter_17 (Nat.le_refl _) (Nat.le_refl _)
set_option maxHeartbeats 4000000 in
set_option maxRecDepth 100000 in
theorem sY_X11_isDigit_1 (NF : Nat) (l : Launch) (dC : Nat → ClassId) (dI : Nat → Nat → Nat) (cy : Nat → ClassId) (y0 : Nat) (r : Nat → Nat) (p0 : Int32) (v : Nat → Int32) (f : Nat → Nat → Int32) (w : Int64) (g : Nat → Int64) (hIv : YI v) (hCf : YC f) (hRf : progOK (f 4) (f 5) (v 9).toInt.toNat)  : ctI l (dC, dI) cy yX11_isDigit cX11_isDigit 1 .boolean 1 60 0 0 Unit [.int p0] (YW cy y0 r v f w g) (fun r u => gsY_X11_isDigit_1 NF p0 v f w g = r ∧ ((r = 1 ∧ 48 ≤ p0.toInt) ∨ (r = 0))) (fun u => YW cy y0 r v f w g) := by
  refine ctI_of (by decide) (Nat.le_of_ble_eq_true rfl) (fun p e s m below meth c A ls Q hx hb hml hts hown hE hP hD hA hl ret => ?_)
  have hUv : (v 35).toInt + (v 36).toInt ≤ 40 := hIv.2
  have hown : s.vm.findClass RX11 = some m.cls := hown
  have hS : va_S A s.heap s.heap [] := va_S.rf
  have hl : lv_has ls 1 [(0, .int p0)] := hl
  refine lv_iload_n hx hb dX11_isDigit_0 rfl (lv_at hl 0 rfl) ?_
  refine lv_bipush (v := 48) hx hb dX11_isDigit_1 (by decide) ?_
  refine lv_icmp_lt (tgt := 16) hx hb dX11_isDigit_3 (by decide) (fun c1 => ?_) (fun c1 => ?_)
  · skip
    have zc1 : p0.toInt < 48 := by rw [fa_lt, show (48 : Int32).toInt = 48 from by decide] at c1; exact c1
    refine lv_iconst (v := 0) hx hb dX11_isDigit_16 (by decide) ?_
    exact ret 0 () _ _ _ _ _ _ rfl ⟨(gsY_X11_isDigit_1_q0 c1), (Or.inr rfl)⟩ hP hD hS dX11_isDigit_17 (Nat.le_refl _) (Nat.le_refl _)
  · skip
    have zc1 : ¬ (p0.toInt < 48) := by rw [fa_lt, show (48 : Int32).toInt = 48 from by decide] at c1; exact c1
    refine lv_iload_n hx hb dX11_isDigit_6 rfl (lv_at hl 0 rfl) ?_
    refine lv_bipush (v := 57) hx hb dX11_isDigit_7 (by decide) ?_
    refine lv_icmp_gt (tgt := 16) hx hb dX11_isDigit_9 (by decide) (fun c2 => ?_) (fun c2 => ?_)
    · skip
      have zc2 : 57 < p0.toInt := by rw [fa_lt, show (57 : Int32).toInt = 57 from by decide] at c2; exact c2
      refine lv_iconst (v := 0) hx hb dX11_isDigit_16 (by decide) ?_
      exact ret 0 () _ _ _ _ _ _ rfl ⟨(gsY_X11_isDigit_1_q1 c1 c2), (Or.inr rfl)⟩ hP hD hS dX11_isDigit_17 (Nat.le_refl _) (Nat.le_refl _)
    · skip
      have zc2 : ¬ (57 < p0.toInt) := by rw [fa_lt, show (57 : Int32).toInt = 57 from by decide] at c2; exact c2
      refine lv_iconst (v := 1) hx hb dX11_isDigit_12 (by decide) ?_
      refine lv_goto (tgt := 17) hx hb dX11_isDigit_13 (by decide) ?_
      exact ret 1 () _ _ _ _ _ _ rfl ⟨(gsY_X11_isDigit_1_q2 c1 c2), (Or.inl ⟨rfl, by omega⟩)⟩ hP hD hS dX11_isDigit_17 (Nat.le_refl _) (Nat.le_refl _)
set_option maxHeartbeats 4000000 in
set_option maxRecDepth 100000 in
theorem sY_X11_isSign_1 (NF : Nat) (l : Launch) (dC : Nat → ClassId) (dI : Nat → Nat → Nat) (cy : Nat → ClassId) (y0 : Nat) (r : Nat → Nat) (p0 : Int32) (v : Nat → Int32) (f : Nat → Nat → Int32) (w : Int64) (g : Nat → Int64) (hIv : YI v) (hCf : YC f) (hRf : progOK (f 4) (f 5) (v 9).toInt.toNat)  : ctI l (dC, dI) cy yX11_isSign cX11_isSign 1 .boolean 1 60 0 0 Unit [.int p0] (YW cy y0 r v f w g) (fun r u => gsY_X11_isSign_1 NF p0 v f w g = r ∧ ((r = 1) ∨ (r = 0))) (fun u => YW cy y0 r v f w g) := by
  refine ctI_of (by decide) (Nat.le_of_ble_eq_true rfl) (fun p e s m below meth c A ls Q hx hb hml hts hown hE hP hD hA hl ret => ?_)
  have hUv : (v 35).toInt + (v 36).toInt ≤ 40 := hIv.2
  have hown : s.vm.findClass RX11 = some m.cls := hown
  have hS : va_S A s.heap s.heap [] := va_S.rf
  have hl : lv_has ls 1 [(0, .int p0)] := hl
  refine lv_iload_n hx hb dX11_isSign_0 rfl (lv_at hl 0 rfl) ?_
  refine lv_bipush (v := 59) hx hb dX11_isSign_1 (by decide) ?_
  refine lv_icmp_eq (tgt := 66) hx hb dX11_isSign_3 (by decide) (fun c1 => ?_) (fun c1 => ?_)
  · skip
    have zc1 : p0.toInt = 59 := by rw [fa_eq, show (59 : Int32).toInt = 59 from by decide] at c1; exact c1
    refine lv_iconst (v := 1) hx hb dX11_isSign_66 (by decide) ?_
    refine lv_goto (tgt := 71) hx hb dX11_isSign_67 (by decide) ?_
    exact ret 1 () _ _ _ _ _ _ rfl ⟨(gsY_X11_isSign_1_q0 c1), (Or.inl rfl)⟩ hP hD hS dX11_isSign_71 (Nat.le_refl _) (Nat.le_refl _)
  · skip
    have zc1 : ¬ (p0.toInt = 59) := by rw [fa_eq, show (59 : Int32).toInt = 59 from by decide] at c1; exact c1
    refine lv_iload_n hx hb dX11_isSign_6 rfl (lv_at hl 0 rfl) ?_
    refine lv_bipush (v := 40) hx hb dX11_isSign_7 (by decide) ?_
    refine lv_icmp_eq (tgt := 66) hx hb dX11_isSign_9 (by decide) (fun c2 => ?_) (fun c2 => ?_)
    · skip
      have zc2 : p0.toInt = 40 := by rw [fa_eq, show (40 : Int32).toInt = 40 from by decide] at c2; exact c2
      refine lv_iconst (v := 1) hx hb dX11_isSign_66 (by decide) ?_
      refine lv_goto (tgt := 71) hx hb dX11_isSign_67 (by decide) ?_
      exact ret 1 () _ _ _ _ _ _ rfl ⟨(gsY_X11_isSign_1_q1 c1 c2), (Or.inl rfl)⟩ hP hD hS dX11_isSign_71 (Nat.le_refl _) (Nat.le_refl _)
    · skip
      have zc2 : ¬ (p0.toInt = 40) := by rw [fa_eq, show (40 : Int32).toInt = 40 from by decide] at c2; exact c2
      refine lv_iload_n hx hb dX11_isSign_12 rfl (lv_at hl 0 rfl) ?_
      refine lv_bipush (v := 41) hx hb dX11_isSign_13 (by decide) ?_
      refine lv_icmp_eq (tgt := 66) hx hb dX11_isSign_15 (by decide) (fun c3 => ?_) (fun c3 => ?_)
      · skip
        have zc3 : p0.toInt = 41 := by rw [fa_eq, show (41 : Int32).toInt = 41 from by decide] at c3; exact c3
        refine lv_iconst (v := 1) hx hb dX11_isSign_66 (by decide) ?_
        refine lv_goto (tgt := 71) hx hb dX11_isSign_67 (by decide) ?_
        exact ret 1 () _ _ _ _ _ _ rfl ⟨(gsY_X11_isSign_1_q2 c1 c2 c3), (Or.inl rfl)⟩ hP hD hS dX11_isSign_71 (Nat.le_refl _) (Nat.le_refl _)
      · skip
        have zc3 : ¬ (p0.toInt = 41) := by rw [fa_eq, show (41 : Int32).toInt = 41 from by decide] at c3; exact c3
        refine lv_iload_n hx hb dX11_isSign_18 rfl (lv_at hl 0 rfl) ?_
        refine lv_bipush (v := 60) hx hb dX11_isSign_19 (by decide) ?_
        refine lv_icmp_eq (tgt := 66) hx hb dX11_isSign_21 (by decide) (fun c4 => ?_) (fun c4 => ?_)
        · skip
          have zc4 : p0.toInt = 60 := by rw [fa_eq, show (60 : Int32).toInt = 60 from by decide] at c4; exact c4
          refine lv_iconst (v := 1) hx hb dX11_isSign_66 (by decide) ?_
          refine lv_goto (tgt := 71) hx hb dX11_isSign_67 (by decide) ?_
          exact ret 1 () _ _ _ _ _ _ rfl ⟨(gsY_X11_isSign_1_q3 c1 c2 c3 c4), (Or.inl rfl)⟩ hP hD hS dX11_isSign_71 (Nat.le_refl _) (Nat.le_refl _)
        · skip
          have zc4 : ¬ (p0.toInt = 60) := by rw [fa_eq, show (60 : Int32).toInt = 60 from by decide] at c4; exact c4
          refine lv_iload_n hx hb dX11_isSign_24 rfl (lv_at hl 0 rfl) ?_
          refine lv_bipush (v := 62) hx hb dX11_isSign_25 (by decide) ?_
          refine lv_icmp_eq (tgt := 66) hx hb dX11_isSign_27 (by decide) (fun c5 => ?_) (fun c5 => ?_)
          · skip
            have zc5 : p0.toInt = 62 := by rw [fa_eq, show (62 : Int32).toInt = 62 from by decide] at c5; exact c5
            refine lv_iconst (v := 1) hx hb dX11_isSign_66 (by decide) ?_
            refine lv_goto (tgt := 71) hx hb dX11_isSign_67 (by decide) ?_
            exact ret 1 () _ _ _ _ _ _ rfl ⟨(gsY_X11_isSign_1_q4 c1 c2 c3 c4 c5), (Or.inl rfl)⟩ hP hD hS dX11_isSign_71 (Nat.le_refl _) (Nat.le_refl _)
          · skip
            have zc5 : ¬ (p0.toInt = 62) := by rw [fa_eq, show (62 : Int32).toInt = 62 from by decide] at c5; exact c5
            refine lv_iload_n hx hb dX11_isSign_30 rfl (lv_at hl 0 rfl) ?_
            refine lv_bipush (v := 61) hx hb dX11_isSign_31 (by decide) ?_
            refine lv_icmp_eq (tgt := 66) hx hb dX11_isSign_33 (by decide) (fun c6 => ?_) (fun c6 => ?_)
            · skip
              have zc6 : p0.toInt = 61 := by rw [fa_eq, show (61 : Int32).toInt = 61 from by decide] at c6; exact c6
              refine lv_iconst (v := 1) hx hb dX11_isSign_66 (by decide) ?_
              refine lv_goto (tgt := 71) hx hb dX11_isSign_67 (by decide) ?_
              exact ret 1 () _ _ _ _ _ _ rfl ⟨(gsY_X11_isSign_1_q5 c1 c2 c3 c4 c5 c6), (Or.inl rfl)⟩ hP hD hS dX11_isSign_71 (Nat.le_refl _) (Nat.le_refl _)
            · skip
              have zc6 : ¬ (p0.toInt = 61) := by rw [fa_eq, show (61 : Int32).toInt = 61 from by decide] at c6; exact c6
              refine lv_iload_n hx hb dX11_isSign_36 rfl (lv_at hl 0 rfl) ?_
              refine lv_bipush (v := 43) hx hb dX11_isSign_37 (by decide) ?_
              refine lv_icmp_eq (tgt := 66) hx hb dX11_isSign_39 (by decide) (fun c7 => ?_) (fun c7 => ?_)
              · skip
                have zc7 : p0.toInt = 43 := by rw [fa_eq, show (43 : Int32).toInt = 43 from by decide] at c7; exact c7
                refine lv_iconst (v := 1) hx hb dX11_isSign_66 (by decide) ?_
                refine lv_goto (tgt := 71) hx hb dX11_isSign_67 (by decide) ?_
                exact ret 1 () _ _ _ _ _ _ rfl ⟨(gsY_X11_isSign_1_q6 c1 c2 c3 c4 c5 c6 c7), (Or.inl rfl)⟩ hP hD hS dX11_isSign_71 (Nat.le_refl _) (Nat.le_refl _)
              · skip
                have zc7 : ¬ (p0.toInt = 43) := by rw [fa_eq, show (43 : Int32).toInt = 43 from by decide] at c7; exact c7
                refine lv_iload_n hx hb dX11_isSign_42 rfl (lv_at hl 0 rfl) ?_
                refine lv_bipush (v := 45) hx hb dX11_isSign_43 (by decide) ?_
                refine lv_icmp_eq (tgt := 66) hx hb dX11_isSign_45 (by decide) (fun c8 => ?_) (fun c8 => ?_)
                · skip
                  have zc8 : p0.toInt = 45 := by rw [fa_eq, show (45 : Int32).toInt = 45 from by decide] at c8; exact c8
                  refine lv_iconst (v := 1) hx hb dX11_isSign_66 (by decide) ?_
                  refine lv_goto (tgt := 71) hx hb dX11_isSign_67 (by decide) ?_
                  exact ret 1 () _ _ _ _ _ _ rfl ⟨(gsY_X11_isSign_1_q7 c1 c2 c3 c4 c5 c6 c7 c8), (Or.inl rfl)⟩ hP hD hS dX11_isSign_71 (Nat.le_refl _) (Nat.le_refl _)
                · skip
                  have zc8 : ¬ (p0.toInt = 45) := by rw [fa_eq, show (45 : Int32).toInt = 45 from by decide] at c8; exact c8
                  refine lv_iload_n hx hb dX11_isSign_48 rfl (lv_at hl 0 rfl) ?_
                  refine lv_bipush (v := 42) hx hb dX11_isSign_49 (by decide) ?_
                  refine lv_icmp_eq (tgt := 66) hx hb dX11_isSign_51 (by decide) (fun c9 => ?_) (fun c9 => ?_)
                  · skip
                    have zc9 : p0.toInt = 42 := by rw [fa_eq, show (42 : Int32).toInt = 42 from by decide] at c9; exact c9
                    refine lv_iconst (v := 1) hx hb dX11_isSign_66 (by decide) ?_
                    refine lv_goto (tgt := 71) hx hb dX11_isSign_67 (by decide) ?_
                    exact ret 1 () _ _ _ _ _ _ rfl ⟨(gsY_X11_isSign_1_q8 c1 c2 c3 c4 c5 c6 c7 c8 c9), (Or.inl rfl)⟩ hP hD hS dX11_isSign_71 (Nat.le_refl _) (Nat.le_refl _)
                  · skip
                    have zc9 : ¬ (p0.toInt = 42) := by rw [fa_eq, show (42 : Int32).toInt = 42 from by decide] at c9; exact c9
                    refine lv_iload_n hx hb dX11_isSign_54 rfl (lv_at hl 0 rfl) ?_
                    refine lv_bipush (v := 47) hx hb dX11_isSign_55 (by decide) ?_
                    refine lv_icmp_eq (tgt := 66) hx hb dX11_isSign_57 (by decide) (fun c10 => ?_) (fun c10 => ?_)
                    · skip
                      have zc10 : p0.toInt = 47 := by rw [fa_eq, show (47 : Int32).toInt = 47 from by decide] at c10; exact c10
                      refine lv_iconst (v := 1) hx hb dX11_isSign_66 (by decide) ?_
                      refine lv_goto (tgt := 71) hx hb dX11_isSign_67 (by decide) ?_
                      exact ret 1 () _ _ _ _ _ _ rfl ⟨(gsY_X11_isSign_1_q9 c1 c2 c3 c4 c5 c6 c7 c8 c9 c10), (Or.inl rfl)⟩ hP hD hS dX11_isSign_71 (Nat.le_refl _) (Nat.le_refl _)
                    · skip
                      have zc10 : ¬ (p0.toInt = 47) := by rw [fa_eq, show (47 : Int32).toInt = 47 from by decide] at c10; exact c10
                      refine lv_iload_n hx hb dX11_isSign_60 rfl (lv_at hl 0 rfl) ?_
                      refine lv_bipush (v := 37) hx hb dX11_isSign_61 (by decide) ?_
                      refine lv_icmp_ne (tgt := 70) hx hb dX11_isSign_63 (by decide) (fun c11 => ?_) (fun c11 => ?_)
                      · skip
                        have zc11 : ¬ (p0.toInt = 37) := by rw [fa_eq, show (37 : Int32).toInt = 37 from by decide] at c11; exact c11
                        refine lv_iconst (v := 0) hx hb dX11_isSign_70 (by decide) ?_
                        exact ret 0 () _ _ _ _ _ _ rfl ⟨(gsY_X11_isSign_1_q10 c1 c2 c3 c4 c5 c6 c7 c8 c9 c10 c11), (Or.inr rfl)⟩ hP hD hS dX11_isSign_71 (Nat.le_refl _) (Nat.le_refl _)
                      · skip
                        have zc11 : p0.toInt = 37 := by rw [fa_eq, show (37 : Int32).toInt = 37 from by decide] at c11; exact c11
                        refine lv_iconst (v := 1) hx hb dX11_isSign_66 (by decide) ?_
                        refine lv_goto (tgt := 71) hx hb dX11_isSign_67 (by decide) ?_
                        exact ret 1 () _ _ _ _ _ _ rfl ⟨(gsY_X11_isSign_1_q11 c1 c2 c3 c4 c5 c6 c7 c8 c9 c10 c11), (Or.inl rfl)⟩ hP hD hS dX11_isSign_71 (Nat.le_refl _) (Nat.le_refl _)
