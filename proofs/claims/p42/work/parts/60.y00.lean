set_option maxHeartbeats 4000000 in
set_option maxRecDepth 100000 in
theorem sY_X11_four_1 (l : Launch) (dC : Nat → ClassId) (dI : Nat → Nat → Nat) (cy : Nat → ClassId) (y0 : Nat) (r : Nat → Nat) (p1 : Int32) (v : Nat → Int32) (f : Nat → Nat → Int32) (w : Int64) (g : Nat → Int64) (hIv : YI v) (hCf : YC f) (hRf : progOK (f 4) (f 5) (v 9).toInt.toNat)  (hf0 : (v 0).toInt ≤ 1596) : ctV l (dC, dI) cy yX11_four cX11_four 3 1 60 0 0 ((Nat → Int32) × (Nat → Nat → Int32) × (Int64) × (Nat → Int64)) [.ref y0, .int p1] (YW cy y0 r v f w g) (fun u => YI u.1 ∧ YC u.2.1 ∧ progOK (u.2.1 4) (u.2.1 5) (u.1 9).toInt.toNat ∧ u.1 3 = v 3 ∧ u.1 4 = v 4 ∧ u.1 8 = v 8 ∧ u.1 9 = v 9 ∧ u.1 10 = v 10 ∧ u.1 24 = v 24 ∧ u.1 25 = v 25 ∧ u.1 35 = v 35 ∧ u.1 36 = v 36 ∧ u.1 38 = v 38 ∧ u.1 39 = v 39 ∧ ((u.1 0).toInt = (v 0).toInt + 4)) (fun u => YW cy y0 r u.1 u.2.1 u.2.2.1 u.2.2.2) := by
  refine ctV_of (by decide) (Nat.le_of_ble_eq_true rfl) (fun p e s m below meth c A ls Q hx hb hml hts hown hnm hE hP hD hA hl ret => ?_)
  have hUv : (v 35).toInt + (v 36).toInt ≤ 40 := hIv.2
  have hown : s.vm.findClass RX11 = some m.cls := hown
  have hS : va_S A s.heap s.heap [] := va_S.rf
  have hl : lv_has ls 3 [(0, .ref y0), (1, .int p1)] := hl
  refine lv_bipush (v := 24) hx hb dX11_four_0 (by decide) ?_
  refine lv_istore_n (lv' := [(2, .int 24), (0, .ref y0), (1, .int p1)]) hx hb dX11_four_2 rfl hl (by decide) rfl (fun ls hl => ?_)
  have lp1 : ∀ (n1 : Nat) (l2_1 : Int32) (v1 : Nat → Int32) (f1 : Nat → Nat → Int32) (w1 : Int64) (g1 : Nat → Int64), YI v1 → YC f1 → progOK (f1 4) (f1 5) (v1 9).toInt.toNat → v1 3 = (v 3) → v1 4 = (v 4) → v1 8 = (v 8) → v1 9 = (v 9) → v1 10 = (v 10) → v1 24 = (v 24) → v1 25 = (v 25) → v1 35 = (v 35) → v1 36 = (v 36) → v1 38 = (v 38) → v1 39 = (v 39) → ((-8 : Int) ≤ l2_1.toInt ∧ l2_1.toInt ≤ 24) → (8 * (v1 0).toInt + l2_1.toInt = 8 * (v 0).toInt + 24) → (l2_1.toInt + 8).toNat < n1 → ∀ (H : Heap) (locs : List Loc) (ls : Array Slot), va_P (dC, dI) vwCl (YW cy y0 r v1 f1 w1 g1) H → va_D A (YW cy y0 r v1 f1 w1 g1) → va_S A s.heap H locs → lv_has ls 3 [(2, .int l2_1), (0, .ref y0), (1, .int p1)] → W p l e { frames := 1, cells := 0, slots := 0, locals := 60 } s m ([.ref y0, .int p1] : List Value).toArray below meth c H locs 0 0 Q (F0 m 3 ls []) := by
    intro n1
    induction n1 with
    | zero => intro l2_1 v1 f1 w1 g1 hIv1 hCf1 hRf1 hq3_v1 hq4_v1 hq8_v1 hq9_v1 hq10_v1 hq24_v1 hq25_v1 hq35_v1 hq36_v1 hq38_v1 hq39_v1 hr2_1 hx0_1 hm; exact absurd hm (Nat.not_lt_zero _)
    | succ n1 ih1 =>
      intro l2_1 v1 f1 w1 g1 hIv1 hCf1 hRf1 hq3_v1 hq4_v1 hq8_v1 hq9_v1 hq10_v1 hq24_v1 hq25_v1 hq35_v1 hq36_v1 hq38_v1 hq39_v1 hr2_1 hx0_1 hm1 H locs ls hP hD hS hl
      have hUv1 : (v1 35).toInt + (v1 36).toInt ≤ 40 := hIv1.2
      have zq9_v1 := congrArg Int32.toInt hq9_v1
      have zq35_v1 := congrArg Int32.toInt hq35_v1
      have zq36_v1 := congrArg Int32.toInt hq36_v1
      refine lv_iload_n hx hb dX11_four_3 rfl (lv_at hl 0 rfl) ?_
      refine lv_if_lt (tgt := 39) hx hb dX11_four_4 (by decide) (fun c2 => ?_) (fun c2 => ?_)
      · skip
        have zc2 : l2_1.toInt < 0 := by rw [fa_lt, show (0 : Int32).toInt = 0 from by decide] at c2; exact c2
        exact ret (v1, f1, w1, g1) _ _ _ _ _ _ ⟨hIv1, hCf1, hRf1, (show v1 3 = v 3 from hq3_v1), (show v1 4 = v 4 from hq4_v1), (show v1 8 = v 8 from hq8_v1), (show v1 9 = v 9 from hq9_v1), (show v1 10 = v 10 from hq10_v1), (show v1 24 = v 24 from hq24_v1), (show v1 25 = v 25 from hq25_v1), (show v1 35 = v 35 from hq35_v1), (show v1 36 = v 36 from hq36_v1), (show v1 38 = v 38 from hq38_v1), (show v1 39 = v 39 from hq39_v1), (by show (v1 0).toInt = (v 0).toInt + 4; omega)⟩ hP hD hS dX11_four_39 (Nat.le_refl _) (Nat.le_refl _)
      · skip
        have zc2 : ¬ (l2_1.toInt < 0) := by rw [fa_lt, show (0 : Int32).toInt = 0 from by decide] at c2; exact c2
        refine lv_aload_n hx hb dX11_four_7 rfl (lv_at hl 1 rfl) ?_
        refine va_get (D := (dC, dI)) (ci := 11) (v := .ref (r 0)) (C := RX11) (T := TX11) (N := 79) hx hb hts inB_11 hown hE.1 hP 0 rfl rfl 0 (by decide) (hts _ k_1320) (fun _ h9 => h9) rfl dX11_four_8 ?_
        refine lv_aload_n hx hb dX11_four_11 rfl (lv_at hl 1 rfl) ?_
        refine va_get (D := (dC, dI)) (ci := 11) (v := .int (v1 0)) (C := RX11) (T := TX11) (N := 79) hx hb hts inB_11 hown hE.1 hP 0 rfl rfl 1 (by decide) (hts _ k_1321) (fun _ h9 => h9) rfl dX11_four_12 ?_
        have b0_v1 : 0 ≤ (v1 0).toInt ∧ (v1 0).toInt ≤ 1600 := YIb.b hIv1.1 0 (by decide)
        refine lv_iload_n hx hb dX11_four_15 rfl (lv_at hl 2 rfl) ?_
        refine lv_iload_n hx hb dX11_four_16 rfl (lv_at hl 0 rfl) ?_
        refine lv_ishr hx hb dX11_four_17 ?_
        refine lv_topi (fun t3 et3 => ?_)
        refine lv_sipush (v := 255) hx hb dX11_four_18 (by decide) ?_
        refine lv_iand hx hb dX11_four_21 ?_
        refine lv_topi (fun t4 et4 => ?_)
        have zt4 : 0 ≤ t4.toInt ∧ t4.toInt < 256 := by rw [et4]; exact and_rng _ (k := 8) (by decide) (by decide)
        refine stI hx hb hE hP hD hS 1 rfl (vp_in_iff.mpr ⟨by omega, by omega⟩) rfl dX11_four_22 (fun H locs hP hD hS => ?_)
        obtain ⟨f5, ef5, hP, hD⟩ : ∃ fz9, fz9 = upd2 f1 0 (upd (f1 0) (v1 0).toNatClampNeg t4) ∧ va_P (dC, dI) vwCl (YW cy y0 r v1 fz9 w1 g1) H ∧ va_D A (YW cy y0 r v1 fz9 w1 g1) := ⟨_, rfl, hP, hD⟩
        have hCf5 : YC f5 := by rw [ef5]; exact hCf1
        have hRf5 : progOK (f5 4) (f5 5) (v1 9).toInt.toNat := by rw [ef5]; exact hRf1
        refine lv_aload_n hx hb dX11_four_23 rfl (lv_at hl 1 rfl) ?_
        refine lv_dup hx hb dX11_four_24 rfl ?_
        refine va_get (D := (dC, dI)) (ci := 11) (v := .int (v1 0)) (C := RX11) (T := TX11) (N := 79) hx hb hts inB_11 hown hE.1 hP 0 rfl rfl 1 (by decide) (hts _ k_1321) (fun _ h9 => h9) rfl dX11_four_25 ?_
        refine lv_iconst (v := 1) hx hb dX11_four_28 (by decide) ?_
        refine lv_iadd hx hb dX11_four_29 ?_
        refine lv_topi (fun t6 et6 => ?_)
        have rg7 := fb_rng (v1 0)
        have zt6 : t6.toInt = (v1 0).toInt + 1 := by rw [et6]; exact add_i rfl (by decide) (by omega) (by omega)
        refine va_put (D := (dC, dI)) (ci := 11) (v := .int t6) (ty := tyX11 1) (C := RX11) (T := TX11) (N := 79) hx hb hts inB_11 tyX11 tyX11_ok nmX11 hown hE.1 hP hD hS 0 rfl rfl 1 (by decide) (hts _ k_1321) (fun _ h9 => h9) rfl (tyX11_ok 1 (by decide)) rfl rfl (Nat.le_of_ble_eq_true rfl) dX11_four_30 (fun H locs hP hD hS => ?_)
        have hP : va_P (dC, dI) vwCl (YW cy y0 r (upd v1 0 t6) f5 w1 g1) H := hP
        have hD : va_D A (YW cy y0 r (upd v1 0 t6) f5 w1 g1) := hD
        obtain ⟨t8, et8⟩ : ∃ y : Int32, y = l2_1 + (-8) := ⟨_, rfl⟩
        have rg9 := fb_rng l2_1
        have zt8 : t8.toInt = l2_1.toInt + (-8) := by rw [et8]; exact add_i rfl (by decide) (by omega) (by omega)
        refine lv_iinc (v := t8) (lv' := [(2, .int t8), (0, .ref y0), (1, .int p1)]) hx hb dX11_four_33 hl (k := 0) rfl (by rw [et8]; rfl) (by decide) rfl (fun ls hl => ?_)
        refine lv_goto (tgt := 3) hx hb dX11_four_36 (by decide) ?_
        have rg10 := fb_rng t8
        exact ih1 t8 (upd v1 0 t6) f5 w1 g1 ⟨(YIb.upd (j := 0) (x := t6) hIv1.1 (show (0 : Int) ≤ t6.toInt by omega) (show t6.toInt ≤ (1600 : Int) by omega)), hIv1.2⟩ hCf5 hRf5 hq3_v1 hq4_v1 hq8_v1 hq9_v1 hq10_v1 hq24_v1 hq25_v1 hq35_v1 hq36_v1 hq38_v1 hq39_v1 ⟨show (-8 : Int) ≤ t8.toInt by omega, show t8.toInt ≤ (24 : Int) by omega⟩ (by show 8 * t6.toInt + t8.toInt = 8 * (v 0).toInt + 24; omega) (by show (t8.toInt + 8).toNat < n1; omega) _ _ _ hP hD hS (lv_sub hl [0, 1, 2] rfl)
  exact lp1 _ 24 v f w g hIv hCf hRf rfl rfl rfl rfl rfl rfl rfl rfl rfl rfl rfl ⟨by decide, by decide⟩ (by have q2 : (24 : Int32).toInt = 24 := (by decide); show 8 * (v 0).toInt + (24 : Int32).toInt = 8 * (v 0).toInt + 24; omega) (Nat.lt_succ_self _) _ _ _ hP hD hS (lv_sub hl [0, 1, 2] rfl)
set_option maxHeartbeats 4000000 in
set_option maxRecDepth 100000 in
theorem sY_X11_feed_1 (l : Launch) (dC : Nat → ClassId) (dI : Nat → Nat → Nat) (cy : Nat → ClassId) (y0 : Nat) (r : Nat → Nat) (p1 : Int32) (p2 : Int32) (p3 : Int32) (p4 : Int32) (p5 : Int32) (v : Nat → Int32) (f : Nat → Nat → Int32) (w : Int64) (g : Nat → Int64) (hIv : YI v) (hCf : YC f) (hRf : progOK (f 4) (f 5) (v 9).toInt.toNat)  : ctI l (dC, dI) cy yX11_feed cX11_feed 6 .int 2 82 0 0 ((Nat → Int32) × (Nat → Nat → Int32) × (Int64) × (Nat → Int64)) [.ref y0, .int p1, .int p2, .int p3, .int p4, .int p5] (YW cy y0 r v f w g) (fun r u => YI u.1 ∧ YC u.2.1 ∧ progOK (u.2.1 4) (u.2.1 5) (u.1 9).toInt.toNat ∧ u.1 3 = v 3 ∧ u.1 4 = v 4 ∧ u.1 8 = v 8 ∧ u.1 9 = v 9 ∧ u.1 10 = v 10 ∧ u.1 24 = v 24 ∧ u.1 25 = v 25 ∧ u.1 35 = v 35 ∧ u.1 36 = v 36 ∧ u.1 38 = v 38 ∧ u.1 39 = v 39) (fun u => YW cy y0 r u.1 u.2.1 u.2.2.1 u.2.2.2) := by
  refine ctI_of (by decide) (Nat.le_of_ble_eq_true rfl) (fun p e s m below meth c A ls Q hx hb hml hts hown hE hP hD hA hl ret => ?_)
  have hUv : (v 35).toInt + (v 36).toInt ≤ 40 := hIv.2
  have hown : s.vm.findClass RX11 = some m.cls := hown
  have hS : va_S A s.heap s.heap [] := va_S.rf
  have hl : lv_has ls 6 [(0, .ref y0), (1, .int p1), (2, .int p2), (3, .int p3), (4, .int p4), (5, .int p5)] := hl
  refine lv_aload_n hx hb dX11_feed_0 rfl (lv_at hl 0 rfl) ?_
  refine va_get (D := (dC, dI)) (ci := 11) (v := .int (v 0)) (C := RX11) (T := TX11) (N := 79) hx hb hts inB_11 hown hE.1 hP 0 rfl rfl 1 (by decide) (hts _ k_1321) (fun _ h9 => h9) rfl dX11_feed_1 ?_
  have b0_v : 0 ≤ (v 0).toInt ∧ (v 0).toInt ≤ 1600 := YIb.b hIv.1 0 (by decide)
  refine lv_bipush (v := 20) hx hb dX11_feed_4 (by decide) ?_
  refine lv_iadd hx hb dX11_feed_6 ?_
  refine lv_topi (fun t1 et1 => ?_)
  have rg2 := fb_rng (v 0)
  have zt1 : t1.toInt = (v 0).toInt + 20 := by rw [et1]; exact add_i rfl (by decide) (by omega) (by omega)
  refine lv_sipush (v := 1600) hx hb dX11_feed_7 (by decide) ?_
  refine lv_icmp_le (tgt := 15) hx hb dX11_feed_10 (by decide) (fun c3 => ?_) (fun c3 => ?_)
  · skip
    have zc3 : t1.toInt ≤ 1600 := by rw [fa_le, show (1600 : Int32).toInt = 1600 from by decide] at c3; exact c3
    refine lv_aload_n hx hb dX11_feed_15 rfl (lv_at hl 0 rfl) ?_
    refine lv_iload_n hx hb dX11_feed_16 rfl (lv_at hl 1 rfl) ?_
    refine cbVv (n := 1) (rest := []) hx hb hml hown hts hE hP hD hS hA (sY_X11_four_1 l dC dI cy y0 r p1 v f w g hIv hCf hRf (by show (v 0).toInt ≤ 1596; omega)) k_1563 k_1565 k_40 k_114 k_1566 (by decide +kernel) ⟨Nat.le_of_ble_eq_true rfl, Nat.le_of_ble_eq_true rfl⟩ 0 11 rfl rfl (rfl) hl.1 rfl (Nat.le_of_ble_eq_true rfl) dX11_feed_17 (fun u H locs hw hP hD hS => ?_)
    obtain ⟨v4, f5, w6, g7⟩ := u
    obtain ⟨hIv4, hCf5, hRf5, hk3_v4, hk4_v4, hk8_v4, hk9_v4, hk10_v4, hk24_v4, hk25_v4, hk35_v4, hk36_v4, hk38_v4, hk39_v4, pv8⟩ := hw
    have hP : va_P (dC, dI) vwCl (YW cy y0 r v4 f5 w6 g7) H := hP
    have hD : va_D A (YW cy y0 r v4 f5 w6 g7) := hD
    have pv8 : (v4 0).toInt = (v 0).toInt + 4 := pv8
    have hUv4 : (v4 35).toInt + (v4 36).toInt ≤ 40 := hIv4.2
    have hq3_v4 : v4 3 = (v 3) := hk3_v4
    have hq4_v4 : v4 4 = (v 4) := hk4_v4
    have hq8_v4 : v4 8 = (v 8) := hk8_v4
    have hq9_v4 : v4 9 = (v 9) := hk9_v4
    have zq9_v4 := congrArg Int32.toInt hq9_v4
    have hq10_v4 : v4 10 = (v 10) := hk10_v4
    have hq24_v4 : v4 24 = (v 24) := hk24_v4
    have hq25_v4 : v4 25 = (v 25) := hk25_v4
    have hq35_v4 : v4 35 = (v 35) := hk35_v4
    have zq35_v4 := congrArg Int32.toInt hq35_v4
    have hq36_v4 : v4 36 = (v 36) := hk36_v4
    have zq36_v4 := congrArg Int32.toInt hq36_v4
    have hq38_v4 : v4 38 = (v 38) := hk38_v4
    have hq39_v4 : v4 39 = (v 39) := hk39_v4
    refine lv_aload_n hx hb dX11_feed_20 rfl (lv_at hl 0 rfl) ?_
    refine lv_iload_n hx hb dX11_feed_21 rfl (lv_at hl 2 rfl) ?_
    refine cbVv (n := 1) (rest := []) hx hb hml hown hts hE hP hD hS hA (sY_X11_four_1 l dC dI cy y0 r p2 v4 f5 w6 g7 hIv4 hCf5 hRf5 (by show (v4 0).toInt ≤ 1596; omega)) k_1563 k_1565 k_40 k_114 k_1566 (by decide +kernel) ⟨Nat.le_of_ble_eq_true rfl, Nat.le_of_ble_eq_true rfl⟩ 0 11 rfl rfl (rfl) hl.1 rfl (Nat.le_of_ble_eq_true rfl) dX11_feed_22 (fun u H locs hw hP hD hS => ?_)
    obtain ⟨v9, f10, w11, g12⟩ := u
    obtain ⟨hIv9, hCf10, hRf10, hk3_v9, hk4_v9, hk8_v9, hk9_v9, hk10_v9, hk24_v9, hk25_v9, hk35_v9, hk36_v9, hk38_v9, hk39_v9, pv13⟩ := hw
    have hP : va_P (dC, dI) vwCl (YW cy y0 r v9 f10 w11 g12) H := hP
    have hD : va_D A (YW cy y0 r v9 f10 w11 g12) := hD
    have pv13 : (v9 0).toInt = (v4 0).toInt + 4 := pv13
    have hUv9 : (v9 35).toInt + (v9 36).toInt ≤ 40 := hIv9.2
    have hq3_v9 : v9 3 = (v 3) := hk3_v9.trans hq3_v4
    have hq4_v9 : v9 4 = (v 4) := hk4_v9.trans hq4_v4
    have hq8_v9 : v9 8 = (v 8) := hk8_v9.trans hq8_v4
    have hq9_v9 : v9 9 = (v 9) := hk9_v9.trans hq9_v4
    have zq9_v9 := congrArg Int32.toInt hq9_v9
    have hq10_v9 : v9 10 = (v 10) := hk10_v9.trans hq10_v4
    have hq24_v9 : v9 24 = (v 24) := hk24_v9.trans hq24_v4
    have hq25_v9 : v9 25 = (v 25) := hk25_v9.trans hq25_v4
    have hq35_v9 : v9 35 = (v 35) := hk35_v9.trans hq35_v4
    have zq35_v9 := congrArg Int32.toInt hq35_v9
    have hq36_v9 : v9 36 = (v 36) := hk36_v9.trans hq36_v4
    have zq36_v9 := congrArg Int32.toInt hq36_v9
    have hq38_v9 : v9 38 = (v 38) := hk38_v9.trans hq38_v4
    have hq39_v9 : v9 39 = (v 39) := hk39_v9.trans hq39_v4
    refine lv_aload_n hx hb dX11_feed_25 rfl (lv_at hl 0 rfl) ?_
    refine lv_iload_n hx hb dX11_feed_26 rfl (lv_at hl 3 rfl) ?_
    refine cbVv (n := 1) (rest := []) hx hb hml hown hts hE hP hD hS hA (sY_X11_four_1 l dC dI cy y0 r p3 v9 f10 w11 g12 hIv9 hCf10 hRf10 (by show (v9 0).toInt ≤ 1596; omega)) k_1563 k_1565 k_40 k_114 k_1566 (by decide +kernel) ⟨Nat.le_of_ble_eq_true rfl, Nat.le_of_ble_eq_true rfl⟩ 0 11 rfl rfl (rfl) hl.1 rfl (Nat.le_of_ble_eq_true rfl) dX11_feed_27 (fun u H locs hw hP hD hS => ?_)
    obtain ⟨v14, f15, w16, g17⟩ := u
    obtain ⟨hIv14, hCf15, hRf15, hk3_v14, hk4_v14, hk8_v14, hk9_v14, hk10_v14, hk24_v14, hk25_v14, hk35_v14, hk36_v14, hk38_v14, hk39_v14, pv18⟩ := hw
    have hP : va_P (dC, dI) vwCl (YW cy y0 r v14 f15 w16 g17) H := hP
    have hD : va_D A (YW cy y0 r v14 f15 w16 g17) := hD
    have pv18 : (v14 0).toInt = (v9 0).toInt + 4 := pv18
    have hUv14 : (v14 35).toInt + (v14 36).toInt ≤ 40 := hIv14.2
    have hq3_v14 : v14 3 = (v 3) := hk3_v14.trans hq3_v9
    have hq4_v14 : v14 4 = (v 4) := hk4_v14.trans hq4_v9
    have hq8_v14 : v14 8 = (v 8) := hk8_v14.trans hq8_v9
    have hq9_v14 : v14 9 = (v 9) := hk9_v14.trans hq9_v9
    have zq9_v14 := congrArg Int32.toInt hq9_v14
    have hq10_v14 : v14 10 = (v 10) := hk10_v14.trans hq10_v9
    have hq24_v14 : v14 24 = (v 24) := hk24_v14.trans hq24_v9
    have hq25_v14 : v14 25 = (v 25) := hk25_v14.trans hq25_v9
    have hq35_v14 : v14 35 = (v 35) := hk35_v14.trans hq35_v9
    have zq35_v14 := congrArg Int32.toInt hq35_v14
    have hq36_v14 : v14 36 = (v 36) := hk36_v14.trans hq36_v9
    have zq36_v14 := congrArg Int32.toInt hq36_v14
    have hq38_v14 : v14 38 = (v 38) := hk38_v14.trans hq38_v9
    have hq39_v14 : v14 39 = (v 39) := hk39_v14.trans hq39_v9
    refine lv_aload_n hx hb dX11_feed_30 rfl (lv_at hl 0 rfl) ?_
    refine lv_iload hx hb dX11_feed_31 (lv_at hl 4 rfl) ?_
    refine cbVv (n := 1) (rest := []) hx hb hml hown hts hE hP hD hS hA (sY_X11_four_1 l dC dI cy y0 r p4 v14 f15 w16 g17 hIv14 hCf15 hRf15 (by show (v14 0).toInt ≤ 1596; omega)) k_1563 k_1565 k_40 k_114 k_1566 (by decide +kernel) ⟨Nat.le_of_ble_eq_true rfl, Nat.le_of_ble_eq_true rfl⟩ 0 11 rfl rfl (rfl) hl.1 rfl (Nat.le_of_ble_eq_true rfl) dX11_feed_33 (fun u H locs hw hP hD hS => ?_)
    obtain ⟨v19, f20, w21, g22⟩ := u
    obtain ⟨hIv19, hCf20, hRf20, hk3_v19, hk4_v19, hk8_v19, hk9_v19, hk10_v19, hk24_v19, hk25_v19, hk35_v19, hk36_v19, hk38_v19, hk39_v19, pv23⟩ := hw
    have hP : va_P (dC, dI) vwCl (YW cy y0 r v19 f20 w21 g22) H := hP
    have hD : va_D A (YW cy y0 r v19 f20 w21 g22) := hD
    have pv23 : (v19 0).toInt = (v14 0).toInt + 4 := pv23
    have hUv19 : (v19 35).toInt + (v19 36).toInt ≤ 40 := hIv19.2
    have hq3_v19 : v19 3 = (v 3) := hk3_v19.trans hq3_v14
    have hq4_v19 : v19 4 = (v 4) := hk4_v19.trans hq4_v14
    have hq8_v19 : v19 8 = (v 8) := hk8_v19.trans hq8_v14
    have hq9_v19 : v19 9 = (v 9) := hk9_v19.trans hq9_v14
    have zq9_v19 := congrArg Int32.toInt hq9_v19
    have hq10_v19 : v19 10 = (v 10) := hk10_v19.trans hq10_v14
    have hq24_v19 : v19 24 = (v 24) := hk24_v19.trans hq24_v14
    have hq25_v19 : v19 25 = (v 25) := hk25_v19.trans hq25_v14
    have hq35_v19 : v19 35 = (v 35) := hk35_v19.trans hq35_v14
    have zq35_v19 := congrArg Int32.toInt hq35_v19
    have hq36_v19 : v19 36 = (v 36) := hk36_v19.trans hq36_v14
    have zq36_v19 := congrArg Int32.toInt hq36_v19
    have hq38_v19 : v19 38 = (v 38) := hk38_v19.trans hq38_v14
    have hq39_v19 : v19 39 = (v 39) := hk39_v19.trans hq39_v14
    refine lv_aload_n hx hb dX11_feed_36 rfl (lv_at hl 0 rfl) ?_
    refine lv_iload hx hb dX11_feed_37 (lv_at hl 5 rfl) ?_
    refine cbVv (n := 1) (rest := []) hx hb hml hown hts hE hP hD hS hA (sY_X11_four_1 l dC dI cy y0 r p5 v19 f20 w21 g22 hIv19 hCf20 hRf20 (by show (v19 0).toInt ≤ 1596; omega)) k_1563 k_1565 k_40 k_114 k_1566 (by decide +kernel) ⟨Nat.le_of_ble_eq_true rfl, Nat.le_of_ble_eq_true rfl⟩ 0 11 rfl rfl (rfl) hl.1 rfl (Nat.le_of_ble_eq_true rfl) dX11_feed_39 (fun u H locs hw hP hD hS => ?_)
    obtain ⟨v24, f25, w26, g27⟩ := u
    obtain ⟨hIv24, hCf25, hRf25, hk3_v24, hk4_v24, hk8_v24, hk9_v24, hk10_v24, hk24_v24, hk25_v24, hk35_v24, hk36_v24, hk38_v24, hk39_v24, pv28⟩ := hw
    have hP : va_P (dC, dI) vwCl (YW cy y0 r v24 f25 w26 g27) H := hP
    have hD : va_D A (YW cy y0 r v24 f25 w26 g27) := hD
    have pv28 : (v24 0).toInt = (v19 0).toInt + 4 := pv28
    have hUv24 : (v24 35).toInt + (v24 36).toInt ≤ 40 := hIv24.2
    have hq3_v24 : v24 3 = (v 3) := hk3_v24.trans hq3_v19
    have hq4_v24 : v24 4 = (v 4) := hk4_v24.trans hq4_v19
    have hq8_v24 : v24 8 = (v 8) := hk8_v24.trans hq8_v19
    have hq9_v24 : v24 9 = (v 9) := hk9_v24.trans hq9_v19
    have zq9_v24 := congrArg Int32.toInt hq9_v24
    have hq10_v24 : v24 10 = (v 10) := hk10_v24.trans hq10_v19
    have hq24_v24 : v24 24 = (v 24) := hk24_v24.trans hq24_v19
    have hq25_v24 : v24 25 = (v 25) := hk25_v24.trans hq25_v19
    have hq35_v24 : v24 35 = (v 35) := hk35_v24.trans hq35_v19
    have zq35_v24 := congrArg Int32.toInt hq35_v24
    have hq36_v24 : v24 36 = (v 36) := hk36_v24.trans hq36_v19
    have zq36_v24 := congrArg Int32.toInt hq36_v24
    have hq38_v24 : v24 38 = (v 38) := hk38_v24.trans hq38_v19
    have hq39_v24 : v24 39 = (v 39) := hk39_v24.trans hq39_v19
    refine lv_aload_n hx hb dX11_feed_42 rfl (lv_at hl 0 rfl) ?_
    refine va_get (D := (dC, dI)) (ci := 11) (v := .int (v24 0)) (C := RX11) (T := TX11) (N := 79) hx hb hts inB_11 hown hE.1 hP 0 rfl rfl 1 (by decide) (hts _ k_1321) (fun _ h9 => h9) rfl dX11_feed_43 ?_
    have b0_v24 : 0 ≤ (v24 0).toInt ∧ (v24 0).toInt ≤ 1600 := YIb.b hIv24.1 0 (by decide)
    exact ret (v24 0) (v24, f25, w26, g27) _ _ _ _ _ _ rfl ⟨hIv24, hCf25, hRf25, (hk3_v24.trans (hk3_v19.trans (hk3_v14.trans (hk3_v9.trans hk3_v4)))), (hk4_v24.trans (hk4_v19.trans (hk4_v14.trans (hk4_v9.trans hk4_v4)))), (hk8_v24.trans (hk8_v19.trans (hk8_v14.trans (hk8_v9.trans hk8_v4)))), (hk9_v24.trans (hk9_v19.trans (hk9_v14.trans (hk9_v9.trans hk9_v4)))), (hk10_v24.trans (hk10_v19.trans (hk10_v14.trans (hk10_v9.trans hk10_v4)))), (hk24_v24.trans (hk24_v19.trans (hk24_v14.trans (hk24_v9.trans hk24_v4)))), (hk25_v24.trans (hk25_v19.trans (hk25_v14.trans (hk25_v9.trans hk25_v4)))), (hk35_v24.trans (hk35_v19.trans (hk35_v14.trans (hk35_v9.trans hk35_v4)))), (hk36_v24.trans (hk36_v19.trans (hk36_v14.trans (hk36_v9.trans hk36_v4)))), (hk38_v24.trans (hk38_v19.trans (hk38_v14.trans (hk38_v9.trans hk38_v4)))), (hk39_v24.trans (hk39_v19.trans (hk39_v14.trans (hk39_v9.trans hk39_v4))))⟩ hP hD hS dX11_feed_46 (Nat.le_refl _) (Nat.le_refl _)
  · skip
    have zc3 : ¬ (t1.toInt ≤ 1600) := by rw [fa_le, show (1600 : Int32).toInt = 1600 from by decide] at c3; exact c3
    refine lv_iconst (v := (-1)) hx hb dX11_feed_13 (by decide) ?_
    exact ret (-1) (v, f, w, g) _ _ _ _ _ _ rfl ⟨hIv, hCf, hRf, rfl, rfl, rfl, rfl, rfl, rfl, rfl, rfl, rfl, rfl, rfl⟩ hP hD hS dX11_feed_14 (Nat.le_refl _) (Nat.le_refl _)
set_option maxHeartbeats 4000000 in
set_option maxRecDepth 100000 in
theorem sY_X11_end_1 (l : Launch) (dC : Nat → ClassId) (dI : Nat → Nat → Nat) (cy : Nat → ClassId) (y0 : Nat) (r : Nat → Nat) (p1 : Int32) (v : Nat → Int32) (f : Nat → Nat → Int32) (w : Int64) (g : Nat → Int64) (hIv : YI v) (hCf : YC f) (hRf : progOK (f 4) (f 5) (v 9).toInt.toNat)  : ctI l (dC, dI) cy yX11_end cX11_end 2 .int 1 60 0 0 ((Nat → Int32) × (Nat → Nat → Int32) × (Int64) × (Nat → Int64)) [.ref y0, .int p1] (YW cy y0 r v f w g) (fun r u => YI u.1 ∧ YC u.2.1 ∧ progOK (u.2.1 4) (u.2.1 5) (u.1 9).toInt.toNat ∧ u.1 3 = v 3 ∧ u.1 4 = v 4 ∧ u.1 8 = v 8 ∧ u.1 9 = v 9 ∧ u.1 10 = v 10 ∧ u.1 24 = v 24 ∧ u.1 25 = v 25 ∧ u.1 35 = v 35 ∧ u.1 36 = v 36 ∧ u.1 38 = v 38 ∧ u.1 39 = v 39) (fun u => YW cy y0 r u.1 u.2.1 u.2.2.1 u.2.2.2) := by
  refine ctI_of (by decide) (Nat.le_of_ble_eq_true rfl) (fun p e s m below meth c A ls Q hx hb hml hts hown hE hP hD hA hl ret => ?_)
  have hUv : (v 35).toInt + (v 36).toInt ≤ 40 := hIv.2
  have hown : s.vm.findClass RX11 = some m.cls := hown
  have hS : va_S A s.heap s.heap [] := va_S.rf
  have hl : lv_has ls 2 [(0, .ref y0), (1, .int p1)] := hl
  refine lv_iload_n hx hb dX11_end_0 rfl (lv_at hl 1 rfl) ?_
  refine lv_if_lt (tgt := 12) hx hb dX11_end_1 (by decide) (fun c1 => ?_) (fun c1 => ?_)
  · skip
    have zc1 : p1.toInt < 0 := by rw [fa_lt, show (0 : Int32).toInt = 0 from by decide] at c1; exact c1
    refine lv_iconst (v := (-1)) hx hb dX11_end_12 (by decide) ?_
    exact ret (-1) (v, f, w, g) _ _ _ _ _ _ rfl ⟨hIv, hCf, hRf, rfl, rfl, rfl, rfl, rfl, rfl, rfl, rfl, rfl, rfl, rfl⟩ hP hD hS dX11_end_13 (Nat.le_refl _) (Nat.le_refl _)
  · skip
    have zc1 : ¬ (p1.toInt < 0) := by rw [fa_lt, show (0 : Int32).toInt = 0 from by decide] at c1; exact c1
    refine lv_iload_n hx hb dX11_end_4 rfl (lv_at hl 1 rfl) ?_
    refine lv_aload_n hx hb dX11_end_5 rfl (lv_at hl 0 rfl) ?_
    refine va_get (D := (dC, dI)) (ci := 11) (v := .int (v 0)) (C := RX11) (T := TX11) (N := 79) hx hb hts inB_11 hown hE.1 hP 0 rfl rfl 1 (by decide) (hts _ k_1321) (fun _ h9 => h9) rfl dX11_end_6 ?_
    have b0_v : 0 ≤ (v 0).toInt ∧ (v 0).toInt ≤ 1600 := YIb.b hIv.1 0 (by decide)
    refine lv_icmp_le (tgt := 14) hx hb dX11_end_9 (by decide) (fun c2 => ?_) (fun c2 => ?_)
    · skip
      have zc2 : p1.toInt ≤ (v 0).toInt := by rw [fa_le] at c2; exact c2
      have rg3 := fb_rng p1
      have rg4 := fb_rng (v 0)
      refine lv_aload_n hx hb dX11_end_14 rfl (lv_at hl 0 rfl) ?_
      refine lv_iload_n hx hb dX11_end_15 rfl (lv_at hl 1 rfl) ?_
      refine va_put (D := (dC, dI)) (ci := 11) (v := .int p1) (ty := tyX11 1) (C := RX11) (T := TX11) (N := 79) hx hb hts inB_11 tyX11 tyX11_ok nmX11 hown hE.1 hP hD hS 0 rfl rfl 1 (by decide) (hts _ k_1321) (fun _ h9 => h9) rfl (tyX11_ok 1 (by decide)) rfl rfl (Nat.le_of_ble_eq_true rfl) dX11_end_16 (fun H locs hP hD hS => ?_)
      have hP : va_P (dC, dI) vwCl (YW cy y0 r (upd v 0 p1) f w g) H := hP
      have hD : va_D A (YW cy y0 r (upd v 0 p1) f w g) := hD
      refine lv_iload_n hx hb dX11_end_19 rfl (lv_at hl 1 rfl) ?_
      exact ret p1 ((upd v 0 p1), f, w, g) _ _ _ _ _ _ rfl ⟨⟨(YIb.upd (j := 0) (x := p1) hIv.1 (show (0 : Int) ≤ p1.toInt by omega) (show p1.toInt ≤ (1600 : Int) by omega)), hIv.2⟩, hCf, hRf, rfl, rfl, rfl, rfl, rfl, rfl, rfl, rfl, rfl, rfl, rfl⟩ hP hD hS dX11_end_20 (Nat.le_refl _) (Nat.le_refl _)
    · skip
      have zc2 : ¬ (p1.toInt ≤ (v 0).toInt) := by rw [fa_le] at c2; exact c2
      have rg5 := fb_rng p1
      have rg6 := fb_rng (v 0)
      refine lv_iconst (v := (-1)) hx hb dX11_end_12 (by decide) ?_
      exact ret (-1) (v, f, w, g) _ _ _ _ _ _ rfl ⟨hIv, hCf, hRf, rfl, rfl, rfl, rfl, rfl, rfl, rfl, rfl, rfl, rfl, rfl⟩ hP hD hS dX11_end_13 (Nat.le_refl _) (Nat.le_refl _)
set_option maxHeartbeats 4000000 in
set_option maxRecDepth 100000 in
theorem sY_X11_fault_1 (l : Launch) (dC : Nat → ClassId) (dI : Nat → Nat → Nat) (cy : Nat → ClassId) (y0 : Nat) (r : Nat → Nat) (p1 : Int32) (v : Nat → Int32) (f : Nat → Nat → Int32) (w : Int64) (g : Nat → Int64) (hIv : YI v) (hCf : YC f) (hRf : progOK (f 4) (f 5) (v 9).toInt.toNat)  : ctI l (dC, dI) cy yX11_fault cX11_fault 2 .int 1 60 0 0 Unit [.ref y0, .int p1] (YW cy y0 r v f w g) (fun r u => True) (fun u => YW cy y0 r v f w g) := by
  refine ctI_of (by decide) (Nat.le_of_ble_eq_true rfl) (fun p e s m below meth c A ls Q hx hb hml hts hown hE hP hD hA hl ret => ?_)
  have hUv : (v 35).toInt + (v 36).toInt ≤ 40 := hIv.2
  have hown : s.vm.findClass RX11 = some m.cls := hown
  have hS : va_S A s.heap s.heap [] := va_S.rf
  have hl : lv_has ls 2 [(0, .ref y0), (1, .int p1)] := hl
  refine lv_iload_n hx hb dX11_fault_0 rfl (lv_at hl 1 rfl) ?_
  refine lv_if_ne (tgt := 11) hx hb dX11_fault_1 (by decide) (fun c1 => ?_) (fun c1 => ?_)
  · skip
    have zc1 : ¬ (p1.toInt = 0) := by rw [fa_eq, show (0 : Int32).toInt = 0 from by decide] at c1; exact c1
    refine lv_iload_n hx hb dX11_fault_11 rfl (lv_at hl 1 rfl) ?_
    refine lv_iconst (v := 1) hx hb dX11_fault_12 (by decide) ?_
    refine lv_icmp_ne (tgt := 23) hx hb dX11_fault_13 (by decide) (fun c2 => ?_) (fun c2 => ?_)
    · skip
      have zc2 : ¬ (p1.toInt = 1) := by rw [fa_eq, show (1 : Int32).toInt = 1 from by decide] at c2; exact c2
      refine lv_iconst (v := (-1)) hx hb dX11_fault_23 (by decide) ?_
      exact ret (-1) () _ _ _ _ _ _ rfl trivial hP hD hS dX11_fault_24 (Nat.le_refl _) (Nat.le_refl _)
    · skip
      have zc2 : p1.toInt = 1 := by rw [fa_eq, show (1 : Int32).toInt = 1 from by decide] at c2; exact c2
      refine lv_aload_n hx hb dX11_fault_16 rfl (lv_at hl 0 rfl) ?_
      refine va_get (D := (dC, dI)) (ci := 11) (v := .int (v 2)) (C := RX11) (T := TX11) (N := 79) hx hb hts inB_11 hown hE.1 hP 0 rfl rfl 3 (by decide) (hts _ k_1323) (fun _ h9 => h9) rfl dX11_fault_17 ?_
      refine lv_goto (tgt := 24) hx hb dX11_fault_20 (by decide) ?_
      exact ret (v 2) () _ _ _ _ _ _ rfl trivial hP hD hS dX11_fault_24 (Nat.le_refl _) (Nat.le_refl _)
  · skip
    have zc1 : p1.toInt = 0 := by rw [fa_eq, show (0 : Int32).toInt = 0 from by decide] at c1; exact c1
    refine lv_aload_n hx hb dX11_fault_4 rfl (lv_at hl 0 rfl) ?_
    refine va_get (D := (dC, dI)) (ci := 11) (v := .int (v 1)) (C := RX11) (T := TX11) (N := 79) hx hb hts inB_11 hown hE.1 hP 0 rfl rfl 2 (by decide) (hts _ k_1322) (fun _ h9 => h9) rfl dX11_fault_5 ?_
    refine lv_goto (tgt := 24) hx hb dX11_fault_8 (by decide) ?_
    exact ret (v 1) () _ _ _ _ _ _ rfl trivial hP hD hS dX11_fault_24 (Nat.le_refl _) (Nat.le_refl _)
set_option maxHeartbeats 4000000 in
set_option maxRecDepth 100000 in
theorem sY_X11_isIn_1 (l : Launch) (dC : Nat → ClassId) (dI : Nat → Nat → Nat) (cy : Nat → ClassId) (y0 : Nat) (r : Nat → Nat) (p0 : Int32) (p1 : Int32) (p2 : Int32) (v : Nat → Int32) (f : Nat → Nat → Int32) (w : Int64) (g : Nat → Int64) (hIv : YI v) (hCf : YC f) (hRf : progOK (f 4) (f 5) (v 9).toInt.toNat)  : ctI l (dC, dI) cy yX11_isIn cX11_isIn 3 .boolean 1 60 0 0 Unit [.int p0, .int p1, .int p2] (YW cy y0 r v f w g) (fun r u => ((r = 1 ∧ p1.toInt ≤ p0.toInt ∧ p0.toInt ≤ p2.toInt) ∨ (r = 0))) (fun u => YW cy y0 r v f w g) := by
  refine ctI_of (by decide) (Nat.le_of_ble_eq_true rfl) (fun p e s m below meth c A ls Q hx hb hml hts hown hE hP hD hA hl ret => ?_)
  have hUv : (v 35).toInt + (v 36).toInt ≤ 40 := hIv.2
  have hown : s.vm.findClass RX11 = some m.cls := hown
  have hS : va_S A s.heap s.heap [] := va_S.rf
  have hl : lv_has ls 3 [(0, .int p0), (1, .int p1), (2, .int p2)] := hl
  refine lv_iload_n hx hb dX11_isIn_0 rfl (lv_at hl 0 rfl) ?_
  refine lv_iload_n hx hb dX11_isIn_1 rfl (lv_at hl 1 rfl) ?_
  refine lv_icmp_lt (tgt := 14) hx hb dX11_isIn_2 (by decide) (fun c1 => ?_) (fun c1 => ?_)
  · skip
    have zc1 : p0.toInt < p1.toInt := by rw [fa_lt] at c1; exact c1
    have rg2 := fb_rng p0
    have rg3 := fb_rng p1
    refine lv_iconst (v := 0) hx hb dX11_isIn_14 (by decide) ?_
    exact ret 0 () _ _ _ _ _ _ rfl (Or.inr rfl) hP hD hS dX11_isIn_15 (Nat.le_refl _) (Nat.le_refl _)
  · skip
    have zc1 : ¬ (p0.toInt < p1.toInt) := by rw [fa_lt] at c1; exact c1
    have rg4 := fb_rng p0
    have rg5 := fb_rng p1
    refine lv_iload_n hx hb dX11_isIn_5 rfl (lv_at hl 0 rfl) ?_
    refine lv_iload_n hx hb dX11_isIn_6 rfl (lv_at hl 2 rfl) ?_
    refine lv_icmp_gt (tgt := 14) hx hb dX11_isIn_7 (by decide) (fun c6 => ?_) (fun c6 => ?_)
    · skip
      have zc6 : p2.toInt < p0.toInt := by rw [fa_lt] at c6; exact c6
      have rg7 := fb_rng p2
      refine lv_iconst (v := 0) hx hb dX11_isIn_14 (by decide) ?_
      exact ret 0 () _ _ _ _ _ _ rfl (Or.inr rfl) hP hD hS dX11_isIn_15 (Nat.le_refl _) (Nat.le_refl _)
    · skip
      have zc6 : ¬ (p2.toInt < p0.toInt) := by rw [fa_lt] at c6; exact c6
      have rg8 := fb_rng p2
      refine lv_iconst (v := 1) hx hb dX11_isIn_10 (by decide) ?_
      refine lv_goto (tgt := 15) hx hb dX11_isIn_11 (by decide) ?_
      exact ret 1 () _ _ _ _ _ _ rfl (Or.inl ⟨rfl, by omega, by omega⟩) hP hD hS dX11_isIn_15 (Nat.le_refl _) (Nat.le_refl _)
set_option maxHeartbeats 4000000 in
set_option maxRecDepth 100000 in
theorem sY_X11_isMan_1 (l : Launch) (dC : Nat → ClassId) (dI : Nat → Nat → Nat) (cy : Nat → ClassId) (y0 : Nat) (r : Nat → Nat) (p1 : Int32) (v : Nat → Int32) (f : Nat → Nat → Int32) (w : Int64) (g : Nat → Int64) (hIv : YI v) (hCf : YC f) (hRf : progOK (f 4) (f 5) (v 9).toInt.toNat)  : ctI l (dC, dI) cy yX11_isMan cX11_isMan 2 .boolean 2 82 0 0 Unit [.ref y0, .int p1] (YW cy y0 r v f w g) (fun r u => ((r = 1 ∧ 0 ≤ p1.toInt ∧ p1.toInt < (v 24).toInt ∧ p1.toInt ≤ 5) ∨ (r = 0))) (fun u => YW cy y0 r v f w g) := by
  refine ctI_of (by decide) (Nat.le_of_ble_eq_true rfl) (fun p e s m below meth c A ls Q hx hb hml hts hown hE hP hD hA hl ret => ?_)
  have hUv : (v 35).toInt + (v 36).toInt ≤ 40 := hIv.2
  have hown : s.vm.findClass RX11 = some m.cls := hown
  have hS : va_S A s.heap s.heap [] := va_S.rf
  have hl : lv_has ls 2 [(0, .ref y0), (1, .int p1)] := hl
  refine lv_iload_n hx hb dX11_isMan_0 rfl (lv_at hl 1 rfl) ?_
  refine lv_iconst (v := 0) hx hb dX11_isMan_1 (by decide) ?_
  refine lv_aload_n hx hb dX11_isMan_2 rfl (lv_at hl 0 rfl) ?_
  refine va_get (D := (dC, dI)) (ci := 11) (v := .int (v 24)) (C := RX11) (T := TX11) (N := 79) hx hb hts inB_11 hown hE.1 hP 0 rfl rfl 48 (by decide) (hts _ k_1368) (fun _ h9 => h9) rfl dX11_isMan_3 ?_
  have b24_v : 0 ≤ (v 24).toInt ∧ (v 24).toInt ≤ 6 := YIb.b hIv.1 24 (by decide)
  refine lv_iconst (v := 1) hx hb dX11_isMan_6 (by decide) ?_
  refine lv_isub hx hb dX11_isMan_7 ?_
  refine lv_topi (fun t1 et1 => ?_)
  have rg2 := fb_rng (v 24)
  have zt1 : t1.toInt = (v 24).toInt - 1 := by rw [et1]; exact sub_i rfl (by decide) (by omega) (by omega)
  have lt3 : (0 : Int32).toInt = 0 := by decide
  refine cbSi (n := 3) (rest := []) hx hb hml hown hts hE hP hD hS hA (sY_X11_isIn_1 l dC dI cy y0 r p1 0 t1 v f w g hIv hCf hRf ) k_1736 k_1737 k_114 k_1738 (by decide +kernel) ⟨Nat.le_of_ble_eq_true rfl, Nat.le_of_ble_eq_true rfl⟩ (rfl) hl.1 rfl (Nat.le_of_ble_eq_true rfl) dX11_isMan_8 (fun r4 u H locs hw hP hD hS => ?_)
  rcases hw with ⟨g5, g5_0, g5_1⟩ | ⟨g5⟩
  · skip
    subst g5
    exact ret 1 () _ _ _ _ _ _ rfl (Or.inl ⟨rfl, by omega, by omega, by omega⟩) hP hD hS dX11_isMan_11 (Nat.le_refl _) (Nat.le_refl _)
  · skip
    subst g5
    exact ret 0 () _ _ _ _ _ _ rfl (Or.inr rfl) hP hD hS dX11_isMan_11 (Nat.le_refl _) (Nat.le_refl _)
set_option maxHeartbeats 4000000 in
set_option maxRecDepth 100000 in
theorem sY_X11_fill_1 (l : Launch) (dC : Nat → ClassId) (dI : Nat → Nat → Nat) (cy : Nat → ClassId) (y0 : Nat) (r : Nat → Nat)  (v : Nat → Int32) (f : Nat → Nat → Int32) (w : Int64) (g : Nat → Int64) (hIv : YI v) (hCf : YC f) (hRf : progOK (f 4) (f 5) (v 9).toInt.toNat)  : ctV l (dC, dI) cy yX11_fill cX11_fill 2 1 60 0 0 ((Nat → Int32) × (Nat → Nat → Int32) × (Int64) × (Nat → Int64)) [.ref y0] (YW cy y0 r v f w g) (fun u => YI u.1 ∧ YC u.2.1 ∧ progOK (u.2.1 4) (u.2.1 5) (u.1 9).toInt.toNat ∧ u.1 0 = v 0 ∧ u.1 3 = v 3 ∧ u.1 4 = v 4 ∧ u.1 8 = v 8 ∧ u.1 9 = v 9 ∧ u.1 10 = v 10 ∧ u.1 24 = v 24 ∧ u.1 25 = v 25 ∧ u.1 35 = v 35 ∧ u.1 36 = v 36 ∧ u.1 38 = v 38 ∧ u.1 39 = v 39) (fun u => YW cy y0 r u.1 u.2.1 u.2.2.1 u.2.2.2) := by
  refine ctV_of (by decide) (Nat.le_of_ble_eq_true rfl) (fun p e s m below meth c A ls Q hx hb hml hts hown hnm hE hP hD hA hl ret => ?_)
  have hUv : (v 35).toInt + (v 36).toInt ≤ 40 := hIv.2
  have hown : s.vm.findClass RX11 = some m.cls := hown
  have hS : va_S A s.heap s.heap [] := va_S.rf
  have hl : lv_has ls 2 [(0, .ref y0)] := hl
  refine lv_iconst (v := 0) hx hb dX11_fill_0 (by decide) ?_
  refine lv_istore_n (lv' := [(1, .int 0), (0, .ref y0)]) hx hb dX11_fill_1 rfl hl (by decide) rfl (fun ls hl => ?_)
  have lp1 : ∀ (n1 : Nat) (l1_1 : Int32) (v1 : Nat → Int32) (f1 : Nat → Nat → Int32) (w1 : Int64) (g1 : Nat → Int64), YI v1 → YC f1 → progOK (f1 4) (f1 5) (v1 9).toInt.toNat → v1 0 = (v 0) → v1 3 = (v 3) → v1 4 = (v 4) → v1 8 = (v 8) → v1 9 = (v 9) → v1 10 = (v 10) → v1 24 = (v 24) → v1 25 = (v 25) → v1 35 = (v 35) → v1 36 = (v 36) → v1 38 = (v 38) → v1 39 = (v 39) → ((0 : Int) ≤ l1_1.toInt ∧ l1_1.toInt ≤ 2147483647) → (2147483647 - l1_1.toInt).toNat < n1 → ∀ (H : Heap) (locs : List Loc) (ls : Array Slot), va_P (dC, dI) vwCl (YW cy y0 r v1 f1 w1 g1) H → va_D A (YW cy y0 r v1 f1 w1 g1) → va_S A s.heap H locs → lv_has ls 2 [(1, .int l1_1), (0, .ref y0)] → W p l e { frames := 1, cells := 0, slots := 0, locals := 60 } s m ([.ref y0] : List Value).toArray below meth c H locs 0 0 Q (F0 m 2 ls []) := by
    intro n1
    induction n1 with
    | zero => intro l1_1 v1 f1 w1 g1 hIv1 hCf1 hRf1 hq0_v1 hq3_v1 hq4_v1 hq8_v1 hq9_v1 hq10_v1 hq24_v1 hq25_v1 hq35_v1 hq36_v1 hq38_v1 hq39_v1 hr1_1 hm; exact absurd hm (Nat.not_lt_zero _)
    | succ n1 ih1 =>
      intro l1_1 v1 f1 w1 g1 hIv1 hCf1 hRf1 hq0_v1 hq3_v1 hq4_v1 hq8_v1 hq9_v1 hq10_v1 hq24_v1 hq25_v1 hq35_v1 hq36_v1 hq38_v1 hq39_v1 hr1_1 hm1 H locs ls hP hD hS hl
      have hUv1 : (v1 35).toInt + (v1 36).toInt ≤ 40 := hIv1.2
      have zq9_v1 := congrArg Int32.toInt hq9_v1
      have zq35_v1 := congrArg Int32.toInt hq35_v1
      have zq36_v1 := congrArg Int32.toInt hq36_v1
      refine lv_iload_n hx hb dX11_fill_2 rfl (lv_at hl 0 rfl) ?_
      refine lv_bipush (v := 39) hx hb dX11_fill_3 (by decide) ?_
      refine lv_icmp_ge (tgt := 26) hx hb dX11_fill_5 (by decide) (fun c2 => ?_) (fun c2 => ?_)
      · skip
        have zc2 : 39 ≤ l1_1.toInt := by rw [fa_le, show (39 : Int32).toInt = 39 from by decide] at c2; exact c2
        exact ret (v1, f1, w1, g1) _ _ _ _ _ _ ⟨hIv1, hCf1, hRf1, (show v1 0 = v 0 from hq0_v1), (show v1 3 = v 3 from hq3_v1), (show v1 4 = v 4 from hq4_v1), (show v1 8 = v 8 from hq8_v1), (show v1 9 = v 9 from hq9_v1), (show v1 10 = v 10 from hq10_v1), (show v1 24 = v 24 from hq24_v1), (show v1 25 = v 25 from hq25_v1), (show v1 35 = v 35 from hq35_v1), (show v1 36 = v 36 from hq36_v1), (show v1 38 = v 38 from hq38_v1), (show v1 39 = v 39 from hq39_v1)⟩ hP hD hS dX11_fill_26 (Nat.le_refl _) (Nat.le_refl _)
      · skip
        have zc2 : ¬ (39 ≤ l1_1.toInt) := by rw [fa_le, show (39 : Int32).toInt = 39 from by decide] at c2; exact c2
        refine lv_aload_n hx hb dX11_fill_8 rfl (lv_at hl 1 rfl) ?_
        refine va_get (D := (dC, dI)) (ci := 11) (v := .ref (r 60)) (C := RX11) (T := TX11) (N := 79) hx hb hts inB_11 hown hE.1 hP 0 rfl rfl 60 (by decide) (hts _ k_1380) (fun _ h9 => h9) rfl dX11_fill_9 ?_
        refine lv_iload_n hx hb dX11_fill_12 rfl (lv_at hl 0 rfl) ?_
        refine lv_aload_n hx hb dX11_fill_13 rfl (lv_at hl 1 rfl) ?_
        refine va_get (D := (dC, dI)) (ci := 11) (v := .ref (r 59)) (C := RX11) (T := TX11) (N := 79) hx hb hts inB_11 hown hE.1 hP 0 rfl rfl 59 (by decide) (hts _ k_1379) (fun _ h9 => h9) rfl dX11_fill_14 ?_
        refine lv_iload_n hx hb dX11_fill_17 rfl (lv_at hl 0 rfl) ?_
        refine ldI hx hb hE hP 24 rfl (vp_in_iff.mpr ⟨by omega, by omega⟩) rfl rfl dX11_fill_18 ?_
        refine lv_topi (fun t3 et3 => ?_)
        have zt3 : l1_1.toInt.toNat % 39 < 6 ∨ 12 ≤ l1_1.toInt.toNat % 39 ∨ (-1 ≤ t3.toInt ∧ t3.toInt ≤ 5) := by rw [et3]; exact wear_ld hCf1.1 (show l1_1.toInt.toNat < 39 by omega)
        refine stI hx hb hE hP hD hS 25 rfl (vp_in_iff.mpr ⟨by omega, by omega⟩) rfl dX11_fill_19 (fun H locs hP hD hS => ?_)
        obtain ⟨f4, ef4, hP, hD⟩ : ∃ fz9, fz9 = upd2 f1 24 (upd (f1 24) l1_1.toNatClampNeg t3) ∧ va_P (dC, dI) vwCl (YW cy y0 r v1 fz9 w1 g1) H ∧ va_D A (YW cy y0 r v1 fz9 w1 g1) := ⟨_, rfl, hP, hD⟩
        have hCf4 : YC f4 := by rw [ef4]; exact ⟨hCf1.1, (wear_st hCf1.2.1 (by show l1_1.toInt.toNat % 39 < 6 ∨ 12 ≤ l1_1.toInt.toNat % 39 ∨ (-1 ≤ t3.toInt ∧ t3.toInt ≤ 5); omega)), hCf1.2.2.1, hCf1.2.2.2.1, hCf1.2.2.2.2.1, hCf1.2.2.2.2.2⟩
        have hRf4 : progOK (f4 4) (f4 5) (v1 9).toInt.toNat := by rw [ef4]; exact hRf1
        obtain ⟨t5, et5⟩ : ∃ y : Int32, y = l1_1 + 1 := ⟨_, rfl⟩
        have rg6 := fb_rng l1_1
        have zt5 : t5.toInt = l1_1.toInt + 1 := by rw [et5]; exact add_i rfl (by decide) (by omega) (by omega)
        refine lv_iinc (v := t5) (lv' := [(1, .int t5), (0, .ref y0)]) hx hb dX11_fill_20 hl (k := 0) rfl (by rw [et5]; rfl) (by decide) rfl (fun ls hl => ?_)
        refine lv_goto (tgt := 2) hx hb dX11_fill_23 (by decide) ?_
        have rg7 := fb_rng t5
        exact ih1 t5 v1 f4 w1 g1 hIv1 hCf4 hRf4 hq0_v1 hq3_v1 hq4_v1 hq8_v1 hq9_v1 hq10_v1 hq24_v1 hq25_v1 hq35_v1 hq36_v1 hq38_v1 hq39_v1 ⟨show (0 : Int) ≤ t5.toInt by omega, show t5.toInt ≤ (2147483647 : Int) by omega⟩ (by show (2147483647 - t5.toInt).toNat < n1; omega) _ _ _ hP hD hS (lv_sub hl [0, 1] rfl)
  exact lp1 _ 0 v f w g hIv hCf hRf rfl rfl rfl rfl rfl rfl rfl rfl rfl rfl rfl rfl ⟨by decide, by decide⟩ (Nat.lt_succ_self _) _ _ _ hP hD hS (lv_sub hl [0, 1] rfl)
set_option maxHeartbeats 4000000 in
set_option maxRecDepth 100000 in
theorem sY_X11_over_1 (l : Launch) (dC : Nat → ClassId) (dI : Nat → Nat → Nat) (cy : Nat → ClassId) (y0 : Nat) (r : Nat → Nat) (p0 : Int32) (p1 : Int32) (v : Nat → Int32) (f : Nat → Nat → Int32) (w : Int64) (g : Nat → Int64) (hIv : YI v) (hCf : YC f) (hRf : progOK (f 4) (f 5) (v 9).toInt.toNat)  : ctI l (dC, dI) cy yX11_over cX11_over 2 .int 1 60 0 0 Unit [.int p0, .int p1] (YW cy y0 r v f w g) (fun r u => True) (fun u => YW cy y0 r v f w g) := by
  refine ctI_of (by decide) (Nat.le_of_ble_eq_true rfl) (fun p e s m below meth c A ls Q hx hb hml hts hown hE hP hD hA hl ret => ?_)
  have hUv : (v 35).toInt + (v 36).toInt ≤ 40 := hIv.2
  have hown : s.vm.findClass RX11 = some m.cls := hown
  have hS : va_S A s.heap s.heap [] := va_S.rf
  have hl : lv_has ls 2 [(0, .int p0), (1, .int p1)] := hl
  refine lv_iload_n hx hb dX11_over_0 rfl (lv_at hl 0 rfl) ?_
  refine lv_iload_n hx hb dX11_over_1 rfl (lv_at hl 1 rfl) ?_
  refine lv_icmp_le (tgt := 11) hx hb dX11_over_2 (by decide) (fun c1 => ?_) (fun c1 => ?_)
  · skip
    have zc1 : p0.toInt ≤ p1.toInt := by rw [fa_le] at c1; exact c1
    have rg2 := fb_rng p0
    have rg3 := fb_rng p1
    refine lv_iconst (v := 0) hx hb dX11_over_11 (by decide) ?_
    exact ret 0 () _ _ _ _ _ _ rfl trivial hP hD hS dX11_over_12 (Nat.le_refl _) (Nat.le_refl _)
  · skip
    have zc1 : ¬ (p0.toInt ≤ p1.toInt) := by rw [fa_le] at c1; exact c1
    have rg4 := fb_rng p0
    have rg5 := fb_rng p1
    refine lv_iload_n hx hb dX11_over_5 rfl (lv_at hl 0 rfl) ?_
    refine lv_iload_n hx hb dX11_over_6 rfl (lv_at hl 1 rfl) ?_
    refine lv_isub hx hb dX11_over_7 ?_
    refine lv_topi (fun t6 et6 => ?_)
    refine lv_goto (tgt := 12) hx hb dX11_over_8 (by decide) ?_
    exact ret t6 () _ _ _ _ _ _ rfl trivial hP hD hS dX11_over_12 (Nat.le_refl _) (Nat.le_refl _)
set_option maxHeartbeats 4000000 in
set_option maxRecDepth 100000 in
theorem sY_X11_within_1 (l : Launch) (dC : Nat → ClassId) (dI : Nat → Nat → Nat) (cy : Nat → ClassId) (y0 : Nat) (r : Nat → Nat) (p0 : Int32) (p1 : Int32) (v : Nat → Int32) (f : Nat → Nat → Int32) (w : Int64) (g : Nat → Int64) (hIv : YI v) (hCf : YC f) (hRf : progOK (f 4) (f 5) (v 9).toInt.toNat)  : ctI l (dC, dI) cy yX11_within cX11_within 2 .int 1 60 0 0 Unit [.int p0, .int p1] (YW cy y0 r v f w g) (fun r u => True) (fun u => YW cy y0 r v f w g) := by
  refine ctI_of (by decide) (Nat.le_of_ble_eq_true rfl) (fun p e s m below meth c A ls Q hx hb hml hts hown hE hP hD hA hl ret => ?_)
  have hUv : (v 35).toInt + (v 36).toInt ≤ 40 := hIv.2
  have hown : s.vm.findClass RX11 = some m.cls := hown
  have hS : va_S A s.heap s.heap [] := va_S.rf
  have hl : lv_has ls 2 [(0, .int p0), (1, .int p1)] := hl
  refine lv_iload_n hx hb dX11_within_0 rfl (lv_at hl 0 rfl) ?_
  refine lv_if_ge (tgt := 8) hx hb dX11_within_1 (by decide) (fun c1 => ?_) (fun c1 => ?_)
  · skip
    have zc1 : 0 ≤ p0.toInt := by rw [fa_le, show (0 : Int32).toInt = 0 from by decide] at c1; exact c1
    refine lv_iload_n hx hb dX11_within_8 rfl (lv_at hl 0 rfl) ?_
    refine lv_iload_n hx hb dX11_within_9 rfl (lv_at hl 1 rfl) ?_
    refine lv_icmp_le (tgt := 17) hx hb dX11_within_10 (by decide) (fun c2 => ?_) (fun c2 => ?_)
    · skip
      have zc2 : p0.toInt ≤ p1.toInt := by rw [fa_le] at c2; exact c2
      have rg3 := fb_rng p0
      have rg4 := fb_rng p1
      refine lv_iload_n hx hb dX11_within_17 rfl (lv_at hl 0 rfl) ?_
      exact ret p0 () _ _ _ _ _ _ rfl trivial hP hD hS dX11_within_18 (Nat.le_refl _) (Nat.le_refl _)
    · skip
      have zc2 : ¬ (p0.toInt ≤ p1.toInt) := by rw [fa_le] at c2; exact c2
      have rg5 := fb_rng p0
      have rg6 := fb_rng p1
      refine lv_iload_n hx hb dX11_within_13 rfl (lv_at hl 1 rfl) ?_
      refine lv_goto (tgt := 18) hx hb dX11_within_14 (by decide) ?_
      exact ret p1 () _ _ _ _ _ _ rfl trivial hP hD hS dX11_within_18 (Nat.le_refl _) (Nat.le_refl _)
  · skip
    have zc1 : ¬ (0 ≤ p0.toInt) := by rw [fa_le, show (0 : Int32).toInt = 0 from by decide] at c1; exact c1
    refine lv_iconst (v := 0) hx hb dX11_within_4 (by decide) ?_
    refine lv_goto (tgt := 18) hx hb dX11_within_5 (by decide) ?_
    exact ret 0 () _ _ _ _ _ _ rfl trivial hP hD hS dX11_within_18 (Nat.le_refl _) (Nat.le_refl _)
set_option maxHeartbeats 4000000 in
set_option maxRecDepth 100000 in
theorem sY_X11_truth_1 (l : Launch) (dC : Nat → ClassId) (dI : Nat → Nat → Nat) (cy : Nat → ClassId) (y0 : Nat) (r : Nat → Nat) (p0 : Int32) (v : Nat → Int32) (f : Nat → Nat → Int32) (w : Int64) (g : Nat → Int64) (hIv : YI v) (hCf : YC f) (hRf : progOK (f 4) (f 5) (v 9).toInt.toNat)  : ctI l (dC, dI) cy yX11_truth cX11_truth 1 .int 1 60 0 0 Unit [.int p0] (YW cy y0 r v f w g) (fun r u => ((0 : Int) ≤ r.toInt ∧ r.toInt ≤ 1)) (fun u => YW cy y0 r v f w g) := by
  refine ctI_of (by decide) (Nat.le_of_ble_eq_true rfl) (fun p e s m below meth c A ls Q hx hb hml hts hown hE hP hD hA hl ret => ?_)
  have hUv : (v 35).toInt + (v 36).toInt ≤ 40 := hIv.2
  have hown : s.vm.findClass RX11 = some m.cls := hown
  have hS : va_S A s.heap s.heap [] := va_S.rf
  have hl : lv_has ls 1 [(0, .int p0)] := hl
  refine lv_iload_n hx hb dX11_truth_0 rfl (lv_at hl 0 rfl) ?_
  refine lv_if_eq (tgt := 8) hx hb dX11_truth_1 (by decide) (fun c1 => ?_) (fun c1 => ?_)
  · skip
    have zc1 : p0.toInt = 0 := by rw [fa_eq, show (0 : Int32).toInt = 0 from by decide] at c1; exact c1
    refine lv_iconst (v := 0) hx hb dX11_truth_8 (by decide) ?_
    exact ret 0 () _ _ _ _ _ _ rfl ⟨by decide, by decide⟩ hP hD hS dX11_truth_9 (Nat.le_refl _) (Nat.le_refl _)
  · skip
    have zc1 : ¬ (p0.toInt = 0) := by rw [fa_eq, show (0 : Int32).toInt = 0 from by decide] at c1; exact c1
    refine lv_iconst (v := 1) hx hb dX11_truth_4 (by decide) ?_
    refine lv_goto (tgt := 9) hx hb dX11_truth_5 (by decide) ?_
    exact ret 1 () _ _ _ _ _ _ rfl ⟨by decide, by decide⟩ hP hD hS dX11_truth_9 (Nat.le_refl _) (Nat.le_refl _)
set_option maxHeartbeats 4000000 in
set_option maxRecDepth 100000 in
theorem sY_X11_done_1 (l : Launch) (dC : Nat → ClassId) (dI : Nat → Nat → Nat) (cy : Nat → ClassId) (y0 : Nat) (r : Nat → Nat) (p0 : Int32) (p1 : Int32) (p2 : Int32) (v : Nat → Int32) (f : Nat → Nat → Int32) (w : Int64) (g : Nat → Int64) (hIv : YI v) (hCf : YC f) (hRf : progOK (f 4) (f 5) (v 9).toInt.toNat)  : ctI l (dC, dI) cy yX11_done cX11_done 3 .int 2 80 0 0 Unit [.int p0, .int p1, .int p2] (YW cy y0 r v f w g) (fun r u => True) (fun u => YW cy y0 r v f w g) := by
  refine ctI_of (by decide) (Nat.le_of_ble_eq_true rfl) (fun p e s m below meth c A ls Q hx hb hml hts hown hE hP hD hA hl ret => ?_)
  have hUv : (v 35).toInt + (v 36).toInt ≤ 40 := hIv.2
  have hown : s.vm.findClass RX11 = some m.cls := hown
  have hS : va_S A s.heap s.heap [] := va_S.rf
  have hl : lv_has ls 3 [(0, .int p0), (1, .int p1), (2, .int p2)] := hl
  refine lv_iload_n hx hb dX11_done_0 rfl (lv_at hl 0 rfl) ?_
  by_cases c1 : p0 = 37
  · skip
    refine lv_tableIn (off := 143) (tgt := 144) hx hb dX11_done_1 (by rw [c1]; decide) (by rw [c1]; decide) (by rw [c1]; decide) (by decide) ?_
    have zc1 : p0.toInt = 37 := by rw [fa_eq, show (37 : Int32).toInt = 37 from by decide] at c1; exact c1
    refine lv_iload_n hx hb dX11_done_144 rfl (lv_at hl 2 rfl) ?_
    refine lv_if_ne (tgt := 152) hx hb dX11_done_145 (by decide) (fun c2 => ?_) (fun c2 => ?_)
    · skip
      have zc2 : ¬ (p2.toInt = 0) := by rw [fa_eq, show (0 : Int32).toInt = 0 from by decide] at c2; exact c2
      refine lv_iload_n hx hb dX11_done_152 rfl (lv_at hl 1 rfl) ?_
      refine lv_iload_n hx hb dX11_done_153 rfl (lv_at hl 2 rfl) ?_
      refine lv_irem hx hb dX11_done_154 (ne0 (by omega)) ?_
      refine lv_topi (fun t3 et3 => ?_)
      exact ret t3 () _ _ _ _ _ _ rfl trivial hP hD hS dX11_done_155 (Nat.le_refl _) (Nat.le_refl _)
    · skip
      have zc2 : p2.toInt = 0 := by rw [fa_eq, show (0 : Int32).toInt = 0 from by decide] at c2; exact c2
      refine lv_iconst (v := 0) hx hb dX11_done_148 (by decide) ?_
      refine lv_goto (tgt := 155) hx hb dX11_done_149 (by decide) ?_
      exact ret 0 () _ _ _ _ _ _ rfl trivial hP hD hS dX11_done_155 (Nat.le_refl _) (Nat.le_refl _)
  · skip
    have zc1 : ¬ (p0.toInt = 37) := by rw [fa_eq, show (37 : Int32).toInt = 37 from by decide] at c1; exact c1
    by_cases c4 : p0 = 38
    · skip
      refine lv_tableIn (off := 197) (tgt := 198) hx hb dX11_done_1 (by rw [c4]; decide) (by rw [c4]; decide) (by rw [c4]; decide) (by decide) ?_
      have zc4 : p0.toInt = 38 := by rw [fa_eq, show (38 : Int32).toInt = 38 from by decide] at c4; exact c4
      refine lv_iload_n hx hb dX11_done_198 rfl (lv_at hl 1 rfl) ?_
      refine lv_if_eq (tgt := 210) hx hb dX11_done_199 (by decide) (fun c5 => ?_) (fun c5 => ?_)
      · skip
        have zc5 : p1.toInt = 0 := by rw [fa_eq, show (0 : Int32).toInt = 0 from by decide] at c5; exact c5
        refine lv_iconst (v := 0) hx hb dX11_done_210 (by decide) ?_
        have lt6 : (0 : Int32).toInt = 0 := by decide
        refine cbSi (n := 1) (rest := []) hx hb hml hown hts hE hP hD hS hA (sY_X11_truth_1 l dC dI cy y0 r 0 v f w g hIv hCf hRf ) k_1761 k_1762 k_114 k_1763 (by decide +kernel) ⟨Nat.le_of_ble_eq_true rfl, Nat.le_of_ble_eq_true rfl⟩ (rfl) hl.1 rfl (Nat.le_of_ble_eq_true rfl) dX11_done_211 (fun r7 u H locs hw hP hD hS => ?_)
        exact ret r7 () _ _ _ _ _ _ rfl trivial hP hD hS dX11_done_214 (Nat.le_refl _) (Nat.le_refl _)
      · skip
        have zc5 : ¬ (p1.toInt = 0) := by rw [fa_eq, show (0 : Int32).toInt = 0 from by decide] at c5; exact c5
        refine lv_iload_n hx hb dX11_done_202 rfl (lv_at hl 2 rfl) ?_
        refine lv_if_eq (tgt := 210) hx hb dX11_done_203 (by decide) (fun c8 => ?_) (fun c8 => ?_)
        · skip
          have zc8 : p2.toInt = 0 := by rw [fa_eq, show (0 : Int32).toInt = 0 from by decide] at c8; exact c8
          refine lv_iconst (v := 0) hx hb dX11_done_210 (by decide) ?_
          have lt9 : (0 : Int32).toInt = 0 := by decide
          refine cbSi (n := 1) (rest := []) hx hb hml hown hts hE hP hD hS hA (sY_X11_truth_1 l dC dI cy y0 r 0 v f w g hIv hCf hRf ) k_1761 k_1762 k_114 k_1763 (by decide +kernel) ⟨Nat.le_of_ble_eq_true rfl, Nat.le_of_ble_eq_true rfl⟩ (rfl) hl.1 rfl (Nat.le_of_ble_eq_true rfl) dX11_done_211 (fun r10 u H locs hw hP hD hS => ?_)
          exact ret r10 () _ _ _ _ _ _ rfl trivial hP hD hS dX11_done_214 (Nat.le_refl _) (Nat.le_refl _)
        · skip
          have zc8 : ¬ (p2.toInt = 0) := by rw [fa_eq, show (0 : Int32).toInt = 0 from by decide] at c8; exact c8
          refine lv_iconst (v := 1) hx hb dX11_done_206 (by decide) ?_
          refine lv_goto (tgt := 211) hx hb dX11_done_207 (by decide) ?_
          have lt11 : (1 : Int32).toInt = 1 := by decide
          refine cbSi (n := 1) (rest := []) hx hb hml hown hts hE hP hD hS hA (sY_X11_truth_1 l dC dI cy y0 r 1 v f w g hIv hCf hRf ) k_1761 k_1762 k_114 k_1763 (by decide +kernel) ⟨Nat.le_of_ble_eq_true rfl, Nat.le_of_ble_eq_true rfl⟩ (rfl) hl.1 rfl (Nat.le_of_ble_eq_true rfl) dX11_done_211 (fun r12 u H locs hw hP hD hS => ?_)
          exact ret r12 () _ _ _ _ _ _ rfl trivial hP hD hS dX11_done_214 (Nat.le_refl _) (Nat.le_refl _)
    · skip
      have zc4 : ¬ (p0.toInt = 38) := by rw [fa_eq, show (38 : Int32).toInt = 38 from by decide] at c4; exact c4
      by_cases c13 : p0 = 39
      · skip
        refine lv_tableIn (off := 214) (tgt := 215) hx hb dX11_done_1 (by rw [c13]; decide) (by rw [c13]; decide) (by rw [c13]; decide) (by decide) ?_
        have zc13 : p0.toInt = 39 := by rw [fa_eq, show (39 : Int32).toInt = 39 from by decide] at c13; exact c13
        refine lv_iload_n hx hb dX11_done_215 rfl (lv_at hl 1 rfl) ?_
        refine lv_if_ne (tgt := 223) hx hb dX11_done_216 (by decide) (fun c14 => ?_) (fun c14 => ?_)
        · skip
          have zc14 : ¬ (p1.toInt = 0) := by rw [fa_eq, show (0 : Int32).toInt = 0 from by decide] at c14; exact c14
          refine lv_iconst (v := 1) hx hb dX11_done_223 (by decide) ?_
          refine lv_goto (tgt := 228) hx hb dX11_done_224 (by decide) ?_
          have lt15 : (1 : Int32).toInt = 1 := by decide
          refine cbSi (n := 1) (rest := []) hx hb hml hown hts hE hP hD hS hA (sY_X11_truth_1 l dC dI cy y0 r 1 v f w g hIv hCf hRf ) k_1761 k_1762 k_114 k_1763 (by decide +kernel) ⟨Nat.le_of_ble_eq_true rfl, Nat.le_of_ble_eq_true rfl⟩ (rfl) hl.1 rfl (Nat.le_of_ble_eq_true rfl) dX11_done_228 (fun r16 u H locs hw hP hD hS => ?_)
          exact ret r16 () _ _ _ _ _ _ rfl trivial hP hD hS dX11_done_231 (Nat.le_refl _) (Nat.le_refl _)
        · skip
          have zc14 : p1.toInt = 0 := by rw [fa_eq, show (0 : Int32).toInt = 0 from by decide] at c14; exact c14
          refine lv_iload_n hx hb dX11_done_219 rfl (lv_at hl 2 rfl) ?_
          refine lv_if_eq (tgt := 227) hx hb dX11_done_220 (by decide) (fun c17 => ?_) (fun c17 => ?_)
          · skip
            have zc17 : p2.toInt = 0 := by rw [fa_eq, show (0 : Int32).toInt = 0 from by decide] at c17; exact c17
            refine lv_iconst (v := 0) hx hb dX11_done_227 (by decide) ?_
            have lt18 : (0 : Int32).toInt = 0 := by decide
            refine cbSi (n := 1) (rest := []) hx hb hml hown hts hE hP hD hS hA (sY_X11_truth_1 l dC dI cy y0 r 0 v f w g hIv hCf hRf ) k_1761 k_1762 k_114 k_1763 (by decide +kernel) ⟨Nat.le_of_ble_eq_true rfl, Nat.le_of_ble_eq_true rfl⟩ (rfl) hl.1 rfl (Nat.le_of_ble_eq_true rfl) dX11_done_228 (fun r19 u H locs hw hP hD hS => ?_)
            exact ret r19 () _ _ _ _ _ _ rfl trivial hP hD hS dX11_done_231 (Nat.le_refl _) (Nat.le_refl _)
          · skip
            have zc17 : ¬ (p2.toInt = 0) := by rw [fa_eq, show (0 : Int32).toInt = 0 from by decide] at c17; exact c17
            refine lv_iconst (v := 1) hx hb dX11_done_223 (by decide) ?_
            refine lv_goto (tgt := 228) hx hb dX11_done_224 (by decide) ?_
            have lt20 : (1 : Int32).toInt = 1 := by decide
            refine cbSi (n := 1) (rest := []) hx hb hml hown hts hE hP hD hS hA (sY_X11_truth_1 l dC dI cy y0 r 1 v f w g hIv hCf hRf ) k_1761 k_1762 k_114 k_1763 (by decide +kernel) ⟨Nat.le_of_ble_eq_true rfl, Nat.le_of_ble_eq_true rfl⟩ (rfl) hl.1 rfl (Nat.le_of_ble_eq_true rfl) dX11_done_228 (fun r21 u H locs hw hP hD hS => ?_)
            exact ret r21 () _ _ _ _ _ _ rfl trivial hP hD hS dX11_done_231 (Nat.le_refl _) (Nat.le_refl _)
      · skip
        have zc13 : ¬ (p0.toInt = 39) := by rw [fa_eq, show (39 : Int32).toInt = 39 from by decide] at c13; exact c13
        by_cases c22 : p0 = 40
        · skip
          refine lv_tableIn (off := 214) (tgt := 215) hx hb dX11_done_1 (by rw [c22]; decide) (by rw [c22]; decide) (by rw [c22]; decide) (by decide) ?_
          have zc22 : p0.toInt = 40 := by rw [fa_eq, show (40 : Int32).toInt = 40 from by decide] at c22; exact c22
          refine lv_iload_n hx hb dX11_done_215 rfl (lv_at hl 1 rfl) ?_
          refine lv_if_ne (tgt := 223) hx hb dX11_done_216 (by decide) (fun c23 => ?_) (fun c23 => ?_)
          · skip
            have zc23 : ¬ (p1.toInt = 0) := by rw [fa_eq, show (0 : Int32).toInt = 0 from by decide] at c23; exact c23
            refine lv_iconst (v := 1) hx hb dX11_done_223 (by decide) ?_
            refine lv_goto (tgt := 228) hx hb dX11_done_224 (by decide) ?_
            have lt24 : (1 : Int32).toInt = 1 := by decide
            refine cbSi (n := 1) (rest := []) hx hb hml hown hts hE hP hD hS hA (sY_X11_truth_1 l dC dI cy y0 r 1 v f w g hIv hCf hRf ) k_1761 k_1762 k_114 k_1763 (by decide +kernel) ⟨Nat.le_of_ble_eq_true rfl, Nat.le_of_ble_eq_true rfl⟩ (rfl) hl.1 rfl (Nat.le_of_ble_eq_true rfl) dX11_done_228 (fun r25 u H locs hw hP hD hS => ?_)
            exact ret r25 () _ _ _ _ _ _ rfl trivial hP hD hS dX11_done_231 (Nat.le_refl _) (Nat.le_refl _)
          · skip
            have zc23 : p1.toInt = 0 := by rw [fa_eq, show (0 : Int32).toInt = 0 from by decide] at c23; exact c23
            refine lv_iload_n hx hb dX11_done_219 rfl (lv_at hl 2 rfl) ?_
            refine lv_if_eq (tgt := 227) hx hb dX11_done_220 (by decide) (fun c26 => ?_) (fun c26 => ?_)
            · skip
              have zc26 : p2.toInt = 0 := by rw [fa_eq, show (0 : Int32).toInt = 0 from by decide] at c26; exact c26
              refine lv_iconst (v := 0) hx hb dX11_done_227 (by decide) ?_
              have lt27 : (0 : Int32).toInt = 0 := by decide
              refine cbSi (n := 1) (rest := []) hx hb hml hown hts hE hP hD hS hA (sY_X11_truth_1 l dC dI cy y0 r 0 v f w g hIv hCf hRf ) k_1761 k_1762 k_114 k_1763 (by decide +kernel) ⟨Nat.le_of_ble_eq_true rfl, Nat.le_of_ble_eq_true rfl⟩ (rfl) hl.1 rfl (Nat.le_of_ble_eq_true rfl) dX11_done_228 (fun r28 u H locs hw hP hD hS => ?_)
              exact ret r28 () _ _ _ _ _ _ rfl trivial hP hD hS dX11_done_231 (Nat.le_refl _) (Nat.le_refl _)
            · skip
              have zc26 : ¬ (p2.toInt = 0) := by rw [fa_eq, show (0 : Int32).toInt = 0 from by decide] at c26; exact c26
              refine lv_iconst (v := 1) hx hb dX11_done_223 (by decide) ?_
              refine lv_goto (tgt := 228) hx hb dX11_done_224 (by decide) ?_
              have lt29 : (1 : Int32).toInt = 1 := by decide
              refine cbSi (n := 1) (rest := []) hx hb hml hown hts hE hP hD hS hA (sY_X11_truth_1 l dC dI cy y0 r 1 v f w g hIv hCf hRf ) k_1761 k_1762 k_114 k_1763 (by decide +kernel) ⟨Nat.le_of_ble_eq_true rfl, Nat.le_of_ble_eq_true rfl⟩ (rfl) hl.1 rfl (Nat.le_of_ble_eq_true rfl) dX11_done_228 (fun r30 u H locs hw hP hD hS => ?_)
              exact ret r30 () _ _ _ _ _ _ rfl trivial hP hD hS dX11_done_231 (Nat.le_refl _) (Nat.le_refl _)
        · skip
          have zc22 : ¬ (p0.toInt = 40) := by rw [fa_eq, show (40 : Int32).toInt = 40 from by decide] at c22; exact c22
          by_cases c31 : p0 = 41
          · skip
            refine lv_tableIn (off := 214) (tgt := 215) hx hb dX11_done_1 (by rw [c31]; decide) (by rw [c31]; decide) (by rw [c31]; decide) (by decide) ?_
            have zc31 : p0.toInt = 41 := by rw [fa_eq, show (41 : Int32).toInt = 41 from by decide] at c31; exact c31
            refine lv_iload_n hx hb dX11_done_215 rfl (lv_at hl 1 rfl) ?_
            refine lv_if_ne (tgt := 223) hx hb dX11_done_216 (by decide) (fun c32 => ?_) (fun c32 => ?_)
            · skip
              have zc32 : ¬ (p1.toInt = 0) := by rw [fa_eq, show (0 : Int32).toInt = 0 from by decide] at c32; exact c32
              refine lv_iconst (v := 1) hx hb dX11_done_223 (by decide) ?_
              refine lv_goto (tgt := 228) hx hb dX11_done_224 (by decide) ?_
              have lt33 : (1 : Int32).toInt = 1 := by decide
              refine cbSi (n := 1) (rest := []) hx hb hml hown hts hE hP hD hS hA (sY_X11_truth_1 l dC dI cy y0 r 1 v f w g hIv hCf hRf ) k_1761 k_1762 k_114 k_1763 (by decide +kernel) ⟨Nat.le_of_ble_eq_true rfl, Nat.le_of_ble_eq_true rfl⟩ (rfl) hl.1 rfl (Nat.le_of_ble_eq_true rfl) dX11_done_228 (fun r34 u H locs hw hP hD hS => ?_)
              exact ret r34 () _ _ _ _ _ _ rfl trivial hP hD hS dX11_done_231 (Nat.le_refl _) (Nat.le_refl _)
            · skip
              have zc32 : p1.toInt = 0 := by rw [fa_eq, show (0 : Int32).toInt = 0 from by decide] at c32; exact c32
              refine lv_iload_n hx hb dX11_done_219 rfl (lv_at hl 2 rfl) ?_
              refine lv_if_eq (tgt := 227) hx hb dX11_done_220 (by decide) (fun c35 => ?_) (fun c35 => ?_)
              · skip
                have zc35 : p2.toInt = 0 := by rw [fa_eq, show (0 : Int32).toInt = 0 from by decide] at c35; exact c35
                refine lv_iconst (v := 0) hx hb dX11_done_227 (by decide) ?_
                have lt36 : (0 : Int32).toInt = 0 := by decide
                refine cbSi (n := 1) (rest := []) hx hb hml hown hts hE hP hD hS hA (sY_X11_truth_1 l dC dI cy y0 r 0 v f w g hIv hCf hRf ) k_1761 k_1762 k_114 k_1763 (by decide +kernel) ⟨Nat.le_of_ble_eq_true rfl, Nat.le_of_ble_eq_true rfl⟩ (rfl) hl.1 rfl (Nat.le_of_ble_eq_true rfl) dX11_done_228 (fun r37 u H locs hw hP hD hS => ?_)
                exact ret r37 () _ _ _ _ _ _ rfl trivial hP hD hS dX11_done_231 (Nat.le_refl _) (Nat.le_refl _)
              · skip
                have zc35 : ¬ (p2.toInt = 0) := by rw [fa_eq, show (0 : Int32).toInt = 0 from by decide] at c35; exact c35
                refine lv_iconst (v := 1) hx hb dX11_done_223 (by decide) ?_
                refine lv_goto (tgt := 228) hx hb dX11_done_224 (by decide) ?_
                have lt38 : (1 : Int32).toInt = 1 := by decide
                refine cbSi (n := 1) (rest := []) hx hb hml hown hts hE hP hD hS hA (sY_X11_truth_1 l dC dI cy y0 r 1 v f w g hIv hCf hRf ) k_1761 k_1762 k_114 k_1763 (by decide +kernel) ⟨Nat.le_of_ble_eq_true rfl, Nat.le_of_ble_eq_true rfl⟩ (rfl) hl.1 rfl (Nat.le_of_ble_eq_true rfl) dX11_done_228 (fun r39 u H locs hw hP hD hS => ?_)
                exact ret r39 () _ _ _ _ _ _ rfl trivial hP hD hS dX11_done_231 (Nat.le_refl _) (Nat.le_refl _)
          · skip
            have zc31 : ¬ (p0.toInt = 41) := by rw [fa_eq, show (41 : Int32).toInt = 41 from by decide] at c31; exact c31
            by_cases c40 : p0 = 42
            · skip
              refine lv_tableIn (off := 127) (tgt := 128) hx hb dX11_done_1 (by rw [c40]; decide) (by rw [c40]; decide) (by rw [c40]; decide) (by decide) ?_
              have zc40 : p0.toInt = 42 := by rw [fa_eq, show (42 : Int32).toInt = 42 from by decide] at c40; exact c40
              refine lv_iload_n hx hb dX11_done_128 rfl (lv_at hl 1 rfl) ?_
              refine lv_iload_n hx hb dX11_done_129 rfl (lv_at hl 2 rfl) ?_
              refine lv_imul hx hb dX11_done_130 ?_
              refine lv_topi (fun t41 et41 => ?_)
              exact ret t41 () _ _ _ _ _ _ rfl trivial hP hD hS dX11_done_131 (Nat.le_refl _) (Nat.le_refl _)
            · skip
              have zc40 : ¬ (p0.toInt = 42) := by rw [fa_eq, show (42 : Int32).toInt = 42 from by decide] at c40; exact c40
              by_cases c42 : p0 = 43
              · skip
                refine lv_tableIn (off := 119) (tgt := 120) hx hb dX11_done_1 (by rw [c42]; decide) (by rw [c42]; decide) (by rw [c42]; decide) (by decide) ?_
                have zc42 : p0.toInt = 43 := by rw [fa_eq, show (43 : Int32).toInt = 43 from by decide] at c42; exact c42
                refine lv_iload_n hx hb dX11_done_120 rfl (lv_at hl 1 rfl) ?_
                refine lv_iload_n hx hb dX11_done_121 rfl (lv_at hl 2 rfl) ?_
                refine lv_iadd hx hb dX11_done_122 ?_
                refine lv_topi (fun t43 et43 => ?_)
                exact ret t43 () _ _ _ _ _ _ rfl trivial hP hD hS dX11_done_123 (Nat.le_refl _) (Nat.le_refl _)
              · skip
                have zc42 : ¬ (p0.toInt = 43) := by rw [fa_eq, show (43 : Int32).toInt = 43 from by decide] at c42; exact c42
                by_cases c44 : p0 = 44
                · skip
                  refine lv_tableIn (off := 214) (tgt := 215) hx hb dX11_done_1 (by rw [c44]; decide) (by rw [c44]; decide) (by rw [c44]; decide) (by decide) ?_
                  have zc44 : p0.toInt = 44 := by rw [fa_eq, show (44 : Int32).toInt = 44 from by decide] at c44; exact c44
                  refine lv_iload_n hx hb dX11_done_215 rfl (lv_at hl 1 rfl) ?_
                  refine lv_if_ne (tgt := 223) hx hb dX11_done_216 (by decide) (fun c45 => ?_) (fun c45 => ?_)
                  · skip
                    have zc45 : ¬ (p1.toInt = 0) := by rw [fa_eq, show (0 : Int32).toInt = 0 from by decide] at c45; exact c45
                    refine lv_iconst (v := 1) hx hb dX11_done_223 (by decide) ?_
                    refine lv_goto (tgt := 228) hx hb dX11_done_224 (by decide) ?_
                    have lt46 : (1 : Int32).toInt = 1 := by decide
                    refine cbSi (n := 1) (rest := []) hx hb hml hown hts hE hP hD hS hA (sY_X11_truth_1 l dC dI cy y0 r 1 v f w g hIv hCf hRf ) k_1761 k_1762 k_114 k_1763 (by decide +kernel) ⟨Nat.le_of_ble_eq_true rfl, Nat.le_of_ble_eq_true rfl⟩ (rfl) hl.1 rfl (Nat.le_of_ble_eq_true rfl) dX11_done_228 (fun r47 u H locs hw hP hD hS => ?_)
                    exact ret r47 () _ _ _ _ _ _ rfl trivial hP hD hS dX11_done_231 (Nat.le_refl _) (Nat.le_refl _)
                  · skip
                    have zc45 : p1.toInt = 0 := by rw [fa_eq, show (0 : Int32).toInt = 0 from by decide] at c45; exact c45
                    refine lv_iload_n hx hb dX11_done_219 rfl (lv_at hl 2 rfl) ?_
                    refine lv_if_eq (tgt := 227) hx hb dX11_done_220 (by decide) (fun c48 => ?_) (fun c48 => ?_)
                    · skip
                      have zc48 : p2.toInt = 0 := by rw [fa_eq, show (0 : Int32).toInt = 0 from by decide] at c48; exact c48
                      refine lv_iconst (v := 0) hx hb dX11_done_227 (by decide) ?_
                      have lt49 : (0 : Int32).toInt = 0 := by decide
                      refine cbSi (n := 1) (rest := []) hx hb hml hown hts hE hP hD hS hA (sY_X11_truth_1 l dC dI cy y0 r 0 v f w g hIv hCf hRf ) k_1761 k_1762 k_114 k_1763 (by decide +kernel) ⟨Nat.le_of_ble_eq_true rfl, Nat.le_of_ble_eq_true rfl⟩ (rfl) hl.1 rfl (Nat.le_of_ble_eq_true rfl) dX11_done_228 (fun r50 u H locs hw hP hD hS => ?_)
                      exact ret r50 () _ _ _ _ _ _ rfl trivial hP hD hS dX11_done_231 (Nat.le_refl _) (Nat.le_refl _)
                    · skip
                      have zc48 : ¬ (p2.toInt = 0) := by rw [fa_eq, show (0 : Int32).toInt = 0 from by decide] at c48; exact c48
                      refine lv_iconst (v := 1) hx hb dX11_done_223 (by decide) ?_
                      refine lv_goto (tgt := 228) hx hb dX11_done_224 (by decide) ?_
                      have lt51 : (1 : Int32).toInt = 1 := by decide
                      refine cbSi (n := 1) (rest := []) hx hb hml hown hts hE hP hD hS hA (sY_X11_truth_1 l dC dI cy y0 r 1 v f w g hIv hCf hRf ) k_1761 k_1762 k_114 k_1763 (by decide +kernel) ⟨Nat.le_of_ble_eq_true rfl, Nat.le_of_ble_eq_true rfl⟩ (rfl) hl.1 rfl (Nat.le_of_ble_eq_true rfl) dX11_done_228 (fun r52 u H locs hw hP hD hS => ?_)
                      exact ret r52 () _ _ _ _ _ _ rfl trivial hP hD hS dX11_done_231 (Nat.le_refl _) (Nat.le_refl _)
                · skip
                  have zc44 : ¬ (p0.toInt = 44) := by rw [fa_eq, show (44 : Int32).toInt = 44 from by decide] at c44; exact c44
                  by_cases c53 : p0 = 45
                  · skip
                    refine lv_tableIn (off := 123) (tgt := 124) hx hb dX11_done_1 (by rw [c53]; decide) (by rw [c53]; decide) (by rw [c53]; decide) (by decide) ?_
                    have zc53 : p0.toInt = 45 := by rw [fa_eq, show (45 : Int32).toInt = 45 from by decide] at c53; exact c53
                    refine lv_iload_n hx hb dX11_done_124 rfl (lv_at hl 1 rfl) ?_
                    refine lv_iload_n hx hb dX11_done_125 rfl (lv_at hl 2 rfl) ?_
                    refine lv_isub hx hb dX11_done_126 ?_
                    refine lv_topi (fun t54 et54 => ?_)
                    exact ret t54 () _ _ _ _ _ _ rfl trivial hP hD hS dX11_done_127 (Nat.le_refl _) (Nat.le_refl _)
                  · skip
                    have zc53 : ¬ (p0.toInt = 45) := by rw [fa_eq, show (45 : Int32).toInt = 45 from by decide] at c53; exact c53
                    by_cases c55 : p0 = 46
                    · skip
                      refine lv_tableIn (off := 214) (tgt := 215) hx hb dX11_done_1 (by rw [c55]; decide) (by rw [c55]; decide) (by rw [c55]; decide) (by decide) ?_
                      have zc55 : p0.toInt = 46 := by rw [fa_eq, show (46 : Int32).toInt = 46 from by decide] at c55; exact c55
                      refine lv_iload_n hx hb dX11_done_215 rfl (lv_at hl 1 rfl) ?_
                      refine lv_if_ne (tgt := 223) hx hb dX11_done_216 (by decide) (fun c56 => ?_) (fun c56 => ?_)
                      · skip
                        have zc56 : ¬ (p1.toInt = 0) := by rw [fa_eq, show (0 : Int32).toInt = 0 from by decide] at c56; exact c56
                        refine lv_iconst (v := 1) hx hb dX11_done_223 (by decide) ?_
                        refine lv_goto (tgt := 228) hx hb dX11_done_224 (by decide) ?_
                        have lt57 : (1 : Int32).toInt = 1 := by decide
                        refine cbSi (n := 1) (rest := []) hx hb hml hown hts hE hP hD hS hA (sY_X11_truth_1 l dC dI cy y0 r 1 v f w g hIv hCf hRf ) k_1761 k_1762 k_114 k_1763 (by decide +kernel) ⟨Nat.le_of_ble_eq_true rfl, Nat.le_of_ble_eq_true rfl⟩ (rfl) hl.1 rfl (Nat.le_of_ble_eq_true rfl) dX11_done_228 (fun r58 u H locs hw hP hD hS => ?_)
                        exact ret r58 () _ _ _ _ _ _ rfl trivial hP hD hS dX11_done_231 (Nat.le_refl _) (Nat.le_refl _)
                      · skip
                        have zc56 : p1.toInt = 0 := by rw [fa_eq, show (0 : Int32).toInt = 0 from by decide] at c56; exact c56
                        refine lv_iload_n hx hb dX11_done_219 rfl (lv_at hl 2 rfl) ?_
                        refine lv_if_eq (tgt := 227) hx hb dX11_done_220 (by decide) (fun c59 => ?_) (fun c59 => ?_)
                        · skip
                          have zc59 : p2.toInt = 0 := by rw [fa_eq, show (0 : Int32).toInt = 0 from by decide] at c59; exact c59
                          refine lv_iconst (v := 0) hx hb dX11_done_227 (by decide) ?_
                          have lt60 : (0 : Int32).toInt = 0 := by decide
                          refine cbSi (n := 1) (rest := []) hx hb hml hown hts hE hP hD hS hA (sY_X11_truth_1 l dC dI cy y0 r 0 v f w g hIv hCf hRf ) k_1761 k_1762 k_114 k_1763 (by decide +kernel) ⟨Nat.le_of_ble_eq_true rfl, Nat.le_of_ble_eq_true rfl⟩ (rfl) hl.1 rfl (Nat.le_of_ble_eq_true rfl) dX11_done_228 (fun r61 u H locs hw hP hD hS => ?_)
                          exact ret r61 () _ _ _ _ _ _ rfl trivial hP hD hS dX11_done_231 (Nat.le_refl _) (Nat.le_refl _)
                        · skip
                          have zc59 : ¬ (p2.toInt = 0) := by rw [fa_eq, show (0 : Int32).toInt = 0 from by decide] at c59; exact c59
                          refine lv_iconst (v := 1) hx hb dX11_done_223 (by decide) ?_
                          refine lv_goto (tgt := 228) hx hb dX11_done_224 (by decide) ?_
                          have lt62 : (1 : Int32).toInt = 1 := by decide
                          refine cbSi (n := 1) (rest := []) hx hb hml hown hts hE hP hD hS hA (sY_X11_truth_1 l dC dI cy y0 r 1 v f w g hIv hCf hRf ) k_1761 k_1762 k_114 k_1763 (by decide +kernel) ⟨Nat.le_of_ble_eq_true rfl, Nat.le_of_ble_eq_true rfl⟩ (rfl) hl.1 rfl (Nat.le_of_ble_eq_true rfl) dX11_done_228 (fun r63 u H locs hw hP hD hS => ?_)
                          exact ret r63 () _ _ _ _ _ _ rfl trivial hP hD hS dX11_done_231 (Nat.le_refl _) (Nat.le_refl _)
                    · skip
                      have zc55 : ¬ (p0.toInt = 46) := by rw [fa_eq, show (46 : Int32).toInt = 46 from by decide] at c55; exact c55
                      by_cases c64 : p0 = 47
                      · skip
                        refine lv_tableIn (off := 131) (tgt := 132) hx hb dX11_done_1 (by rw [c64]; decide) (by rw [c64]; decide) (by rw [c64]; decide) (by decide) ?_
                        have zc64 : p0.toInt = 47 := by rw [fa_eq, show (47 : Int32).toInt = 47 from by decide] at c64; exact c64
                        refine lv_iload_n hx hb dX11_done_132 rfl (lv_at hl 2 rfl) ?_
                        refine lv_if_ne (tgt := 140) hx hb dX11_done_133 (by decide) (fun c65 => ?_) (fun c65 => ?_)
                        · skip
                          have zc65 : ¬ (p2.toInt = 0) := by rw [fa_eq, show (0 : Int32).toInt = 0 from by decide] at c65; exact c65
                          refine lv_iload_n hx hb dX11_done_140 rfl (lv_at hl 1 rfl) ?_
                          refine lv_iload_n hx hb dX11_done_141 rfl (lv_at hl 2 rfl) ?_
                          refine lv_idiv hx hb dX11_done_142 (ne0 (by omega)) ?_
                          refine lv_topi (fun t66 et66 => ?_)
                          exact ret t66 () _ _ _ _ _ _ rfl trivial hP hD hS dX11_done_143 (Nat.le_refl _) (Nat.le_refl _)
                        · skip
                          have zc65 : p2.toInt = 0 := by rw [fa_eq, show (0 : Int32).toInt = 0 from by decide] at c65; exact c65
                          refine lv_iconst (v := 0) hx hb dX11_done_136 (by decide) ?_
                          refine lv_goto (tgt := 143) hx hb dX11_done_137 (by decide) ?_
                          exact ret 0 () _ _ _ _ _ _ rfl trivial hP hD hS dX11_done_143 (Nat.le_refl _) (Nat.le_refl _)
                      · skip
                        have zc64 : ¬ (p0.toInt = 47) := by rw [fa_eq, show (47 : Int32).toInt = 47 from by decide] at c64; exact c64
                        by_cases c67 : p0 = 48
                        · skip
                          refine lv_tableIn (off := 214) (tgt := 215) hx hb dX11_done_1 (by rw [c67]; decide) (by rw [c67]; decide) (by rw [c67]; decide) (by decide) ?_
                          have zc67 : p0.toInt = 48 := by rw [fa_eq, show (48 : Int32).toInt = 48 from by decide] at c67; exact c67
                          refine lv_iload_n hx hb dX11_done_215 rfl (lv_at hl 1 rfl) ?_
                          refine lv_if_ne (tgt := 223) hx hb dX11_done_216 (by decide) (fun c68 => ?_) (fun c68 => ?_)
                          · skip
                            have zc68 : ¬ (p1.toInt = 0) := by rw [fa_eq, show (0 : Int32).toInt = 0 from by decide] at c68; exact c68
                            refine lv_iconst (v := 1) hx hb dX11_done_223 (by decide) ?_
                            refine lv_goto (tgt := 228) hx hb dX11_done_224 (by decide) ?_
                            have lt69 : (1 : Int32).toInt = 1 := by decide
                            refine cbSi (n := 1) (rest := []) hx hb hml hown hts hE hP hD hS hA (sY_X11_truth_1 l dC dI cy y0 r 1 v f w g hIv hCf hRf ) k_1761 k_1762 k_114 k_1763 (by decide +kernel) ⟨Nat.le_of_ble_eq_true rfl, Nat.le_of_ble_eq_true rfl⟩ (rfl) hl.1 rfl (Nat.le_of_ble_eq_true rfl) dX11_done_228 (fun r70 u H locs hw hP hD hS => ?_)
                            exact ret r70 () _ _ _ _ _ _ rfl trivial hP hD hS dX11_done_231 (Nat.le_refl _) (Nat.le_refl _)
                          · skip
                            have zc68 : p1.toInt = 0 := by rw [fa_eq, show (0 : Int32).toInt = 0 from by decide] at c68; exact c68
                            refine lv_iload_n hx hb dX11_done_219 rfl (lv_at hl 2 rfl) ?_
                            refine lv_if_eq (tgt := 227) hx hb dX11_done_220 (by decide) (fun c71 => ?_) (fun c71 => ?_)
                            · skip
                              have zc71 : p2.toInt = 0 := by rw [fa_eq, show (0 : Int32).toInt = 0 from by decide] at c71; exact c71
                              refine lv_iconst (v := 0) hx hb dX11_done_227 (by decide) ?_
                              have lt72 : (0 : Int32).toInt = 0 := by decide
                              refine cbSi (n := 1) (rest := []) hx hb hml hown hts hE hP hD hS hA (sY_X11_truth_1 l dC dI cy y0 r 0 v f w g hIv hCf hRf ) k_1761 k_1762 k_114 k_1763 (by decide +kernel) ⟨Nat.le_of_ble_eq_true rfl, Nat.le_of_ble_eq_true rfl⟩ (rfl) hl.1 rfl (Nat.le_of_ble_eq_true rfl) dX11_done_228 (fun r73 u H locs hw hP hD hS => ?_)
                              exact ret r73 () _ _ _ _ _ _ rfl trivial hP hD hS dX11_done_231 (Nat.le_refl _) (Nat.le_refl _)
                            · skip
                              have zc71 : ¬ (p2.toInt = 0) := by rw [fa_eq, show (0 : Int32).toInt = 0 from by decide] at c71; exact c71
                              refine lv_iconst (v := 1) hx hb dX11_done_223 (by decide) ?_
                              refine lv_goto (tgt := 228) hx hb dX11_done_224 (by decide) ?_
                              have lt74 : (1 : Int32).toInt = 1 := by decide
                              refine cbSi (n := 1) (rest := []) hx hb hml hown hts hE hP hD hS hA (sY_X11_truth_1 l dC dI cy y0 r 1 v f w g hIv hCf hRf ) k_1761 k_1762 k_114 k_1763 (by decide +kernel) ⟨Nat.le_of_ble_eq_true rfl, Nat.le_of_ble_eq_true rfl⟩ (rfl) hl.1 rfl (Nat.le_of_ble_eq_true rfl) dX11_done_228 (fun r75 u H locs hw hP hD hS => ?_)
                              exact ret r75 () _ _ _ _ _ _ rfl trivial hP hD hS dX11_done_231 (Nat.le_refl _) (Nat.le_refl _)
                        · skip
                          have zc67 : ¬ (p0.toInt = 48) := by rw [fa_eq, show (48 : Int32).toInt = 48 from by decide] at c67; exact c67
                          by_cases c76 : p0 = 49
                          · skip
                            refine lv_tableIn (off := 214) (tgt := 215) hx hb dX11_done_1 (by rw [c76]; decide) (by rw [c76]; decide) (by rw [c76]; decide) (by decide) ?_
                            have zc76 : p0.toInt = 49 := by rw [fa_eq, show (49 : Int32).toInt = 49 from by decide] at c76; exact c76
                            refine lv_iload_n hx hb dX11_done_215 rfl (lv_at hl 1 rfl) ?_
                            refine lv_if_ne (tgt := 223) hx hb dX11_done_216 (by decide) (fun c77 => ?_) (fun c77 => ?_)
                            · skip
                              have zc77 : ¬ (p1.toInt = 0) := by rw [fa_eq, show (0 : Int32).toInt = 0 from by decide] at c77; exact c77
                              refine lv_iconst (v := 1) hx hb dX11_done_223 (by decide) ?_
                              refine lv_goto (tgt := 228) hx hb dX11_done_224 (by decide) ?_
                              have lt78 : (1 : Int32).toInt = 1 := by decide
                              refine cbSi (n := 1) (rest := []) hx hb hml hown hts hE hP hD hS hA (sY_X11_truth_1 l dC dI cy y0 r 1 v f w g hIv hCf hRf ) k_1761 k_1762 k_114 k_1763 (by decide +kernel) ⟨Nat.le_of_ble_eq_true rfl, Nat.le_of_ble_eq_true rfl⟩ (rfl) hl.1 rfl (Nat.le_of_ble_eq_true rfl) dX11_done_228 (fun r79 u H locs hw hP hD hS => ?_)
                              exact ret r79 () _ _ _ _ _ _ rfl trivial hP hD hS dX11_done_231 (Nat.le_refl _) (Nat.le_refl _)
                            · skip
                              have zc77 : p1.toInt = 0 := by rw [fa_eq, show (0 : Int32).toInt = 0 from by decide] at c77; exact c77
                              refine lv_iload_n hx hb dX11_done_219 rfl (lv_at hl 2 rfl) ?_
                              refine lv_if_eq (tgt := 227) hx hb dX11_done_220 (by decide) (fun c80 => ?_) (fun c80 => ?_)
                              · skip
                                have zc80 : p2.toInt = 0 := by rw [fa_eq, show (0 : Int32).toInt = 0 from by decide] at c80; exact c80
                                refine lv_iconst (v := 0) hx hb dX11_done_227 (by decide) ?_
                                have lt81 : (0 : Int32).toInt = 0 := by decide
                                refine cbSi (n := 1) (rest := []) hx hb hml hown hts hE hP hD hS hA (sY_X11_truth_1 l dC dI cy y0 r 0 v f w g hIv hCf hRf ) k_1761 k_1762 k_114 k_1763 (by decide +kernel) ⟨Nat.le_of_ble_eq_true rfl, Nat.le_of_ble_eq_true rfl⟩ (rfl) hl.1 rfl (Nat.le_of_ble_eq_true rfl) dX11_done_228 (fun r82 u H locs hw hP hD hS => ?_)
                                exact ret r82 () _ _ _ _ _ _ rfl trivial hP hD hS dX11_done_231 (Nat.le_refl _) (Nat.le_refl _)
                              · skip
                                have zc80 : ¬ (p2.toInt = 0) := by rw [fa_eq, show (0 : Int32).toInt = 0 from by decide] at c80; exact c80
                                refine lv_iconst (v := 1) hx hb dX11_done_223 (by decide) ?_
                                refine lv_goto (tgt := 228) hx hb dX11_done_224 (by decide) ?_
                                have lt83 : (1 : Int32).toInt = 1 := by decide
                                refine cbSi (n := 1) (rest := []) hx hb hml hown hts hE hP hD hS hA (sY_X11_truth_1 l dC dI cy y0 r 1 v f w g hIv hCf hRf ) k_1761 k_1762 k_114 k_1763 (by decide +kernel) ⟨Nat.le_of_ble_eq_true rfl, Nat.le_of_ble_eq_true rfl⟩ (rfl) hl.1 rfl (Nat.le_of_ble_eq_true rfl) dX11_done_228 (fun r84 u H locs hw hP hD hS => ?_)
                                exact ret r84 () _ _ _ _ _ _ rfl trivial hP hD hS dX11_done_231 (Nat.le_refl _) (Nat.le_refl _)
                          · skip
                            have zc76 : ¬ (p0.toInt = 49) := by rw [fa_eq, show (49 : Int32).toInt = 49 from by decide] at c76; exact c76
                            by_cases c85 : p0 = 50
                            · skip
                              refine lv_tableIn (off := 214) (tgt := 215) hx hb dX11_done_1 (by rw [c85]; decide) (by rw [c85]; decide) (by rw [c85]; decide) (by decide) ?_
                              have zc85 : p0.toInt = 50 := by rw [fa_eq, show (50 : Int32).toInt = 50 from by decide] at c85; exact c85
                              refine lv_iload_n hx hb dX11_done_215 rfl (lv_at hl 1 rfl) ?_
                              refine lv_if_ne (tgt := 223) hx hb dX11_done_216 (by decide) (fun c86 => ?_) (fun c86 => ?_)
                              · skip
                                have zc86 : ¬ (p1.toInt = 0) := by rw [fa_eq, show (0 : Int32).toInt = 0 from by decide] at c86; exact c86
                                refine lv_iconst (v := 1) hx hb dX11_done_223 (by decide) ?_
                                refine lv_goto (tgt := 228) hx hb dX11_done_224 (by decide) ?_
                                have lt87 : (1 : Int32).toInt = 1 := by decide
                                refine cbSi (n := 1) (rest := []) hx hb hml hown hts hE hP hD hS hA (sY_X11_truth_1 l dC dI cy y0 r 1 v f w g hIv hCf hRf ) k_1761 k_1762 k_114 k_1763 (by decide +kernel) ⟨Nat.le_of_ble_eq_true rfl, Nat.le_of_ble_eq_true rfl⟩ (rfl) hl.1 rfl (Nat.le_of_ble_eq_true rfl) dX11_done_228 (fun r88 u H locs hw hP hD hS => ?_)
                                exact ret r88 () _ _ _ _ _ _ rfl trivial hP hD hS dX11_done_231 (Nat.le_refl _) (Nat.le_refl _)
                              · skip
                                have zc86 : p1.toInt = 0 := by rw [fa_eq, show (0 : Int32).toInt = 0 from by decide] at c86; exact c86
                                refine lv_iload_n hx hb dX11_done_219 rfl (lv_at hl 2 rfl) ?_
                                refine lv_if_eq (tgt := 227) hx hb dX11_done_220 (by decide) (fun c89 => ?_) (fun c89 => ?_)
                                · skip
                                  have zc89 : p2.toInt = 0 := by rw [fa_eq, show (0 : Int32).toInt = 0 from by decide] at c89; exact c89
                                  refine lv_iconst (v := 0) hx hb dX11_done_227 (by decide) ?_
                                  have lt90 : (0 : Int32).toInt = 0 := by decide
                                  refine cbSi (n := 1) (rest := []) hx hb hml hown hts hE hP hD hS hA (sY_X11_truth_1 l dC dI cy y0 r 0 v f w g hIv hCf hRf ) k_1761 k_1762 k_114 k_1763 (by decide +kernel) ⟨Nat.le_of_ble_eq_true rfl, Nat.le_of_ble_eq_true rfl⟩ (rfl) hl.1 rfl (Nat.le_of_ble_eq_true rfl) dX11_done_228 (fun r91 u H locs hw hP hD hS => ?_)
                                  exact ret r91 () _ _ _ _ _ _ rfl trivial hP hD hS dX11_done_231 (Nat.le_refl _) (Nat.le_refl _)
                                · skip
                                  have zc89 : ¬ (p2.toInt = 0) := by rw [fa_eq, show (0 : Int32).toInt = 0 from by decide] at c89; exact c89
                                  refine lv_iconst (v := 1) hx hb dX11_done_223 (by decide) ?_
                                  refine lv_goto (tgt := 228) hx hb dX11_done_224 (by decide) ?_
                                  have lt92 : (1 : Int32).toInt = 1 := by decide
                                  refine cbSi (n := 1) (rest := []) hx hb hml hown hts hE hP hD hS hA (sY_X11_truth_1 l dC dI cy y0 r 1 v f w g hIv hCf hRf ) k_1761 k_1762 k_114 k_1763 (by decide +kernel) ⟨Nat.le_of_ble_eq_true rfl, Nat.le_of_ble_eq_true rfl⟩ (rfl) hl.1 rfl (Nat.le_of_ble_eq_true rfl) dX11_done_228 (fun r93 u H locs hw hP hD hS => ?_)
                                  exact ret r93 () _ _ _ _ _ _ rfl trivial hP hD hS dX11_done_231 (Nat.le_refl _) (Nat.le_refl _)
                            · skip
                              have zc85 : ¬ (p0.toInt = 50) := by rw [fa_eq, show (50 : Int32).toInt = 50 from by decide] at c85; exact c85
                              by_cases c94 : p0 = 51
                              · skip
                                refine lv_tableIn (off := 214) (tgt := 215) hx hb dX11_done_1 (by rw [c94]; decide) (by rw [c94]; decide) (by rw [c94]; decide) (by decide) ?_
                                have zc94 : p0.toInt = 51 := by rw [fa_eq, show (51 : Int32).toInt = 51 from by decide] at c94; exact c94
                                refine lv_iload_n hx hb dX11_done_215 rfl (lv_at hl 1 rfl) ?_
                                refine lv_if_ne (tgt := 223) hx hb dX11_done_216 (by decide) (fun c95 => ?_) (fun c95 => ?_)
                                · skip
                                  have zc95 : ¬ (p1.toInt = 0) := by rw [fa_eq, show (0 : Int32).toInt = 0 from by decide] at c95; exact c95
                                  refine lv_iconst (v := 1) hx hb dX11_done_223 (by decide) ?_
                                  refine lv_goto (tgt := 228) hx hb dX11_done_224 (by decide) ?_
                                  have lt96 : (1 : Int32).toInt = 1 := by decide
                                  refine cbSi (n := 1) (rest := []) hx hb hml hown hts hE hP hD hS hA (sY_X11_truth_1 l dC dI cy y0 r 1 v f w g hIv hCf hRf ) k_1761 k_1762 k_114 k_1763 (by decide +kernel) ⟨Nat.le_of_ble_eq_true rfl, Nat.le_of_ble_eq_true rfl⟩ (rfl) hl.1 rfl (Nat.le_of_ble_eq_true rfl) dX11_done_228 (fun r97 u H locs hw hP hD hS => ?_)
                                  exact ret r97 () _ _ _ _ _ _ rfl trivial hP hD hS dX11_done_231 (Nat.le_refl _) (Nat.le_refl _)
                                · skip
                                  have zc95 : p1.toInt = 0 := by rw [fa_eq, show (0 : Int32).toInt = 0 from by decide] at c95; exact c95
                                  refine lv_iload_n hx hb dX11_done_219 rfl (lv_at hl 2 rfl) ?_
                                  refine lv_if_eq (tgt := 227) hx hb dX11_done_220 (by decide) (fun c98 => ?_) (fun c98 => ?_)
                                  · skip
                                    have zc98 : p2.toInt = 0 := by rw [fa_eq, show (0 : Int32).toInt = 0 from by decide] at c98; exact c98
                                    refine lv_iconst (v := 0) hx hb dX11_done_227 (by decide) ?_
                                    have lt99 : (0 : Int32).toInt = 0 := by decide
                                    refine cbSi (n := 1) (rest := []) hx hb hml hown hts hE hP hD hS hA (sY_X11_truth_1 l dC dI cy y0 r 0 v f w g hIv hCf hRf ) k_1761 k_1762 k_114 k_1763 (by decide +kernel) ⟨Nat.le_of_ble_eq_true rfl, Nat.le_of_ble_eq_true rfl⟩ (rfl) hl.1 rfl (Nat.le_of_ble_eq_true rfl) dX11_done_228 (fun r100 u H locs hw hP hD hS => ?_)
                                    exact ret r100 () _ _ _ _ _ _ rfl trivial hP hD hS dX11_done_231 (Nat.le_refl _) (Nat.le_refl _)
                                  · skip
                                    have zc98 : ¬ (p2.toInt = 0) := by rw [fa_eq, show (0 : Int32).toInt = 0 from by decide] at c98; exact c98
                                    refine lv_iconst (v := 1) hx hb dX11_done_223 (by decide) ?_
                                    refine lv_goto (tgt := 228) hx hb dX11_done_224 (by decide) ?_
                                    have lt101 : (1 : Int32).toInt = 1 := by decide
                                    refine cbSi (n := 1) (rest := []) hx hb hml hown hts hE hP hD hS hA (sY_X11_truth_1 l dC dI cy y0 r 1 v f w g hIv hCf hRf ) k_1761 k_1762 k_114 k_1763 (by decide +kernel) ⟨Nat.le_of_ble_eq_true rfl, Nat.le_of_ble_eq_true rfl⟩ (rfl) hl.1 rfl (Nat.le_of_ble_eq_true rfl) dX11_done_228 (fun r102 u H locs hw hP hD hS => ?_)
                                    exact ret r102 () _ _ _ _ _ _ rfl trivial hP hD hS dX11_done_231 (Nat.le_refl _) (Nat.le_refl _)
                              · skip
                                have zc94 : ¬ (p0.toInt = 51) := by rw [fa_eq, show (51 : Int32).toInt = 51 from by decide] at c94; exact c94
                                by_cases c103 : p0 = 52
                                · skip
                                  refine lv_tableIn (off := 214) (tgt := 215) hx hb dX11_done_1 (by rw [c103]; decide) (by rw [c103]; decide) (by rw [c103]; decide) (by decide) ?_
                                  have zc103 : p0.toInt = 52 := by rw [fa_eq, show (52 : Int32).toInt = 52 from by decide] at c103; exact c103
                                  refine lv_iload_n hx hb dX11_done_215 rfl (lv_at hl 1 rfl) ?_
                                  refine lv_if_ne (tgt := 223) hx hb dX11_done_216 (by decide) (fun c104 => ?_) (fun c104 => ?_)
                                  · skip
                                    have zc104 : ¬ (p1.toInt = 0) := by rw [fa_eq, show (0 : Int32).toInt = 0 from by decide] at c104; exact c104
                                    refine lv_iconst (v := 1) hx hb dX11_done_223 (by decide) ?_
                                    refine lv_goto (tgt := 228) hx hb dX11_done_224 (by decide) ?_
                                    have lt105 : (1 : Int32).toInt = 1 := by decide
                                    refine cbSi (n := 1) (rest := []) hx hb hml hown hts hE hP hD hS hA (sY_X11_truth_1 l dC dI cy y0 r 1 v f w g hIv hCf hRf ) k_1761 k_1762 k_114 k_1763 (by decide +kernel) ⟨Nat.le_of_ble_eq_true rfl, Nat.le_of_ble_eq_true rfl⟩ (rfl) hl.1 rfl (Nat.le_of_ble_eq_true rfl) dX11_done_228 (fun r106 u H locs hw hP hD hS => ?_)
                                    exact ret r106 () _ _ _ _ _ _ rfl trivial hP hD hS dX11_done_231 (Nat.le_refl _) (Nat.le_refl _)
                                  · skip
                                    have zc104 : p1.toInt = 0 := by rw [fa_eq, show (0 : Int32).toInt = 0 from by decide] at c104; exact c104
                                    refine lv_iload_n hx hb dX11_done_219 rfl (lv_at hl 2 rfl) ?_
                                    refine lv_if_eq (tgt := 227) hx hb dX11_done_220 (by decide) (fun c107 => ?_) (fun c107 => ?_)
                                    · skip
                                      have zc107 : p2.toInt = 0 := by rw [fa_eq, show (0 : Int32).toInt = 0 from by decide] at c107; exact c107
                                      refine lv_iconst (v := 0) hx hb dX11_done_227 (by decide) ?_
                                      have lt108 : (0 : Int32).toInt = 0 := by decide
                                      refine cbSi (n := 1) (rest := []) hx hb hml hown hts hE hP hD hS hA (sY_X11_truth_1 l dC dI cy y0 r 0 v f w g hIv hCf hRf ) k_1761 k_1762 k_114 k_1763 (by decide +kernel) ⟨Nat.le_of_ble_eq_true rfl, Nat.le_of_ble_eq_true rfl⟩ (rfl) hl.1 rfl (Nat.le_of_ble_eq_true rfl) dX11_done_228 (fun r109 u H locs hw hP hD hS => ?_)
                                      exact ret r109 () _ _ _ _ _ _ rfl trivial hP hD hS dX11_done_231 (Nat.le_refl _) (Nat.le_refl _)
                                    · skip
                                      have zc107 : ¬ (p2.toInt = 0) := by rw [fa_eq, show (0 : Int32).toInt = 0 from by decide] at c107; exact c107
                                      refine lv_iconst (v := 1) hx hb dX11_done_223 (by decide) ?_
                                      refine lv_goto (tgt := 228) hx hb dX11_done_224 (by decide) ?_
                                      have lt110 : (1 : Int32).toInt = 1 := by decide
                                      refine cbSi (n := 1) (rest := []) hx hb hml hown hts hE hP hD hS hA (sY_X11_truth_1 l dC dI cy y0 r 1 v f w g hIv hCf hRf ) k_1761 k_1762 k_114 k_1763 (by decide +kernel) ⟨Nat.le_of_ble_eq_true rfl, Nat.le_of_ble_eq_true rfl⟩ (rfl) hl.1 rfl (Nat.le_of_ble_eq_true rfl) dX11_done_228 (fun r111 u H locs hw hP hD hS => ?_)
                                      exact ret r111 () _ _ _ _ _ _ rfl trivial hP hD hS dX11_done_231 (Nat.le_refl _) (Nat.le_refl _)
                                · skip
                                  have zc103 : ¬ (p0.toInt = 52) := by rw [fa_eq, show (52 : Int32).toInt = 52 from by decide] at c103; exact c103
                                  by_cases c112 : p0 = 53
                                  · skip
                                    refine lv_tableIn (off := 214) (tgt := 215) hx hb dX11_done_1 (by rw [c112]; decide) (by rw [c112]; decide) (by rw [c112]; decide) (by decide) ?_
                                    have zc112 : p0.toInt = 53 := by rw [fa_eq, show (53 : Int32).toInt = 53 from by decide] at c112; exact c112
                                    refine lv_iload_n hx hb dX11_done_215 rfl (lv_at hl 1 rfl) ?_
                                    refine lv_if_ne (tgt := 223) hx hb dX11_done_216 (by decide) (fun c113 => ?_) (fun c113 => ?_)
                                    · skip
                                      have zc113 : ¬ (p1.toInt = 0) := by rw [fa_eq, show (0 : Int32).toInt = 0 from by decide] at c113; exact c113
                                      refine lv_iconst (v := 1) hx hb dX11_done_223 (by decide) ?_
                                      refine lv_goto (tgt := 228) hx hb dX11_done_224 (by decide) ?_
                                      have lt114 : (1 : Int32).toInt = 1 := by decide
                                      refine cbSi (n := 1) (rest := []) hx hb hml hown hts hE hP hD hS hA (sY_X11_truth_1 l dC dI cy y0 r 1 v f w g hIv hCf hRf ) k_1761 k_1762 k_114 k_1763 (by decide +kernel) ⟨Nat.le_of_ble_eq_true rfl, Nat.le_of_ble_eq_true rfl⟩ (rfl) hl.1 rfl (Nat.le_of_ble_eq_true rfl) dX11_done_228 (fun r115 u H locs hw hP hD hS => ?_)
                                      exact ret r115 () _ _ _ _ _ _ rfl trivial hP hD hS dX11_done_231 (Nat.le_refl _) (Nat.le_refl _)
                                    · skip
                                      have zc113 : p1.toInt = 0 := by rw [fa_eq, show (0 : Int32).toInt = 0 from by decide] at c113; exact c113
                                      refine lv_iload_n hx hb dX11_done_219 rfl (lv_at hl 2 rfl) ?_
                                      refine lv_if_eq (tgt := 227) hx hb dX11_done_220 (by decide) (fun c116 => ?_) (fun c116 => ?_)
                                      · skip
                                        have zc116 : p2.toInt = 0 := by rw [fa_eq, show (0 : Int32).toInt = 0 from by decide] at c116; exact c116
                                        refine lv_iconst (v := 0) hx hb dX11_done_227 (by decide) ?_
                                        have lt117 : (0 : Int32).toInt = 0 := by decide
                                        refine cbSi (n := 1) (rest := []) hx hb hml hown hts hE hP hD hS hA (sY_X11_truth_1 l dC dI cy y0 r 0 v f w g hIv hCf hRf ) k_1761 k_1762 k_114 k_1763 (by decide +kernel) ⟨Nat.le_of_ble_eq_true rfl, Nat.le_of_ble_eq_true rfl⟩ (rfl) hl.1 rfl (Nat.le_of_ble_eq_true rfl) dX11_done_228 (fun r118 u H locs hw hP hD hS => ?_)
                                        exact ret r118 () _ _ _ _ _ _ rfl trivial hP hD hS dX11_done_231 (Nat.le_refl _) (Nat.le_refl _)
                                      · skip
                                        have zc116 : ¬ (p2.toInt = 0) := by rw [fa_eq, show (0 : Int32).toInt = 0 from by decide] at c116; exact c116
                                        refine lv_iconst (v := 1) hx hb dX11_done_223 (by decide) ?_
                                        refine lv_goto (tgt := 228) hx hb dX11_done_224 (by decide) ?_
                                        have lt119 : (1 : Int32).toInt = 1 := by decide
                                        refine cbSi (n := 1) (rest := []) hx hb hml hown hts hE hP hD hS hA (sY_X11_truth_1 l dC dI cy y0 r 1 v f w g hIv hCf hRf ) k_1761 k_1762 k_114 k_1763 (by decide +kernel) ⟨Nat.le_of_ble_eq_true rfl, Nat.le_of_ble_eq_true rfl⟩ (rfl) hl.1 rfl (Nat.le_of_ble_eq_true rfl) dX11_done_228 (fun r120 u H locs hw hP hD hS => ?_)
                                        exact ret r120 () _ _ _ _ _ _ rfl trivial hP hD hS dX11_done_231 (Nat.le_refl _) (Nat.le_refl _)
                                  · skip
                                    have zc112 : ¬ (p0.toInt = 53) := by rw [fa_eq, show (53 : Int32).toInt = 53 from by decide] at c112; exact c112
                                    by_cases c121 : p0 = 54
                                    · skip
                                      refine lv_tableIn (off := 214) (tgt := 215) hx hb dX11_done_1 (by rw [c121]; decide) (by rw [c121]; decide) (by rw [c121]; decide) (by decide) ?_
                                      have zc121 : p0.toInt = 54 := by rw [fa_eq, show (54 : Int32).toInt = 54 from by decide] at c121; exact c121
                                      refine lv_iload_n hx hb dX11_done_215 rfl (lv_at hl 1 rfl) ?_
                                      refine lv_if_ne (tgt := 223) hx hb dX11_done_216 (by decide) (fun c122 => ?_) (fun c122 => ?_)
                                      · skip
                                        have zc122 : ¬ (p1.toInt = 0) := by rw [fa_eq, show (0 : Int32).toInt = 0 from by decide] at c122; exact c122
                                        refine lv_iconst (v := 1) hx hb dX11_done_223 (by decide) ?_
                                        refine lv_goto (tgt := 228) hx hb dX11_done_224 (by decide) ?_
                                        have lt123 : (1 : Int32).toInt = 1 := by decide
                                        refine cbSi (n := 1) (rest := []) hx hb hml hown hts hE hP hD hS hA (sY_X11_truth_1 l dC dI cy y0 r 1 v f w g hIv hCf hRf ) k_1761 k_1762 k_114 k_1763 (by decide +kernel) ⟨Nat.le_of_ble_eq_true rfl, Nat.le_of_ble_eq_true rfl⟩ (rfl) hl.1 rfl (Nat.le_of_ble_eq_true rfl) dX11_done_228 (fun r124 u H locs hw hP hD hS => ?_)
                                        exact ret r124 () _ _ _ _ _ _ rfl trivial hP hD hS dX11_done_231 (Nat.le_refl _) (Nat.le_refl _)
                                      · skip
                                        have zc122 : p1.toInt = 0 := by rw [fa_eq, show (0 : Int32).toInt = 0 from by decide] at c122; exact c122
                                        refine lv_iload_n hx hb dX11_done_219 rfl (lv_at hl 2 rfl) ?_
                                        refine lv_if_eq (tgt := 227) hx hb dX11_done_220 (by decide) (fun c125 => ?_) (fun c125 => ?_)
                                        · skip
                                          have zc125 : p2.toInt = 0 := by rw [fa_eq, show (0 : Int32).toInt = 0 from by decide] at c125; exact c125
                                          refine lv_iconst (v := 0) hx hb dX11_done_227 (by decide) ?_
                                          have lt126 : (0 : Int32).toInt = 0 := by decide
                                          refine cbSi (n := 1) (rest := []) hx hb hml hown hts hE hP hD hS hA (sY_X11_truth_1 l dC dI cy y0 r 0 v f w g hIv hCf hRf ) k_1761 k_1762 k_114 k_1763 (by decide +kernel) ⟨Nat.le_of_ble_eq_true rfl, Nat.le_of_ble_eq_true rfl⟩ (rfl) hl.1 rfl (Nat.le_of_ble_eq_true rfl) dX11_done_228 (fun r127 u H locs hw hP hD hS => ?_)
                                          exact ret r127 () _ _ _ _ _ _ rfl trivial hP hD hS dX11_done_231 (Nat.le_refl _) (Nat.le_refl _)
                                        · skip
                                          have zc125 : ¬ (p2.toInt = 0) := by rw [fa_eq, show (0 : Int32).toInt = 0 from by decide] at c125; exact c125
                                          refine lv_iconst (v := 1) hx hb dX11_done_223 (by decide) ?_
                                          refine lv_goto (tgt := 228) hx hb dX11_done_224 (by decide) ?_
                                          have lt128 : (1 : Int32).toInt = 1 := by decide
                                          refine cbSi (n := 1) (rest := []) hx hb hml hown hts hE hP hD hS hA (sY_X11_truth_1 l dC dI cy y0 r 1 v f w g hIv hCf hRf ) k_1761 k_1762 k_114 k_1763 (by decide +kernel) ⟨Nat.le_of_ble_eq_true rfl, Nat.le_of_ble_eq_true rfl⟩ (rfl) hl.1 rfl (Nat.le_of_ble_eq_true rfl) dX11_done_228 (fun r129 u H locs hw hP hD hS => ?_)
                                          exact ret r129 () _ _ _ _ _ _ rfl trivial hP hD hS dX11_done_231 (Nat.le_refl _) (Nat.le_refl _)
                                    · skip
                                      have zc121 : ¬ (p0.toInt = 54) := by rw [fa_eq, show (54 : Int32).toInt = 54 from by decide] at c121; exact c121
                                      by_cases c130 : p0 = 55
                                      · skip
                                        refine lv_tableIn (off := 214) (tgt := 215) hx hb dX11_done_1 (by rw [c130]; decide) (by rw [c130]; decide) (by rw [c130]; decide) (by decide) ?_
                                        have zc130 : p0.toInt = 55 := by rw [fa_eq, show (55 : Int32).toInt = 55 from by decide] at c130; exact c130
                                        refine lv_iload_n hx hb dX11_done_215 rfl (lv_at hl 1 rfl) ?_
                                        refine lv_if_ne (tgt := 223) hx hb dX11_done_216 (by decide) (fun c131 => ?_) (fun c131 => ?_)
                                        · skip
                                          have zc131 : ¬ (p1.toInt = 0) := by rw [fa_eq, show (0 : Int32).toInt = 0 from by decide] at c131; exact c131
                                          refine lv_iconst (v := 1) hx hb dX11_done_223 (by decide) ?_
                                          refine lv_goto (tgt := 228) hx hb dX11_done_224 (by decide) ?_
                                          have lt132 : (1 : Int32).toInt = 1 := by decide
                                          refine cbSi (n := 1) (rest := []) hx hb hml hown hts hE hP hD hS hA (sY_X11_truth_1 l dC dI cy y0 r 1 v f w g hIv hCf hRf ) k_1761 k_1762 k_114 k_1763 (by decide +kernel) ⟨Nat.le_of_ble_eq_true rfl, Nat.le_of_ble_eq_true rfl⟩ (rfl) hl.1 rfl (Nat.le_of_ble_eq_true rfl) dX11_done_228 (fun r133 u H locs hw hP hD hS => ?_)
                                          exact ret r133 () _ _ _ _ _ _ rfl trivial hP hD hS dX11_done_231 (Nat.le_refl _) (Nat.le_refl _)
                                        · skip
                                          have zc131 : p1.toInt = 0 := by rw [fa_eq, show (0 : Int32).toInt = 0 from by decide] at c131; exact c131
                                          refine lv_iload_n hx hb dX11_done_219 rfl (lv_at hl 2 rfl) ?_
                                          refine lv_if_eq (tgt := 227) hx hb dX11_done_220 (by decide) (fun c134 => ?_) (fun c134 => ?_)
                                          · skip
                                            have zc134 : p2.toInt = 0 := by rw [fa_eq, show (0 : Int32).toInt = 0 from by decide] at c134; exact c134
                                            refine lv_iconst (v := 0) hx hb dX11_done_227 (by decide) ?_
                                            have lt135 : (0 : Int32).toInt = 0 := by decide
                                            refine cbSi (n := 1) (rest := []) hx hb hml hown hts hE hP hD hS hA (sY_X11_truth_1 l dC dI cy y0 r 0 v f w g hIv hCf hRf ) k_1761 k_1762 k_114 k_1763 (by decide +kernel) ⟨Nat.le_of_ble_eq_true rfl, Nat.le_of_ble_eq_true rfl⟩ (rfl) hl.1 rfl (Nat.le_of_ble_eq_true rfl) dX11_done_228 (fun r136 u H locs hw hP hD hS => ?_)
                                            exact ret r136 () _ _ _ _ _ _ rfl trivial hP hD hS dX11_done_231 (Nat.le_refl _) (Nat.le_refl _)
                                          · skip
                                            have zc134 : ¬ (p2.toInt = 0) := by rw [fa_eq, show (0 : Int32).toInt = 0 from by decide] at c134; exact c134
                                            refine lv_iconst (v := 1) hx hb dX11_done_223 (by decide) ?_
                                            refine lv_goto (tgt := 228) hx hb dX11_done_224 (by decide) ?_
                                            have lt137 : (1 : Int32).toInt = 1 := by decide
                                            refine cbSi (n := 1) (rest := []) hx hb hml hown hts hE hP hD hS hA (sY_X11_truth_1 l dC dI cy y0 r 1 v f w g hIv hCf hRf ) k_1761 k_1762 k_114 k_1763 (by decide +kernel) ⟨Nat.le_of_ble_eq_true rfl, Nat.le_of_ble_eq_true rfl⟩ (rfl) hl.1 rfl (Nat.le_of_ble_eq_true rfl) dX11_done_228 (fun r138 u H locs hw hP hD hS => ?_)
                                            exact ret r138 () _ _ _ _ _ _ rfl trivial hP hD hS dX11_done_231 (Nat.le_refl _) (Nat.le_refl _)
                                      · skip
                                        have zc130 : ¬ (p0.toInt = 55) := by rw [fa_eq, show (55 : Int32).toInt = 55 from by decide] at c130; exact c130
                                        by_cases c139 : p0 = 56
                                        · skip
                                          refine lv_tableIn (off := 214) (tgt := 215) hx hb dX11_done_1 (by rw [c139]; decide) (by rw [c139]; decide) (by rw [c139]; decide) (by decide) ?_
                                          have zc139 : p0.toInt = 56 := by rw [fa_eq, show (56 : Int32).toInt = 56 from by decide] at c139; exact c139
                                          refine lv_iload_n hx hb dX11_done_215 rfl (lv_at hl 1 rfl) ?_
                                          refine lv_if_ne (tgt := 223) hx hb dX11_done_216 (by decide) (fun c140 => ?_) (fun c140 => ?_)
                                          · skip
                                            have zc140 : ¬ (p1.toInt = 0) := by rw [fa_eq, show (0 : Int32).toInt = 0 from by decide] at c140; exact c140
                                            refine lv_iconst (v := 1) hx hb dX11_done_223 (by decide) ?_
                                            refine lv_goto (tgt := 228) hx hb dX11_done_224 (by decide) ?_
                                            have lt141 : (1 : Int32).toInt = 1 := by decide
                                            refine cbSi (n := 1) (rest := []) hx hb hml hown hts hE hP hD hS hA (sY_X11_truth_1 l dC dI cy y0 r 1 v f w g hIv hCf hRf ) k_1761 k_1762 k_114 k_1763 (by decide +kernel) ⟨Nat.le_of_ble_eq_true rfl, Nat.le_of_ble_eq_true rfl⟩ (rfl) hl.1 rfl (Nat.le_of_ble_eq_true rfl) dX11_done_228 (fun r142 u H locs hw hP hD hS => ?_)
                                            exact ret r142 () _ _ _ _ _ _ rfl trivial hP hD hS dX11_done_231 (Nat.le_refl _) (Nat.le_refl _)
                                          · skip
                                            have zc140 : p1.toInt = 0 := by rw [fa_eq, show (0 : Int32).toInt = 0 from by decide] at c140; exact c140
                                            refine lv_iload_n hx hb dX11_done_219 rfl (lv_at hl 2 rfl) ?_
                                            refine lv_if_eq (tgt := 227) hx hb dX11_done_220 (by decide) (fun c143 => ?_) (fun c143 => ?_)
                                            · skip
                                              have zc143 : p2.toInt = 0 := by rw [fa_eq, show (0 : Int32).toInt = 0 from by decide] at c143; exact c143
                                              refine lv_iconst (v := 0) hx hb dX11_done_227 (by decide) ?_
                                              have lt144 : (0 : Int32).toInt = 0 := by decide
                                              refine cbSi (n := 1) (rest := []) hx hb hml hown hts hE hP hD hS hA (sY_X11_truth_1 l dC dI cy y0 r 0 v f w g hIv hCf hRf ) k_1761 k_1762 k_114 k_1763 (by decide +kernel) ⟨Nat.le_of_ble_eq_true rfl, Nat.le_of_ble_eq_true rfl⟩ (rfl) hl.1 rfl (Nat.le_of_ble_eq_true rfl) dX11_done_228 (fun r145 u H locs hw hP hD hS => ?_)
                                              exact ret r145 () _ _ _ _ _ _ rfl trivial hP hD hS dX11_done_231 (Nat.le_refl _) (Nat.le_refl _)
                                            · skip
                                              have zc143 : ¬ (p2.toInt = 0) := by rw [fa_eq, show (0 : Int32).toInt = 0 from by decide] at c143; exact c143
                                              refine lv_iconst (v := 1) hx hb dX11_done_223 (by decide) ?_
                                              refine lv_goto (tgt := 228) hx hb dX11_done_224 (by decide) ?_
                                              have lt146 : (1 : Int32).toInt = 1 := by decide
                                              refine cbSi (n := 1) (rest := []) hx hb hml hown hts hE hP hD hS hA (sY_X11_truth_1 l dC dI cy y0 r 1 v f w g hIv hCf hRf ) k_1761 k_1762 k_114 k_1763 (by decide +kernel) ⟨Nat.le_of_ble_eq_true rfl, Nat.le_of_ble_eq_true rfl⟩ (rfl) hl.1 rfl (Nat.le_of_ble_eq_true rfl) dX11_done_228 (fun r147 u H locs hw hP hD hS => ?_)
                                              exact ret r147 () _ _ _ _ _ _ rfl trivial hP hD hS dX11_done_231 (Nat.le_refl _) (Nat.le_refl _)
                                        · skip
                                          have zc139 : ¬ (p0.toInt = 56) := by rw [fa_eq, show (56 : Int32).toInt = 56 from by decide] at c139; exact c139
                                          by_cases c148 : p0 = 57
                                          · skip
                                            refine lv_tableIn (off := 214) (tgt := 215) hx hb dX11_done_1 (by rw [c148]; decide) (by rw [c148]; decide) (by rw [c148]; decide) (by decide) ?_
                                            have zc148 : p0.toInt = 57 := by rw [fa_eq, show (57 : Int32).toInt = 57 from by decide] at c148; exact c148
                                            refine lv_iload_n hx hb dX11_done_215 rfl (lv_at hl 1 rfl) ?_
                                            refine lv_if_ne (tgt := 223) hx hb dX11_done_216 (by decide) (fun c149 => ?_) (fun c149 => ?_)
                                            · skip
                                              have zc149 : ¬ (p1.toInt = 0) := by rw [fa_eq, show (0 : Int32).toInt = 0 from by decide] at c149; exact c149
                                              refine lv_iconst (v := 1) hx hb dX11_done_223 (by decide) ?_
                                              refine lv_goto (tgt := 228) hx hb dX11_done_224 (by decide) ?_
                                              have lt150 : (1 : Int32).toInt = 1 := by decide
                                              refine cbSi (n := 1) (rest := []) hx hb hml hown hts hE hP hD hS hA (sY_X11_truth_1 l dC dI cy y0 r 1 v f w g hIv hCf hRf ) k_1761 k_1762 k_114 k_1763 (by decide +kernel) ⟨Nat.le_of_ble_eq_true rfl, Nat.le_of_ble_eq_true rfl⟩ (rfl) hl.1 rfl (Nat.le_of_ble_eq_true rfl) dX11_done_228 (fun r151 u H locs hw hP hD hS => ?_)
                                              exact ret r151 () _ _ _ _ _ _ rfl trivial hP hD hS dX11_done_231 (Nat.le_refl _) (Nat.le_refl _)
                                            · skip
                                              have zc149 : p1.toInt = 0 := by rw [fa_eq, show (0 : Int32).toInt = 0 from by decide] at c149; exact c149
                                              refine lv_iload_n hx hb dX11_done_219 rfl (lv_at hl 2 rfl) ?_
                                              refine lv_if_eq (tgt := 227) hx hb dX11_done_220 (by decide) (fun c152 => ?_) (fun c152 => ?_)
                                              · skip
                                                have zc152 : p2.toInt = 0 := by rw [fa_eq, show (0 : Int32).toInt = 0 from by decide] at c152; exact c152
                                                refine lv_iconst (v := 0) hx hb dX11_done_227 (by decide) ?_
                                                have lt153 : (0 : Int32).toInt = 0 := by decide
                                                refine cbSi (n := 1) (rest := []) hx hb hml hown hts hE hP hD hS hA (sY_X11_truth_1 l dC dI cy y0 r 0 v f w g hIv hCf hRf ) k_1761 k_1762 k_114 k_1763 (by decide +kernel) ⟨Nat.le_of_ble_eq_true rfl, Nat.le_of_ble_eq_true rfl⟩ (rfl) hl.1 rfl (Nat.le_of_ble_eq_true rfl) dX11_done_228 (fun r154 u H locs hw hP hD hS => ?_)
                                                exact ret r154 () _ _ _ _ _ _ rfl trivial hP hD hS dX11_done_231 (Nat.le_refl _) (Nat.le_refl _)
                                              · skip
                                                have zc152 : ¬ (p2.toInt = 0) := by rw [fa_eq, show (0 : Int32).toInt = 0 from by decide] at c152; exact c152
                                                refine lv_iconst (v := 1) hx hb dX11_done_223 (by decide) ?_
                                                refine lv_goto (tgt := 228) hx hb dX11_done_224 (by decide) ?_
                                                have lt155 : (1 : Int32).toInt = 1 := by decide
                                                refine cbSi (n := 1) (rest := []) hx hb hml hown hts hE hP hD hS hA (sY_X11_truth_1 l dC dI cy y0 r 1 v f w g hIv hCf hRf ) k_1761 k_1762 k_114 k_1763 (by decide +kernel) ⟨Nat.le_of_ble_eq_true rfl, Nat.le_of_ble_eq_true rfl⟩ (rfl) hl.1 rfl (Nat.le_of_ble_eq_true rfl) dX11_done_228 (fun r156 u H locs hw hP hD hS => ?_)
                                                exact ret r156 () _ _ _ _ _ _ rfl trivial hP hD hS dX11_done_231 (Nat.le_refl _) (Nat.le_refl _)
                                          · skip
                                            have zc148 : ¬ (p0.toInt = 57) := by rw [fa_eq, show (57 : Int32).toInt = 57 from by decide] at c148; exact c148
                                            by_cases c157 : p0 = 58
                                            · skip
                                              refine lv_tableIn (off := 214) (tgt := 215) hx hb dX11_done_1 (by rw [c157]; decide) (by rw [c157]; decide) (by rw [c157]; decide) (by decide) ?_
                                              have zc157 : p0.toInt = 58 := by rw [fa_eq, show (58 : Int32).toInt = 58 from by decide] at c157; exact c157
                                              refine lv_iload_n hx hb dX11_done_215 rfl (lv_at hl 1 rfl) ?_
                                              refine lv_if_ne (tgt := 223) hx hb dX11_done_216 (by decide) (fun c158 => ?_) (fun c158 => ?_)
                                              · skip
                                                have zc158 : ¬ (p1.toInt = 0) := by rw [fa_eq, show (0 : Int32).toInt = 0 from by decide] at c158; exact c158
                                                refine lv_iconst (v := 1) hx hb dX11_done_223 (by decide) ?_
                                                refine lv_goto (tgt := 228) hx hb dX11_done_224 (by decide) ?_
                                                have lt159 : (1 : Int32).toInt = 1 := by decide
                                                refine cbSi (n := 1) (rest := []) hx hb hml hown hts hE hP hD hS hA (sY_X11_truth_1 l dC dI cy y0 r 1 v f w g hIv hCf hRf ) k_1761 k_1762 k_114 k_1763 (by decide +kernel) ⟨Nat.le_of_ble_eq_true rfl, Nat.le_of_ble_eq_true rfl⟩ (rfl) hl.1 rfl (Nat.le_of_ble_eq_true rfl) dX11_done_228 (fun r160 u H locs hw hP hD hS => ?_)
                                                exact ret r160 () _ _ _ _ _ _ rfl trivial hP hD hS dX11_done_231 (Nat.le_refl _) (Nat.le_refl _)
                                              · skip
                                                have zc158 : p1.toInt = 0 := by rw [fa_eq, show (0 : Int32).toInt = 0 from by decide] at c158; exact c158
                                                refine lv_iload_n hx hb dX11_done_219 rfl (lv_at hl 2 rfl) ?_
                                                refine lv_if_eq (tgt := 227) hx hb dX11_done_220 (by decide) (fun c161 => ?_) (fun c161 => ?_)
                                                · skip
                                                  have zc161 : p2.toInt = 0 := by rw [fa_eq, show (0 : Int32).toInt = 0 from by decide] at c161; exact c161
                                                  refine lv_iconst (v := 0) hx hb dX11_done_227 (by decide) ?_
                                                  have lt162 : (0 : Int32).toInt = 0 := by decide
                                                  refine cbSi (n := 1) (rest := []) hx hb hml hown hts hE hP hD hS hA (sY_X11_truth_1 l dC dI cy y0 r 0 v f w g hIv hCf hRf ) k_1761 k_1762 k_114 k_1763 (by decide +kernel) ⟨Nat.le_of_ble_eq_true rfl, Nat.le_of_ble_eq_true rfl⟩ (rfl) hl.1 rfl (Nat.le_of_ble_eq_true rfl) dX11_done_228 (fun r163 u H locs hw hP hD hS => ?_)
                                                  exact ret r163 () _ _ _ _ _ _ rfl trivial hP hD hS dX11_done_231 (Nat.le_refl _) (Nat.le_refl _)
                                                · skip
                                                  have zc161 : ¬ (p2.toInt = 0) := by rw [fa_eq, show (0 : Int32).toInt = 0 from by decide] at c161; exact c161
                                                  refine lv_iconst (v := 1) hx hb dX11_done_223 (by decide) ?_
                                                  refine lv_goto (tgt := 228) hx hb dX11_done_224 (by decide) ?_
                                                  have lt164 : (1 : Int32).toInt = 1 := by decide
                                                  refine cbSi (n := 1) (rest := []) hx hb hml hown hts hE hP hD hS hA (sY_X11_truth_1 l dC dI cy y0 r 1 v f w g hIv hCf hRf ) k_1761 k_1762 k_114 k_1763 (by decide +kernel) ⟨Nat.le_of_ble_eq_true rfl, Nat.le_of_ble_eq_true rfl⟩ (rfl) hl.1 rfl (Nat.le_of_ble_eq_true rfl) dX11_done_228 (fun r165 u H locs hw hP hD hS => ?_)
                                                  exact ret r165 () _ _ _ _ _ _ rfl trivial hP hD hS dX11_done_231 (Nat.le_refl _) (Nat.le_refl _)
                                            · skip
                                              have zc157 : ¬ (p0.toInt = 58) := by rw [fa_eq, show (58 : Int32).toInt = 58 from by decide] at c157; exact c157
                                              by_cases c166 : p0 = 59
                                              · skip
                                                refine lv_tableIn (off := 214) (tgt := 215) hx hb dX11_done_1 (by rw [c166]; decide) (by rw [c166]; decide) (by rw [c166]; decide) (by decide) ?_
                                                have zc166 : p0.toInt = 59 := by rw [fa_eq, show (59 : Int32).toInt = 59 from by decide] at c166; exact c166
                                                refine lv_iload_n hx hb dX11_done_215 rfl (lv_at hl 1 rfl) ?_
                                                refine lv_if_ne (tgt := 223) hx hb dX11_done_216 (by decide) (fun c167 => ?_) (fun c167 => ?_)
                                                · skip
                                                  have zc167 : ¬ (p1.toInt = 0) := by rw [fa_eq, show (0 : Int32).toInt = 0 from by decide] at c167; exact c167
                                                  refine lv_iconst (v := 1) hx hb dX11_done_223 (by decide) ?_
                                                  refine lv_goto (tgt := 228) hx hb dX11_done_224 (by decide) ?_
                                                  have lt168 : (1 : Int32).toInt = 1 := by decide
                                                  refine cbSi (n := 1) (rest := []) hx hb hml hown hts hE hP hD hS hA (sY_X11_truth_1 l dC dI cy y0 r 1 v f w g hIv hCf hRf ) k_1761 k_1762 k_114 k_1763 (by decide +kernel) ⟨Nat.le_of_ble_eq_true rfl, Nat.le_of_ble_eq_true rfl⟩ (rfl) hl.1 rfl (Nat.le_of_ble_eq_true rfl) dX11_done_228 (fun r169 u H locs hw hP hD hS => ?_)
                                                  exact ret r169 () _ _ _ _ _ _ rfl trivial hP hD hS dX11_done_231 (Nat.le_refl _) (Nat.le_refl _)
                                                · skip
                                                  have zc167 : p1.toInt = 0 := by rw [fa_eq, show (0 : Int32).toInt = 0 from by decide] at c167; exact c167
                                                  refine lv_iload_n hx hb dX11_done_219 rfl (lv_at hl 2 rfl) ?_
                                                  refine lv_if_eq (tgt := 227) hx hb dX11_done_220 (by decide) (fun c170 => ?_) (fun c170 => ?_)
                                                  · skip
                                                    have zc170 : p2.toInt = 0 := by rw [fa_eq, show (0 : Int32).toInt = 0 from by decide] at c170; exact c170
                                                    refine lv_iconst (v := 0) hx hb dX11_done_227 (by decide) ?_
                                                    have lt171 : (0 : Int32).toInt = 0 := by decide
                                                    refine cbSi (n := 1) (rest := []) hx hb hml hown hts hE hP hD hS hA (sY_X11_truth_1 l dC dI cy y0 r 0 v f w g hIv hCf hRf ) k_1761 k_1762 k_114 k_1763 (by decide +kernel) ⟨Nat.le_of_ble_eq_true rfl, Nat.le_of_ble_eq_true rfl⟩ (rfl) hl.1 rfl (Nat.le_of_ble_eq_true rfl) dX11_done_228 (fun r172 u H locs hw hP hD hS => ?_)
                                                    exact ret r172 () _ _ _ _ _ _ rfl trivial hP hD hS dX11_done_231 (Nat.le_refl _) (Nat.le_refl _)
                                                  · skip
                                                    have zc170 : ¬ (p2.toInt = 0) := by rw [fa_eq, show (0 : Int32).toInt = 0 from by decide] at c170; exact c170
                                                    refine lv_iconst (v := 1) hx hb dX11_done_223 (by decide) ?_
                                                    refine lv_goto (tgt := 228) hx hb dX11_done_224 (by decide) ?_
                                                    have lt173 : (1 : Int32).toInt = 1 := by decide
                                                    refine cbSi (n := 1) (rest := []) hx hb hml hown hts hE hP hD hS hA (sY_X11_truth_1 l dC dI cy y0 r 1 v f w g hIv hCf hRf ) k_1761 k_1762 k_114 k_1763 (by decide +kernel) ⟨Nat.le_of_ble_eq_true rfl, Nat.le_of_ble_eq_true rfl⟩ (rfl) hl.1 rfl (Nat.le_of_ble_eq_true rfl) dX11_done_228 (fun r174 u H locs hw hP hD hS => ?_)
                                                    exact ret r174 () _ _ _ _ _ _ rfl trivial hP hD hS dX11_done_231 (Nat.le_refl _) (Nat.le_refl _)
                                              · skip
                                                have zc166 : ¬ (p0.toInt = 59) := by rw [fa_eq, show (59 : Int32).toInt = 59 from by decide] at c166; exact c166
                                                by_cases c175 : p0 = 60
                                                · skip
                                                  refine lv_tableIn (off := 155) (tgt := 156) hx hb dX11_done_1 (by rw [c175]; decide) (by rw [c175]; decide) (by rw [c175]; decide) (by decide) ?_
                                                  have zc175 : p0.toInt = 60 := by rw [fa_eq, show (60 : Int32).toInt = 60 from by decide] at c175; exact c175
                                                  refine lv_iload_n hx hb dX11_done_156 rfl (lv_at hl 1 rfl) ?_
                                                  refine lv_iload_n hx hb dX11_done_157 rfl (lv_at hl 2 rfl) ?_
                                                  refine lv_icmp_ge (tgt := 165) hx hb dX11_done_158 (by decide) (fun c176 => ?_) (fun c176 => ?_)
                                                  · skip
                                                    have zc176 : p2.toInt ≤ p1.toInt := by rw [fa_le] at c176; exact c176
                                                    have rg177 := fb_rng p1
                                                    have rg178 := fb_rng p2
                                                    refine lv_iconst (v := 0) hx hb dX11_done_165 (by decide) ?_
                                                    have lt179 : (0 : Int32).toInt = 0 := by decide
                                                    refine cbSi (n := 1) (rest := []) hx hb hml hown hts hE hP hD hS hA (sY_X11_truth_1 l dC dI cy y0 r 0 v f w g hIv hCf hRf ) k_1761 k_1762 k_114 k_1763 (by decide +kernel) ⟨Nat.le_of_ble_eq_true rfl, Nat.le_of_ble_eq_true rfl⟩ (rfl) hl.1 rfl (Nat.le_of_ble_eq_true rfl) dX11_done_166 (fun r180 u H locs hw hP hD hS => ?_)
                                                    exact ret r180 () _ _ _ _ _ _ rfl trivial hP hD hS dX11_done_169 (Nat.le_refl _) (Nat.le_refl _)
                                                  · skip
                                                    have zc176 : ¬ (p2.toInt ≤ p1.toInt) := by rw [fa_le] at c176; exact c176
                                                    have rg181 := fb_rng p1
                                                    have rg182 := fb_rng p2
                                                    refine lv_iconst (v := 1) hx hb dX11_done_161 (by decide) ?_
                                                    refine lv_goto (tgt := 166) hx hb dX11_done_162 (by decide) ?_
                                                    have lt183 : (1 : Int32).toInt = 1 := by decide
                                                    refine cbSi (n := 1) (rest := []) hx hb hml hown hts hE hP hD hS hA (sY_X11_truth_1 l dC dI cy y0 r 1 v f w g hIv hCf hRf ) k_1761 k_1762 k_114 k_1763 (by decide +kernel) ⟨Nat.le_of_ble_eq_true rfl, Nat.le_of_ble_eq_true rfl⟩ (rfl) hl.1 rfl (Nat.le_of_ble_eq_true rfl) dX11_done_166 (fun r184 u H locs hw hP hD hS => ?_)
                                                    exact ret r184 () _ _ _ _ _ _ rfl trivial hP hD hS dX11_done_169 (Nat.le_refl _) (Nat.le_refl _)
                                                · skip
                                                  have zc175 : ¬ (p0.toInt = 60) := by rw [fa_eq, show (60 : Int32).toInt = 60 from by decide] at c175; exact c175
                                                  by_cases c185 : p0 = 61
                                                  · skip
                                                    refine lv_tableIn (off := 183) (tgt := 184) hx hb dX11_done_1 (by rw [c185]; decide) (by rw [c185]; decide) (by rw [c185]; decide) (by decide) ?_
                                                    have zc185 : p0.toInt = 61 := by rw [fa_eq, show (61 : Int32).toInt = 61 from by decide] at c185; exact c185
                                                    refine lv_iload_n hx hb dX11_done_184 rfl (lv_at hl 1 rfl) ?_
                                                    refine lv_iload_n hx hb dX11_done_185 rfl (lv_at hl 2 rfl) ?_
                                                    refine lv_icmp_ne (tgt := 193) hx hb dX11_done_186 (by decide) (fun c186 => ?_) (fun c186 => ?_)
                                                    · skip
                                                      have zc186 : ¬ (p1.toInt = p2.toInt) := by rw [fa_eq] at c186; exact c186
                                                      have rg187 := fb_rng p1
                                                      have rg188 := fb_rng p2
                                                      refine lv_iconst (v := 0) hx hb dX11_done_193 (by decide) ?_
                                                      have lt189 : (0 : Int32).toInt = 0 := by decide
                                                      refine cbSi (n := 1) (rest := []) hx hb hml hown hts hE hP hD hS hA (sY_X11_truth_1 l dC dI cy y0 r 0 v f w g hIv hCf hRf ) k_1761 k_1762 k_114 k_1763 (by decide +kernel) ⟨Nat.le_of_ble_eq_true rfl, Nat.le_of_ble_eq_true rfl⟩ (rfl) hl.1 rfl (Nat.le_of_ble_eq_true rfl) dX11_done_194 (fun r190 u H locs hw hP hD hS => ?_)
                                                      exact ret r190 () _ _ _ _ _ _ rfl trivial hP hD hS dX11_done_197 (Nat.le_refl _) (Nat.le_refl _)
                                                    · skip
                                                      have zc186 : p1.toInt = p2.toInt := by rw [fa_eq] at c186; exact c186
                                                      have rg191 := fb_rng p1
                                                      have rg192 := fb_rng p2
                                                      refine lv_iconst (v := 1) hx hb dX11_done_189 (by decide) ?_
                                                      refine lv_goto (tgt := 194) hx hb dX11_done_190 (by decide) ?_
                                                      have lt193 : (1 : Int32).toInt = 1 := by decide
                                                      refine cbSi (n := 1) (rest := []) hx hb hml hown hts hE hP hD hS hA (sY_X11_truth_1 l dC dI cy y0 r 1 v f w g hIv hCf hRf ) k_1761 k_1762 k_114 k_1763 (by decide +kernel) ⟨Nat.le_of_ble_eq_true rfl, Nat.le_of_ble_eq_true rfl⟩ (rfl) hl.1 rfl (Nat.le_of_ble_eq_true rfl) dX11_done_194 (fun r194 u H locs hw hP hD hS => ?_)
                                                      exact ret r194 () _ _ _ _ _ _ rfl trivial hP hD hS dX11_done_197 (Nat.le_refl _) (Nat.le_refl _)
                                                  · skip
                                                    have zc185 : ¬ (p0.toInt = 61) := by rw [fa_eq, show (61 : Int32).toInt = 61 from by decide] at c185; exact c185
                                                    by_cases c195 : p0 = 62
                                                    · skip
                                                      refine lv_tableIn (off := 169) (tgt := 170) hx hb dX11_done_1 (by rw [c195]; decide) (by rw [c195]; decide) (by rw [c195]; decide) (by decide) ?_
                                                      have zc195 : p0.toInt = 62 := by rw [fa_eq, show (62 : Int32).toInt = 62 from by decide] at c195; exact c195
                                                      refine lv_iload_n hx hb dX11_done_170 rfl (lv_at hl 1 rfl) ?_
                                                      refine lv_iload_n hx hb dX11_done_171 rfl (lv_at hl 2 rfl) ?_
                                                      refine lv_icmp_le (tgt := 179) hx hb dX11_done_172 (by decide) (fun c196 => ?_) (fun c196 => ?_)
                                                      · skip
                                                        have zc196 : p1.toInt ≤ p2.toInt := by rw [fa_le] at c196; exact c196
                                                        have rg197 := fb_rng p1
                                                        have rg198 := fb_rng p2
                                                        refine lv_iconst (v := 0) hx hb dX11_done_179 (by decide) ?_
                                                        have lt199 : (0 : Int32).toInt = 0 := by decide
                                                        refine cbSi (n := 1) (rest := []) hx hb hml hown hts hE hP hD hS hA (sY_X11_truth_1 l dC dI cy y0 r 0 v f w g hIv hCf hRf ) k_1761 k_1762 k_114 k_1763 (by decide +kernel) ⟨Nat.le_of_ble_eq_true rfl, Nat.le_of_ble_eq_true rfl⟩ (rfl) hl.1 rfl (Nat.le_of_ble_eq_true rfl) dX11_done_180 (fun r200 u H locs hw hP hD hS => ?_)
                                                        exact ret r200 () _ _ _ _ _ _ rfl trivial hP hD hS dX11_done_183 (Nat.le_refl _) (Nat.le_refl _)
                                                      · skip
                                                        have zc196 : ¬ (p1.toInt ≤ p2.toInt) := by rw [fa_le] at c196; exact c196
                                                        have rg201 := fb_rng p1
                                                        have rg202 := fb_rng p2
                                                        refine lv_iconst (v := 1) hx hb dX11_done_175 (by decide) ?_
                                                        refine lv_goto (tgt := 180) hx hb dX11_done_176 (by decide) ?_
                                                        have lt203 : (1 : Int32).toInt = 1 := by decide
                                                        refine cbSi (n := 1) (rest := []) hx hb hml hown hts hE hP hD hS hA (sY_X11_truth_1 l dC dI cy y0 r 1 v f w g hIv hCf hRf ) k_1761 k_1762 k_114 k_1763 (by decide +kernel) ⟨Nat.le_of_ble_eq_true rfl, Nat.le_of_ble_eq_true rfl⟩ (rfl) hl.1 rfl (Nat.le_of_ble_eq_true rfl) dX11_done_180 (fun r204 u H locs hw hP hD hS => ?_)
                                                        exact ret r204 () _ _ _ _ _ _ rfl trivial hP hD hS dX11_done_183 (Nat.le_refl _) (Nat.le_refl _)
                                                    · skip
                                                      have zc195 : ¬ (p0.toInt = 62) := by rw [fa_eq, show (62 : Int32).toInt = 62 from by decide] at c195; exact c195
                                                      refine lv_tableOut (tgt := 215) hx hb dX11_done_1 (by omega) (by decide) ?_
                                                      refine lv_iload_n hx hb dX11_done_215 rfl (lv_at hl 1 rfl) ?_
                                                      refine lv_if_ne (tgt := 223) hx hb dX11_done_216 (by decide) (fun c205 => ?_) (fun c205 => ?_)
                                                      · skip
                                                        have zc205 : ¬ (p1.toInt = 0) := by rw [fa_eq, show (0 : Int32).toInt = 0 from by decide] at c205; exact c205
                                                        refine lv_iconst (v := 1) hx hb dX11_done_223 (by decide) ?_
                                                        refine lv_goto (tgt := 228) hx hb dX11_done_224 (by decide) ?_
                                                        have lt206 : (1 : Int32).toInt = 1 := by decide
                                                        refine cbSi (n := 1) (rest := []) hx hb hml hown hts hE hP hD hS hA (sY_X11_truth_1 l dC dI cy y0 r 1 v f w g hIv hCf hRf ) k_1761 k_1762 k_114 k_1763 (by decide +kernel) ⟨Nat.le_of_ble_eq_true rfl, Nat.le_of_ble_eq_true rfl⟩ (rfl) hl.1 rfl (Nat.le_of_ble_eq_true rfl) dX11_done_228 (fun r207 u H locs hw hP hD hS => ?_)
                                                        exact ret r207 () _ _ _ _ _ _ rfl trivial hP hD hS dX11_done_231 (Nat.le_refl _) (Nat.le_refl _)
                                                      · skip
                                                        have zc205 : p1.toInt = 0 := by rw [fa_eq, show (0 : Int32).toInt = 0 from by decide] at c205; exact c205
                                                        refine lv_iload_n hx hb dX11_done_219 rfl (lv_at hl 2 rfl) ?_
                                                        refine lv_if_eq (tgt := 227) hx hb dX11_done_220 (by decide) (fun c208 => ?_) (fun c208 => ?_)
                                                        · skip
                                                          have zc208 : p2.toInt = 0 := by rw [fa_eq, show (0 : Int32).toInt = 0 from by decide] at c208; exact c208
                                                          refine lv_iconst (v := 0) hx hb dX11_done_227 (by decide) ?_
                                                          have lt209 : (0 : Int32).toInt = 0 := by decide
                                                          refine cbSi (n := 1) (rest := []) hx hb hml hown hts hE hP hD hS hA (sY_X11_truth_1 l dC dI cy y0 r 0 v f w g hIv hCf hRf ) k_1761 k_1762 k_114 k_1763 (by decide +kernel) ⟨Nat.le_of_ble_eq_true rfl, Nat.le_of_ble_eq_true rfl⟩ (rfl) hl.1 rfl (Nat.le_of_ble_eq_true rfl) dX11_done_228 (fun r210 u H locs hw hP hD hS => ?_)
                                                          exact ret r210 () _ _ _ _ _ _ rfl trivial hP hD hS dX11_done_231 (Nat.le_refl _) (Nat.le_refl _)
                                                        · skip
                                                          have zc208 : ¬ (p2.toInt = 0) := by rw [fa_eq, show (0 : Int32).toInt = 0 from by decide] at c208; exact c208
                                                          refine lv_iconst (v := 1) hx hb dX11_done_223 (by decide) ?_
                                                          refine lv_goto (tgt := 228) hx hb dX11_done_224 (by decide) ?_
                                                          have lt211 : (1 : Int32).toInt = 1 := by decide
                                                          refine cbSi (n := 1) (rest := []) hx hb hml hown hts hE hP hD hS hA (sY_X11_truth_1 l dC dI cy y0 r 1 v f w g hIv hCf hRf ) k_1761 k_1762 k_114 k_1763 (by decide +kernel) ⟨Nat.le_of_ble_eq_true rfl, Nat.le_of_ble_eq_true rfl⟩ (rfl) hl.1 rfl (Nat.le_of_ble_eq_true rfl) dX11_done_228 (fun r212 u H locs hw hP hD hS => ?_)
                                                          exact ret r212 () _ _ _ _ _ _ rfl trivial hP hD hS dX11_done_231 (Nat.le_refl _) (Nat.le_refl _)
