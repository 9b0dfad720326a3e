set_option maxHeartbeats 4000000 in
set_option maxRecDepth 100000 in
theorem sY_X11_regiment_1 (NF : Nat) (l : Launch) (dC : Nat → ClassId) (dI : Nat → Nat → Nat) (cy : Nat → ClassId) (y0 : Nat) (r : Nat → Nat)  (v : Nat → Int32) (f : Nat → Nat → Int32) (w : Int64) (g : Nat → Int64) (hIv : YI v) (hCf : YC f) (hRf : progOK (f 4) (f 5) (v 9).toInt.toNat)  : ctI l (dC, dI) cy yX11_regiment cX11_regiment 2 .int 9 232 0 0 ((Nat → Int32) × (Nat → Nat → Int32) × (Int64) × (Nat → Int64)) [.ref y0] (YW cy y0 r v f w g) (fun r u => gsY_X11_regiment_1 NF v f w g = (r, u) ∧ KV [0, 1, 2, 3, 4, 5, 6, 7, 8, 9, 10, 11, 12, 13, 14, 15, 16, 17, 18, 19, 20, 21, 22, 23, 24, 25, 26, 27, 28, 29, 30, 31, 32, 33, 34, 35, 36, 37, 38] u.1 v ∧ KF [2, 3, 4, 5, 6, 9, 10, 11, 12, 13, 14, 15, 16, 17, 18, 19, 20, 21, 22, 23, 24, 36] u.2.1 f ∧ YI u.1 ∧ YC u.2.1 ∧ progOK (u.2.1 4) (u.2.1 5) (u.1 9).toInt.toNat ∧ u.1 39 = v 39 ∧ ((u.1 0).toInt = 0) ∧ ((gsY_X11_readAll_1 NF v f w g).1 1 ≤ 0 ∨ ((∀ k, ([9, 16, 24, 25, 26, 27, 28, 29, 38, 39] : List Nat).contains k = true → u.1 k = v k) ∧ ∀ k, ([4, 5, 16, 17, 18, 19, 20, 21, 22, 30, 31, 32, 33] : List Nat).contains k = true → u.2.1 k = f k))) (fun u => YW cy y0 r u.1 u.2.1 u.2.2.1 u.2.2.2) := by
  refine ctI_of (by decide) (Nat.le_of_ble_eq_true rfl) (fun p e s m below meth c A ls Q hx hb hml hts hown hE hP hD hA hl ret => ?_)
  have hUv : (v 35).toInt + (v 36).toInt ≤ 40 := hIv.2
  have hM_v : KV [0, 1, 2, 3, 4, 5, 6, 7, 8, 9, 10, 11, 12, 13, 14, 15, 16, 17, 18, 19, 20, 21, 22, 23, 24, 25, 26, 27, 28, 29, 30, 31, 32, 33, 34, 35, 36, 37, 38] v v := fun _ _ => rfl
  have hA_f : KF [2, 3, 4, 5, 6, 9, 10, 11, 12, 13, 14, 15, 16, 17, 18, 19, 20, 21, 22, 23, 24, 36] f f := fun _ _ => rfl
  have b0_v : (0 : Int) ≤ (v 0).toInt ∧ (v 0).toInt ≤ 1600 := YIb.b hIv.1 0 (by decide)
  have b1_v : (0 : Int) ≤ (v 1).toInt ∧ (v 1).toInt ≤ 4 := YIb.b hIv.1 1 (by decide)
  have b8_v : (0 : Int) ≤ (v 8).toInt ∧ (v 8).toInt ≤ 320 := YIb.b hIv.1 8 (by decide)
  have b10_v : (0 : Int) ≤ (v 10).toInt ∧ (v 10).toInt ≤ 160 := YIb.b hIv.1 10 (by decide)
  have b13_v : (0 : Int) ≤ (v 13).toInt ∧ (v 13).toInt ≤ 31 := YIb.b hIv.1 13 (by decide)
  have b14_v : (0 : Int) ≤ (v 14).toInt ∧ (v 14).toInt ≤ 8 := YIb.b hIv.1 14 (by decide)
  have b15_v : (0 : Int) ≤ (v 15).toInt ∧ (v 15).toInt ≤ 1 := YIb.b hIv.1 15 (by decide)
  have b17_v : (0 : Int) ≤ (v 17).toInt ∧ (v 17).toInt ≤ 6 := YIb.b hIv.1 17 (by decide)
  have b18_v : (0 : Int) ≤ (v 18).toInt ∧ (v 18).toInt ≤ 6 := YIb.b hIv.1 18 (by decide)
  have hown : s.vm.findClass RX11 = some m.cls := hown
  have hS : va_S A s.heap s.heap [] := va_S.rf
  have hl : lv_has ls 2 [(0, .ref y0)] := hl
  refine lv_aload_n hx hb dX11_regiment_0 rfl (lv_at hl 0 rfl) ?_
  refine cbVv (n := 0) (rest := []) hx hb hml hown hts hE hP hD hS hA (sY_X11_readAll_1 NF l dC dI cy y0 r  v f w g hIv hCf hRf ) k_1575 k_1577 k_41 k_114 k_1578 (by decide +kernel) ⟨Nat.le_of_ble_eq_true rfl, Nat.le_of_ble_eq_true rfl⟩ 0 11 rfl rfl (rfl) hl.1 rfl (Nat.le_of_ble_eq_true rfl) dX11_regiment_1 (fun u H locs hw hP hD hS => ?_)
  obtain ⟨hG1, hw⟩ := hw
  obtain ⟨v2, f3, w4, g5⟩ := u
  obtain ⟨kV_v2, kF_f3, hIv2, hCf3, hRf3, hk9_v2, hk24_v2, hk25_v2, hk35_v2, hk36_v2, hk38_v2, hk39_v2, pv6, pg7⟩ := hw
  have hM_v2 : KV [0, 1, 2, 3, 4, 5, 6, 7, 8, 9, 10, 11, 12, 13, 14, 15, 16, 17, 18, 19, 20, 21, 22, 23, 24, 25, 26, 27, 28, 29, 30, 31, 32, 33, 34, 35, 36, 37, 38] v2 v := KV.tr kV_v2 hM_v (by decide +kernel)
  have hA_f3 : KF [2, 3, 4, 5, 6, 9, 10, 11, 12, 13, 14, 15, 16, 17, 18, 19, 20, 21, 22, 23, 24, 36] f3 f := KF.tr kF_f3 hA_f (by decide +kernel)
  have hP : va_P (dC, dI) vwCl (YW cy y0 r v2 f3 w4 g5) H := hP
  have hD : va_D A (YW cy y0 r v2 f3 w4 g5) := hD
  have b0_v2 : 0 ≤ (v2 0).toInt ∧ (v2 0).toInt ≤ 1600 := YIb.b hIv2.1 0 (by decide)
  have b1_v2 : 0 ≤ (v2 1).toInt ∧ (v2 1).toInt ≤ 4 := YIb.b hIv2.1 1 (by decide)
  have b15_v2 : 0 ≤ (v2 15).toInt ∧ (v2 15).toInt ≤ 1 := YIb.b hIv2.1 15 (by decide)
  have b8_v2 : 0 ≤ (v2 8).toInt ∧ (v2 8).toInt ≤ 320 := YIb.b hIv2.1 8 (by decide)
  have pv6 : (v2 0).toInt = 0 := pv6
  have pg7 : IM0 (v2 1).toInt (IMn (v2 15).toInt (progOK (f3 2) (f3 3) ((v2 8).toInt).toNat)) := pg7
  have hUv2 : (v2 35).toInt + (v2 36).toInt ≤ 40 := hIv2.2
  have hq9_v2 : v2 9 = (v 9) := hk9_v2
  have zq9_v2 := congrArg Int32.toInt hq9_v2
  have hq35_v2 : v2 35 = (v 35) := hk35_v2
  have zq35_v2 := congrArg Int32.toInt hq35_v2
  have hq36_v2 : v2 36 = (v 36) := hk36_v2
  have zq36_v2 := congrArg Int32.toInt hq36_v2
  have hq38_v2 : v2 38 = (v 38) := hk38_v2
  have hq39_v2 : v2 39 = (v 39) := hk39_v2
  have hPL := pg7
  refine lv_aload_n hx hb dX11_regiment_4 rfl (lv_at hl 0 rfl) ?_
  refine va_get (D := (dC, dI)) (ci := 11) (v := .int (v2 1)) (C := RX11) (T := TX11) (N := 79) hx hb hts inB_11 hown hE.1 hP 0 rfl rfl 2 (by decide) (hts _ k_1322) (fun _ h9 => h9) rfl dX11_regiment_5 ?_
  have b1_v2 : 0 ≤ (v2 1).toInt ∧ (v2 1).toInt ≤ 4 := YIb.b hIv2.1 1 (by decide)
  refine lv_if_le (tgt := 13) hx hb dX11_regiment_8 (by decide) (fun c8 => ?_) (fun c8 => ?_)
  · skip
    have zc8 : (v2 1).toInt ≤ 0 := by rw [fa_le, show (0 : Int32).toInt = 0 from by decide] at c8; exact c8
    refine lv_aload_n hx hb dX11_regiment_13 rfl (lv_at hl 0 rfl) ?_
    refine lv_aload_n hx hb dX11_regiment_14 rfl (lv_at hl 0 rfl) ?_
    refine va_get (D := (dC, dI)) (ci := 11) (v := .int (v2 17)) (C := RX11) (T := TX11) (N := 79) hx hb hts inB_11 hown hE.1 hP 0 rfl rfl 41 (by decide) (hts _ k_1361) (fun _ h9 => h9) rfl dX11_regiment_15 ?_
    have b17_v2 : 0 ≤ (v2 17).toInt ∧ (v2 17).toInt ≤ 6 := YIb.b hIv2.1 17 (by decide)
    refine va_put (D := (dC, dI)) (ci := 11) (v := .int (v2 17)) (ty := tyX11 48) (C := RX11) (T := TX11) (N := 79) hx hb hts inB_11 tyX11 tyX11_ok nmX11 hown hE.1 hP hD hS 0 rfl rfl 48 (by decide) (hts _ k_1368) (fun _ h9 => h9) rfl (tyX11_ok 48 (by decide)) rfl rfl (Nat.le_of_ble_eq_true rfl) dX11_regiment_18 (fun H locs hP hD hS => ?_)
    have hP : va_P (dC, dI) vwCl (YW cy y0 r (upd v2 24 (v2 17)) f3 w4 g5) H := hP
    have hD : va_D A (YW cy y0 r (upd v2 24 (v2 17)) f3 w4 g5) := hD
    refine lv_aload_n hx hb dX11_regiment_21 rfl (lv_at hl 0 rfl) ?_
    refine lv_aload_n hx hb dX11_regiment_22 rfl (lv_at hl 0 rfl) ?_
    refine va_get (D := (dC, dI)) (ci := 11) (v := .int (v2 18)) (C := RX11) (T := TX11) (N := 79) hx hb hts inB_11 hown hE.1 hP 0 rfl rfl 42 (by decide) (hts _ k_1362) (fun _ h9 => h9) rfl dX11_regiment_23 ?_
    have b18_v2 : 0 ≤ (v2 18).toInt ∧ (v2 18).toInt ≤ 6 := YIb.b hIv2.1 18 (by decide)
    refine va_put (D := (dC, dI)) (ci := 11) (v := .int (v2 18)) (ty := tyX11 49) (C := RX11) (T := TX11) (N := 79) hx hb hts inB_11 tyX11 tyX11_ok nmX11 hown hE.1 hP hD hS 0 rfl rfl 49 (by decide) (hts _ k_1369) (fun _ h9 => h9) rfl (tyX11_ok 49 (by decide)) rfl rfl (Nat.le_of_ble_eq_true rfl) dX11_regiment_26 (fun H locs hP hD hS => ?_)
    have hP : va_P (dC, dI) vwCl (YW cy y0 r (upd (upd v2 24 (v2 17)) 25 (v2 18)) f3 w4 g5) H := hP
    have hD : va_D A (YW cy y0 r (upd (upd v2 24 (v2 17)) 25 (v2 18)) f3 w4 g5) := hD
    refine lv_aload_n hx hb dX11_regiment_29 rfl (lv_at hl 0 rfl) ?_
    refine lv_aload_n hx hb dX11_regiment_30 rfl (lv_at hl 0 rfl) ?_
    refine va_get (D := (dC, dI)) (ci := 11) (v := .int (v2 19)) (C := RX11) (T := TX11) (N := 79) hx hb hts inB_11 hown hE.1 hP 0 rfl rfl 43 (by decide) (hts _ k_1363) (fun _ h9 => h9) rfl dX11_regiment_31 ?_
    refine va_put (D := (dC, dI)) (ci := 11) (v := .int (v2 19)) (ty := tyX11 50) (C := RX11) (T := TX11) (N := 79) hx hb hts inB_11 tyX11 tyX11_ok nmX11 hown hE.1 hP hD hS 0 rfl rfl 50 (by decide) (hts _ k_1370) (fun _ h9 => h9) rfl (tyX11_ok 50 (by decide)) rfl rfl (Nat.le_of_ble_eq_true rfl) dX11_regiment_34 (fun H locs hP hD hS => ?_)
    have hP : va_P (dC, dI) vwCl (YW cy y0 r (upd (upd (upd v2 24 (v2 17)) 25 (v2 18)) 26 (v2 19)) f3 w4 g5) H := hP
    have hD : va_D A (YW cy y0 r (upd (upd (upd v2 24 (v2 17)) 25 (v2 18)) 26 (v2 19)) f3 w4 g5) := hD
    refine lv_aload_n hx hb dX11_regiment_37 rfl (lv_at hl 0 rfl) ?_
    refine lv_aload_n hx hb dX11_regiment_38 rfl (lv_at hl 0 rfl) ?_
    refine va_get (D := (dC, dI)) (ci := 11) (v := .int (v2 20)) (C := RX11) (T := TX11) (N := 79) hx hb hts inB_11 hown hE.1 hP 0 rfl rfl 44 (by decide) (hts _ k_1364) (fun _ h9 => h9) rfl dX11_regiment_39 ?_
    refine va_put (D := (dC, dI)) (ci := 11) (v := .int (v2 20)) (ty := tyX11 51) (C := RX11) (T := TX11) (N := 79) hx hb hts inB_11 tyX11 tyX11_ok nmX11 hown hE.1 hP hD hS 0 rfl rfl 51 (by decide) (hts _ k_1371) (fun _ h9 => h9) rfl (tyX11_ok 51 (by decide)) rfl rfl (Nat.le_of_ble_eq_true rfl) dX11_regiment_42 (fun H locs hP hD hS => ?_)
    have hP : va_P (dC, dI) vwCl (YW cy y0 r (upd (upd (upd (upd v2 24 (v2 17)) 25 (v2 18)) 26 (v2 19)) 27 (v2 20)) f3 w4 g5) H := hP
    have hD : va_D A (YW cy y0 r (upd (upd (upd (upd v2 24 (v2 17)) 25 (v2 18)) 26 (v2 19)) 27 (v2 20)) f3 w4 g5) := hD
    refine lv_aload_n hx hb dX11_regiment_45 rfl (lv_at hl 0 rfl) ?_
    refine lv_aload_n hx hb dX11_regiment_46 rfl (lv_at hl 0 rfl) ?_
    refine va_get (D := (dC, dI)) (ci := 11) (v := .int (v2 21)) (C := RX11) (T := TX11) (N := 79) hx hb hts inB_11 hown hE.1 hP 0 rfl rfl 45 (by decide) (hts _ k_1365) (fun _ h9 => h9) rfl dX11_regiment_47 ?_
    refine va_put (D := (dC, dI)) (ci := 11) (v := .int (v2 21)) (ty := tyX11 52) (C := RX11) (T := TX11) (N := 79) hx hb hts inB_11 tyX11 tyX11_ok nmX11 hown hE.1 hP hD hS 0 rfl rfl 52 (by decide) (hts _ k_1372) (fun _ h9 => h9) rfl (tyX11_ok 52 (by decide)) rfl rfl (Nat.le_of_ble_eq_true rfl) dX11_regiment_50 (fun H locs hP hD hS => ?_)
    have hP : va_P (dC, dI) vwCl (YW cy y0 r (upd (upd (upd (upd (upd v2 24 (v2 17)) 25 (v2 18)) 26 (v2 19)) 27 (v2 20)) 28 (v2 21)) f3 w4 g5) H := hP
    have hD : va_D A (YW cy y0 r (upd (upd (upd (upd (upd v2 24 (v2 17)) 25 (v2 18)) 26 (v2 19)) 27 (v2 20)) 28 (v2 21)) f3 w4 g5) := hD
    refine lv_aload_n hx hb dX11_regiment_53 rfl (lv_at hl 0 rfl) ?_
    refine lv_aload_n hx hb dX11_regiment_54 rfl (lv_at hl 0 rfl) ?_
    refine va_get (D := (dC, dI)) (ci := 11) (v := .int (v2 22)) (C := RX11) (T := TX11) (N := 79) hx hb hts inB_11 hown hE.1 hP 0 rfl rfl 46 (by decide) (hts _ k_1366) (fun _ h9 => h9) rfl dX11_regiment_55 ?_
    refine va_put (D := (dC, dI)) (ci := 11) (v := .int (v2 22)) (ty := tyX11 53) (C := RX11) (T := TX11) (N := 79) hx hb hts inB_11 tyX11 tyX11_ok nmX11 hown hE.1 hP hD hS 0 rfl rfl 53 (by decide) (hts _ k_1373) (fun _ h9 => h9) rfl (tyX11_ok 53 (by decide)) rfl rfl (Nat.le_of_ble_eq_true rfl) dX11_regiment_58 (fun H locs hP hD hS => ?_)
    have hP : va_P (dC, dI) vwCl (YW cy y0 r (upd (upd (upd (upd (upd (upd v2 24 (v2 17)) 25 (v2 18)) 26 (v2 19)) 27 (v2 20)) 28 (v2 21)) 29 (v2 22)) f3 w4 g5) H := hP
    have hD : va_D A (YW cy y0 r (upd (upd (upd (upd (upd (upd v2 24 (v2 17)) 25 (v2 18)) 26 (v2 19)) 27 (v2 20)) 28 (v2 21)) 29 (v2 22)) f3 w4 g5) := hD
    refine lv_aload_n hx hb dX11_regiment_61 rfl (lv_at hl 0 rfl) ?_
    refine lv_aload_n hx hb dX11_regiment_62 rfl (lv_at hl 0 rfl) ?_
    refine va_get (D := (dC, dI)) (ci := 11) (v := .int (v2 11)) (C := RX11) (T := TX11) (N := 79) hx hb hts inB_11 hown hE.1 hP 0 rfl rfl 20 (by decide) (hts _ k_1340) (fun _ h9 => h9) rfl dX11_regiment_63 ?_
    refine va_put (D := (dC, dI)) (ci := 11) (v := .int (v2 11)) (ty := tyX11 21) (C := RX11) (T := TX11) (N := 79) hx hb hts inB_11 tyX11 tyX11_ok nmX11 hown hE.1 hP hD hS 0 rfl rfl 21 (by decide) (hts _ k_1341) (fun _ h9 => h9) rfl (tyX11_ok 21 (by decide)) rfl rfl (Nat.le_of_ble_eq_true rfl) dX11_regiment_66 (fun H locs hP hD hS => ?_)
    have hP : va_P (dC, dI) vwCl (YW cy y0 r (upd (upd (upd (upd (upd (upd (upd v2 24 (v2 17)) 25 (v2 18)) 26 (v2 19)) 27 (v2 20)) 28 (v2 21)) 29 (v2 22)) 12 (v2 11)) f3 w4 g5) H := hP
    have hD : va_D A (YW cy y0 r (upd (upd (upd (upd (upd (upd (upd v2 24 (v2 17)) 25 (v2 18)) 26 (v2 19)) 27 (v2 20)) 28 (v2 21)) 29 (v2 22)) 12 (v2 11)) f3 w4 g5) := hD
    refine lv_aload_n hx hb dX11_regiment_69 rfl (lv_at hl 0 rfl) ?_
    refine lv_aload_n hx hb dX11_regiment_70 rfl (lv_at hl 0 rfl) ?_
    refine va_get (D := (dC, dI)) (ci := 11) (v := .int (v2 15)) (C := RX11) (T := TX11) (N := 79) hx hb hts inB_11 hown hE.1 hP 0 rfl rfl 24 (by decide) (hts _ k_1344) (fun _ h9 => h9) rfl dX11_regiment_71 ?_
    have b15_v2 : 0 ≤ (v2 15).toInt ∧ (v2 15).toInt ≤ 1 := YIb.b hIv2.1 15 (by decide)
    refine va_put (D := (dC, dI)) (ci := 11) (v := .int (v2 15)) (ty := tyX11 25) (C := RX11) (T := TX11) (N := 79) hx hb hts inB_11 tyX11 tyX11_ok nmX11 hown hE.1 hP hD hS 0 rfl rfl 25 (by decide) (hts _ k_1345) (fun _ h9 => h9) rfl (tyX11_ok 25 (by decide)) (by rcases b01 (x := (v2 15)) (by omega) (by omega) with h9 | h9 <;> (rw [h9]; rfl)) (by rcases b01 (x := (v2 15)) (by omega) (by omega) with h9 | h9 <;> (rw [h9]; rfl)) (Nat.le_of_ble_eq_true rfl) dX11_regiment_74 (fun H locs hP hD hS => ?_)
    have hP : va_P (dC, dI) vwCl (YW cy y0 r (upd (upd (upd (upd (upd (upd (upd (upd v2 24 (v2 17)) 25 (v2 18)) 26 (v2 19)) 27 (v2 20)) 28 (v2 21)) 29 (v2 22)) 12 (v2 11)) 16 (v2 15)) f3 w4 g5) H := hP
    have hD : va_D A (YW cy y0 r (upd (upd (upd (upd (upd (upd (upd (upd v2 24 (v2 17)) 25 (v2 18)) 26 (v2 19)) 27 (v2 20)) 28 (v2 21)) 29 (v2 22)) 12 (v2 11)) 16 (v2 15)) f3 w4 g5) := hD
    refine lv_aload_n hx hb dX11_regiment_77 rfl (lv_at hl 0 rfl) ?_
    refine lv_aload_n hx hb dX11_regiment_78 rfl (lv_at hl 0 rfl) ?_
    refine va_get (D := (dC, dI)) (ci := 11) (v := .int (v2 15)) (C := RX11) (T := TX11) (N := 79) hx hb hts inB_11 hown hE.1 hP 0 rfl rfl 24 (by decide) (hts _ k_1344) (fun _ h9 => h9) rfl dX11_regiment_79 ?_
    refine lv_if_eq (tgt := 92) hx hb dX11_regiment_82 (by decide) (fun c9 => ?_) (fun c9 => ?_)
    · skip
      have zc9 : (v2 15).toInt = 0 := by rw [fa_eq, show (0 : Int32).toInt = 0 from by decide] at c9; exact c9
      refine lv_iconst (v := 0) hx hb dX11_regiment_92 (by decide) ?_
      refine va_put (D := (dC, dI)) (ci := 11) (v := .int 0) (ty := tyX11 18) (C := RX11) (T := TX11) (N := 79) hx hb hts inB_11 tyX11 tyX11_ok nmX11 hown hE.1 hP hD hS 0 rfl rfl 18 (by decide) (hts _ k_1338) (fun _ h9 => h9) rfl (tyX11_ok 18 (by decide)) rfl rfl (Nat.le_of_ble_eq_true rfl) dX11_regiment_93 (fun H locs hP hD hS => ?_)
      have hP : va_P (dC, dI) vwCl (YW cy y0 r (upd (upd (upd (upd (upd (upd (upd (upd (upd v2 24 (v2 17)) 25 (v2 18)) 26 (v2 19)) 27 (v2 20)) 28 (v2 21)) 29 (v2 22)) 12 (v2 11)) 16 (v2 15)) 9 0) f3 w4 g5) H := hP
      have hD : va_D A (YW cy y0 r (upd (upd (upd (upd (upd (upd (upd (upd (upd v2 24 (v2 17)) 25 (v2 18)) 26 (v2 19)) 27 (v2 20)) 28 (v2 21)) 29 (v2 22)) 12 (v2 11)) 16 (v2 15)) 9 0) f3 w4 g5) := hD
      refine lv_iconst (v := 0) hx hb dX11_regiment_96 (by decide) ?_
      refine lv_istore_n (lv' := [(1, .int 0), (0, .ref y0)]) hx hb dX11_regiment_97 rfl hl (by decide) rfl (fun ls hl => ?_)
      have lp10 : ∀ (n10 : Nat) (l1_10 : Int32) (v10 : Nat → Int32) (f10 : Nat → Nat → Int32) (w10 : Int64) (g10 : Nat → Int64), YI v10 → YC f10 → v10 0 = (v2 0) → v10 1 = (v2 1) → v10 2 = (v2 2) → v10 3 = (v2 3) → v10 4 = (v2 4) → v10 5 = (v2 5) → v10 8 = (v2 8) → v10 9 = 0 → v10 10 = (v2 10) → v10 13 = (v2 13) → v10 14 = (v2 14) → v10 15 = (v2 15) → v10 17 = (v2 17) → v10 18 = (v2 18) → v10 24 = (v2 17) → v10 25 = (v2 18) → v10 35 = (v 35) → v10 36 = (v 36) → v10 38 = (v 38) → v10 39 = (v 39) → gsY_X11_regiment_1_L10 NF v2 n10 l1_10 v10 f10 w10 g10 = (gsY_X11_regiment_1 NF v f w g) → ((0 : Int) ≤ l1_10.toInt ∧ l1_10.toInt ≤ 2147483647) → (progOK (f10 2) (f10 3) ((v10 9).toInt).toNat) → (∀ j, j < (l1_10.toInt).toNat → (f10 4) j = (f10 2) j ∧ (f10 5) j = (f10 3) j) → KV [0, 1, 2, 3, 4, 5, 6, 7, 8, 9, 10, 11, 12, 13, 14, 15, 16, 17, 18, 19, 20, 21, 22, 23, 24, 25, 26, 27, 28, 29, 30, 31, 32, 33, 34, 35, 36, 37, 38] v10 v → KF [2, 3, 4, 5, 6, 9, 10, 11, 12, 13, 14, 15, 16, 17, 18, 19, 20, 21, 22, 23, 24, 36] f10 f → f10 2 = (f3 2) → f10 3 = (f3 3) → (2147483647 - l1_10.toInt).toNat < n10 → ∀ (H : Heap) (locs : List Loc) (ls : Array Slot), va_P (dC, dI) vwCl (YW cy y0 r v10 f10 w10 g10) H → va_D A (YW cy y0 r v10 f10 w10 g10) → va_S A s.heap H locs → lv_has ls 2 [(1, .int l1_10), (0, .ref y0)] → W p l e { frames := 9, cells := 0, slots := 0, locals := 232 } s m ([.ref y0] : List Value).toArray below meth c H locs 0 0 Q (F0 m 98 ls []) := by
        intro n10
        induction n10 with
        | zero => intro l1_10 v10 f10 w10 g10 hIv10 hCf10 hq0_v10 hq1_v10 hq2_v10 hq3_v10 hq4_v10 hq5_v10 hq8_v10 hq9_v10 hq10_v10 hq13_v10 hq14_v10 hq15_v10 hq17_v10 hq18_v10 hq24_v10 hq25_v10 hq35_v10 hq36_v10 hq38_v10 hq39_v10 hT10 hr1_10 hx0_10 hx1_10 hM_v10 hA_f10 hs2_f10 hs3_f10 hm; exact absurd hm (Nat.not_lt_zero _)
        | succ n10 ih10 =>
          intro l1_10 v10 f10 w10 g10 hIv10 hCf10 hq0_v10 hq1_v10 hq2_v10 hq3_v10 hq4_v10 hq5_v10 hq8_v10 hq9_v10 hq10_v10 hq13_v10 hq14_v10 hq15_v10 hq17_v10 hq18_v10 hq24_v10 hq25_v10 hq35_v10 hq36_v10 hq38_v10 hq39_v10 hT10 hr1_10 hx0_10 hx1_10 hM_v10 hA_f10 hs2_f10 hs3_f10 hm10 H locs ls hP hD hS hl
          have hUv10 : (v10 35).toInt + (v10 36).toInt ≤ 40 := hIv10.2
          have zq0_v10 := congrArg Int32.toInt hq0_v10
          have zq1_v10 := congrArg Int32.toInt hq1_v10
          have zq8_v10 := congrArg Int32.toInt hq8_v10
          have zq9_v10 : (v10 9).toInt = 0 := by rw [hq9_v10]; decide
          try clear zq9_v2
          have zq10_v10 := congrArg Int32.toInt hq10_v10
          have zq13_v10 := congrArg Int32.toInt hq13_v10
          have zq14_v10 := congrArg Int32.toInt hq14_v10
          have zq15_v10 := congrArg Int32.toInt hq15_v10
          have zq17_v10 := congrArg Int32.toInt hq17_v10
          have zq18_v10 := congrArg Int32.toInt hq18_v10
          have zq35_v10 := congrArg Int32.toInt hq35_v10
          try clear zq35_v2
          have zq36_v10 := congrArg Int32.toInt hq36_v10
          try clear zq36_v2
          have b9_v10 : 0 ≤ (v10 9).toInt ∧ (v10 9).toInt ≤ 320 := YIb.b hIv10.1 9 (by decide)
          rw [hs2_f10] at hx0_10
          rw [hs3_f10] at hx0_10
          rw [hs2_f10] at hx1_10
          rw [hs3_f10] at hx1_10
          have hPG := hx0_10
          have hCP := hx1_10
          refine lv_iload_n hx hb dX11_regiment_98 rfl (lv_at hl 0 rfl) ?_
          refine lv_aload_n hx hb dX11_regiment_99 rfl (lv_at hl 1 rfl) ?_
          refine va_get (D := (dC, dI)) (ci := 11) (v := .int (v10 9)) (C := RX11) (T := TX11) (N := 79) hx hb hts inB_11 hown hE.1 hP 0 rfl rfl 18 (by decide) (hts _ k_1338) (fun _ h9 => h9) rfl dX11_regiment_100 ?_
          refine tI (y := 0) hq9_v10 ?_
          refine lv_icmp_ge (tgt := 136) hx hb dX11_regiment_103 (by decide) (fun c11 => ?_) (fun c11 => ?_)
          · skip
            have zc11 : 0 ≤ l1_10.toInt := by rw [fa_le, show (0 : Int32).toInt = 0 from by decide] at c11; exact c11
            have hRf10 : progOK (f10 4) (f10 5) (v10 9).toInt.toNat := cp_done hCP hPG (by omega)
            refine lv_iconst (v := 0) hx hb dX11_regiment_136 (by decide) ?_
            refine lv_istore_n (lv' := [(1, .int 0), (0, .ref y0)]) hx hb dX11_regiment_137 rfl hl (by decide) rfl (fun ls hl => ?_)
            have lp12 : ∀ (n12 : Nat) (l1_12 : Int32) (v12 : Nat → Int32) (f12 : Nat → Nat → Int32) (w12 : Int64) (g12 : Nat → Int64), YI v12 → YC f12 → progOK (f12 4) (f12 5) (v12 9).toInt.toNat → v12 0 = (v2 0) → v12 1 = (v2 1) → v12 2 = (v2 2) → v12 3 = (v2 3) → v12 4 = (v2 4) → v12 5 = (v2 5) → v12 8 = (v2 8) → v12 9 = 0 → v12 10 = (v2 10) → v12 13 = (v2 13) → v12 14 = (v2 14) → v12 15 = (v2 15) → v12 17 = (v2 17) → v12 18 = (v2 18) → v12 24 = (v2 17) → v12 25 = (v2 18) → v12 35 = (v 35) → v12 36 = (v 36) → v12 38 = (v 38) → v12 39 = (v 39) → gsY_X11_regiment_1_L12 NF v2 n12 l1_12 v12 f12 w12 g12 = (gsY_X11_regiment_1 NF v f w g) → ((0 : Int) ≤ l1_12.toInt ∧ l1_12.toInt ≤ 2147483647) → KV [0, 1, 2, 3, 4, 5, 6, 7, 8, 9, 10, 11, 12, 13, 14, 15, 16, 17, 18, 19, 20, 21, 22, 23, 24, 25, 26, 27, 28, 29, 30, 31, 32, 33, 34, 35, 36, 37, 38] v12 v → KF [2, 3, 4, 5, 6, 9, 10, 11, 12, 13, 14, 15, 16, 17, 18, 19, 20, 21, 22, 23, 24, 36] f12 f → f12 2 = (f3 2) → f12 3 = (f3 3) → (2147483647 - l1_12.toInt).toNat < n12 → ∀ (H : Heap) (locs : List Loc) (ls : Array Slot), va_P (dC, dI) vwCl (YW cy y0 r v12 f12 w12 g12) H → va_D A (YW cy y0 r v12 f12 w12 g12) → va_S A s.heap H locs → lv_has ls 2 [(1, .int l1_12), (0, .ref y0)] → W p l e { frames := 9, cells := 0, slots := 0, locals := 232 } s m ([.ref y0] : List Value).toArray below meth c H locs 0 0 Q (F0 m 138 ls []) := by
              intro n12
              induction n12 with
              | zero => intro l1_12 v12 f12 w12 g12 hIv12 hCf12 hRf12 hq0_v12 hq1_v12 hq2_v12 hq3_v12 hq4_v12 hq5_v12 hq8_v12 hq9_v12 hq10_v12 hq13_v12 hq14_v12 hq15_v12 hq17_v12 hq18_v12 hq24_v12 hq25_v12 hq35_v12 hq36_v12 hq38_v12 hq39_v12 hT12 hr1_12 hM_v12 hA_f12 hs2_f12 hs3_f12 hm; exact absurd hm (Nat.not_lt_zero _)
              | succ n12 ih12 =>
                intro l1_12 v12 f12 w12 g12 hIv12 hCf12 hRf12 hq0_v12 hq1_v12 hq2_v12 hq3_v12 hq4_v12 hq5_v12 hq8_v12 hq9_v12 hq10_v12 hq13_v12 hq14_v12 hq15_v12 hq17_v12 hq18_v12 hq24_v12 hq25_v12 hq35_v12 hq36_v12 hq38_v12 hq39_v12 hT12 hr1_12 hM_v12 hA_f12 hs2_f12 hs3_f12 hm12 H locs ls hP hD hS hl
                have hUv12 : (v12 35).toInt + (v12 36).toInt ≤ 40 := hIv12.2
                have zq0_v12 := congrArg Int32.toInt hq0_v12
                try clear zq0_v10
                have zq1_v12 := congrArg Int32.toInt hq1_v12
                try clear zq1_v10
                have zq8_v12 := congrArg Int32.toInt hq8_v12
                try clear zq8_v10
                have zq9_v12 : (v12 9).toInt = 0 := by rw [hq9_v12]; decide
                try clear zq9_v10
                have zq10_v12 := congrArg Int32.toInt hq10_v12
                try clear zq10_v10
                have zq13_v12 := congrArg Int32.toInt hq13_v12
                try clear zq13_v10
                have zq14_v12 := congrArg Int32.toInt hq14_v12
                try clear zq14_v10
                have zq15_v12 := congrArg Int32.toInt hq15_v12
                try clear zq15_v10
                have zq17_v12 := congrArg Int32.toInt hq17_v12
                try clear zq17_v10
                have zq18_v12 := congrArg Int32.toInt hq18_v12
                try clear zq18_v10
                have zq35_v12 := congrArg Int32.toInt hq35_v12
                try clear zq35_v10
                have zq36_v12 := congrArg Int32.toInt hq36_v12
                try clear zq36_v10
                refine lv_iload_n hx hb dX11_regiment_138 rfl (lv_at hl 0 rfl) ?_
                refine lv_aload_n hx hb dX11_regiment_139 rfl (lv_at hl 1 rfl) ?_
                refine va_get (D := (dC, dI)) (ci := 11) (v := .int (v12 24)) (C := RX11) (T := TX11) (N := 79) hx hb hts inB_11 hown hE.1 hP 0 rfl rfl 48 (by decide) (hts _ k_1368) (fun _ h9 => h9) rfl dX11_regiment_140 ?_
                refine tI (y := (v2 17)) hq24_v12 ?_
                have b17_v2 : 0 ≤ (v2 17).toInt ∧ (v2 17).toInt ≤ 6 := YIb.b hIv2.1 17 (by decide)
                refine lv_icmp_ge (tgt := 188) hx hb dX11_regiment_143 (by decide) (fun c13 => ?_) (fun c13 => ?_)
                · skip
                  have zc13 : (v2 17).toInt ≤ l1_12.toInt := by rw [fa_le] at c13; exact c13
                  have rg14 := fb_rng l1_12
                  have rg15 := fb_rng (v2 17)
                  refine lv_iconst (v := 0) hx hb dX11_regiment_188 (by decide) ?_
                  refine lv_istore_n (lv' := [(1, .int 0), (0, .ref y0)]) hx hb dX11_regiment_189 rfl hl (by decide) rfl (fun ls hl => ?_)
                  have lp16 : ∀ (n16 : Nat) (l1_16 : Int32) (v16 : Nat → Int32) (f16 : Nat → Nat → Int32) (w16 : Int64) (g16 : Nat → Int64), YI v16 → YC f16 → progOK (f16 4) (f16 5) (v16 9).toInt.toNat → v16 0 = (v2 0) → v16 1 = (v2 1) → v16 2 = (v2 2) → v16 3 = (v2 3) → v16 4 = (v2 4) → v16 5 = (v2 5) → v16 8 = (v2 8) → v16 9 = 0 → v16 10 = (v2 10) → v16 13 = (v2 13) → v16 14 = (v2 14) → v16 15 = (v2 15) → v16 17 = (v2 17) → v16 18 = (v2 18) → v16 24 = (v2 17) → v16 25 = (v2 18) → v16 35 = (v 35) → v16 36 = (v 36) → v16 38 = (v 38) → v16 39 = (v 39) → gsY_X11_regiment_1_L16 NF v2 n16 l1_16 v16 f16 w16 g16 = (gsY_X11_regiment_1 NF v f w g) → ((0 : Int) ≤ l1_16.toInt ∧ l1_16.toInt ≤ 2147483647) → KV [0, 1, 2, 3, 4, 5, 6, 7, 8, 9, 10, 11, 12, 13, 14, 15, 16, 17, 18, 19, 20, 21, 22, 23, 24, 25, 26, 27, 28, 29, 30, 31, 32, 33, 34, 35, 36, 37, 38] v16 v → KF [2, 3, 4, 5, 6, 9, 10, 11, 12, 13, 14, 15, 16, 17, 18, 19, 20, 21, 22, 23, 24, 36] f16 f → f16 2 = (f3 2) → f16 3 = (f3 3) → (2147483647 - l1_16.toInt).toNat < n16 → ∀ (H : Heap) (locs : List Loc) (ls : Array Slot), va_P (dC, dI) vwCl (YW cy y0 r v16 f16 w16 g16) H → va_D A (YW cy y0 r v16 f16 w16 g16) → va_S A s.heap H locs → lv_has ls 2 [(1, .int l1_16), (0, .ref y0)] → W p l e { frames := 9, cells := 0, slots := 0, locals := 232 } s m ([.ref y0] : List Value).toArray below meth c H locs 0 0 Q (F0 m 190 ls []) := by
                    intro n16
                    induction n16 with
                    | zero => intro l1_16 v16 f16 w16 g16 hIv16 hCf16 hRf16 hq0_v16 hq1_v16 hq2_v16 hq3_v16 hq4_v16 hq5_v16 hq8_v16 hq9_v16 hq10_v16 hq13_v16 hq14_v16 hq15_v16 hq17_v16 hq18_v16 hq24_v16 hq25_v16 hq35_v16 hq36_v16 hq38_v16 hq39_v16 hT16 hr1_16 hM_v16 hA_f16 hs2_f16 hs3_f16 hm; exact absurd hm (Nat.not_lt_zero _)
                    | succ n16 ih16 =>
                      intro l1_16 v16 f16 w16 g16 hIv16 hCf16 hRf16 hq0_v16 hq1_v16 hq2_v16 hq3_v16 hq4_v16 hq5_v16 hq8_v16 hq9_v16 hq10_v16 hq13_v16 hq14_v16 hq15_v16 hq17_v16 hq18_v16 hq24_v16 hq25_v16 hq35_v16 hq36_v16 hq38_v16 hq39_v16 hT16 hr1_16 hM_v16 hA_f16 hs2_f16 hs3_f16 hm16 H locs ls hP hD hS hl
                      have hUv16 : (v16 35).toInt + (v16 36).toInt ≤ 40 := hIv16.2
                      have zq0_v16 := congrArg Int32.toInt hq0_v16
                      try clear zq0_v12
                      have zq1_v16 := congrArg Int32.toInt hq1_v16
                      try clear zq1_v12
                      have zq8_v16 := congrArg Int32.toInt hq8_v16
                      try clear zq8_v12
                      have zq9_v16 : (v16 9).toInt = 0 := by rw [hq9_v16]; decide
                      try clear zq9_v12
                      have zq10_v16 := congrArg Int32.toInt hq10_v16
                      try clear zq10_v12
                      have zq13_v16 := congrArg Int32.toInt hq13_v16
                      try clear zq13_v12
                      have zq14_v16 := congrArg Int32.toInt hq14_v16
                      try clear zq14_v12
                      have zq15_v16 := congrArg Int32.toInt hq15_v16
                      try clear zq15_v12
                      have zq17_v16 := congrArg Int32.toInt hq17_v16
                      try clear zq17_v12
                      have zq18_v16 := congrArg Int32.toInt hq18_v16
                      try clear zq18_v12
                      have zq35_v16 := congrArg Int32.toInt hq35_v16
                      try clear zq35_v12
                      have zq36_v16 := congrArg Int32.toInt hq36_v16
                      try clear zq36_v12
                      refine lv_iload_n hx hb dX11_regiment_190 rfl (lv_at hl 0 rfl) ?_
                      refine lv_aload_n hx hb dX11_regiment_191 rfl (lv_at hl 1 rfl) ?_
                      refine va_get (D := (dC, dI)) (ci := 11) (v := .int (v16 25)) (C := RX11) (T := TX11) (N := 79) hx hb hts inB_11 hown hE.1 hP 0 rfl rfl 49 (by decide) (hts _ k_1369) (fun _ h9 => h9) rfl dX11_regiment_192 ?_
                      refine tI (y := (v2 18)) hq25_v16 ?_
                      have b18_v2 : 0 ≤ (v2 18).toInt ∧ (v2 18).toInt ≤ 6 := YIb.b hIv2.1 18 (by decide)
                      refine lv_icmp_ge (tgt := 252) hx hb dX11_regiment_195 (by decide) (fun c17 => ?_) (fun c17 => ?_)
                      · skip
                        have zc17 : (v2 18).toInt ≤ l1_16.toInt := by rw [fa_le] at c17; exact c17
                        have rg18 := fb_rng l1_16
                        have rg19 := fb_rng (v2 18)
                        refine lv_aload_n hx hb dX11_regiment_252 rfl (lv_at hl 1 rfl) ?_
                        refine cbVv (n := 0) (rest := []) hx hb hml hown hts hE hP hD hS hA (sY_X11_begin_1 NF l dC dI cy y0 r  v16 f16 w16 g16 hIv16 hCf16 hRf16 ) k_1716 k_1718 k_68 k_114 k_1719 (by decide +kernel) ⟨Nat.le_of_ble_eq_true rfl, Nat.le_of_ble_eq_true rfl⟩ 0 11 rfl rfl (rfl) hl.1 rfl (Nat.le_of_ble_eq_true rfl) dX11_regiment_253 (fun u H locs hw hP hD hS => ?_)
                        obtain ⟨hG20, hw⟩ := hw
                        obtain ⟨v21, f22, w23, g24⟩ := u
                        obtain ⟨kV_v21, kF_f22, hIv21, hCf22, hRf22, hk0_v21, hk1_v21, hk2_v21, hk3_v21, hk4_v21, hk5_v21, hk8_v21, hk9_v21, hk10_v21, hk13_v21, hk14_v21, hk15_v21, hk17_v21, hk18_v21, hk24_v21, hk25_v21, hk35_v21, hk36_v21, hk38_v21, hk39_v21⟩ := hw
                        have hM_v21 : KV [0, 1, 2, 3, 4, 5, 6, 7, 8, 9, 10, 11, 12, 13, 14, 15, 16, 17, 18, 19, 20, 21, 22, 23, 24, 25, 26, 27, 28, 29, 30, 31, 32, 33, 34, 35, 36, 37, 38] v21 v := KV.tr kV_v21 hM_v16 (by decide +kernel)
                        have hA_f22 : KF [2, 3, 4, 5, 6, 9, 10, 11, 12, 13, 14, 15, 16, 17, 18, 19, 20, 21, 22, 23, 24, 36] f22 f := KF.tr kF_f22 hA_f16 (by decide +kernel)
                        have hP : va_P (dC, dI) vwCl (YW cy y0 r v21 f22 w23 g24) H := hP
                        have hD : va_D A (YW cy y0 r v21 f22 w23 g24) := hD
                        have hUv21 : (v21 35).toInt + (v21 36).toInt ≤ 40 := hIv21.2
                        have hq0_v21 : v21 0 = (v2 0) := hk0_v21.trans hq0_v16
                        have zq0_v21 := congrArg Int32.toInt hq0_v21
                        try clear zq0_v16
                        have hq1_v21 : v21 1 = (v2 1) := hk1_v21.trans hq1_v16
                        have zq1_v21 := congrArg Int32.toInt hq1_v21
                        try clear zq1_v16
                        have hq2_v21 : v21 2 = (v2 2) := hk2_v21.trans hq2_v16
                        have hq3_v21 : v21 3 = (v2 3) := hk3_v21.trans hq3_v16
                        have hq4_v21 : v21 4 = (v2 4) := hk4_v21.trans hq4_v16
                        have hq5_v21 : v21 5 = (v2 5) := hk5_v21.trans hq5_v16
                        have hq8_v21 : v21 8 = (v2 8) := hk8_v21.trans hq8_v16
                        have zq8_v21 := congrArg Int32.toInt hq8_v21
                        try clear zq8_v16
                        have hq9_v21 : v21 9 = 0 := hk9_v21.trans hq9_v16
                        have zq9_v21 : (v21 9).toInt = 0 := by rw [hq9_v21]; decide
                        try clear zq9_v16
                        have hq10_v21 : v21 10 = (v2 10) := hk10_v21.trans hq10_v16
                        have zq10_v21 := congrArg Int32.toInt hq10_v21
                        try clear zq10_v16
                        have hq13_v21 : v21 13 = (v2 13) := hk13_v21.trans hq13_v16
                        have zq13_v21 := congrArg Int32.toInt hq13_v21
                        try clear zq13_v16
                        have hq14_v21 : v21 14 = (v2 14) := hk14_v21.trans hq14_v16
                        have zq14_v21 := congrArg Int32.toInt hq14_v21
                        try clear zq14_v16
                        have hq15_v21 : v21 15 = (v2 15) := hk15_v21.trans hq15_v16
                        have zq15_v21 := congrArg Int32.toInt hq15_v21
                        try clear zq15_v16
                        have hq17_v21 : v21 17 = (v2 17) := hk17_v21.trans hq17_v16
                        have zq17_v21 := congrArg Int32.toInt hq17_v21
                        try clear zq17_v16
                        have hq18_v21 : v21 18 = (v2 18) := hk18_v21.trans hq18_v16
                        have zq18_v21 := congrArg Int32.toInt hq18_v21
                        try clear zq18_v16
                        have hq24_v21 : v21 24 = (v2 17) := hk24_v21.trans hq24_v16
                        have hq25_v21 : v21 25 = (v2 18) := hk25_v21.trans hq25_v16
                        have hq35_v21 : v21 35 = (v 35) := hk35_v21.trans hq35_v16
                        have zq35_v21 := congrArg Int32.toInt hq35_v21
                        try clear zq35_v16
                        have hq36_v21 : v21 36 = (v 36) := hk36_v21.trans hq36_v16
                        have zq36_v21 := congrArg Int32.toInt hq36_v21
                        try clear zq36_v16
                        have hq39_v21 : v21 39 = (v 39) := hk39_v21.trans hq39_v16
                        refine lv_aload_n hx hb dX11_regiment_256 rfl (lv_at hl 1 rfl) ?_
                        refine va_get (D := (dC, dI)) (ci := 11) (v := .ref (r 60)) (C := RX11) (T := TX11) (N := 79) hx hb hts inB_11 hown hE.1 hP 0 rfl rfl 60 (by decide) (hts _ k_1380) (fun _ h9 => h9) rfl dX11_regiment_257 ?_
                        refine lv_bipush (v := 38) hx hb dX11_regiment_260 (by decide) ?_
                        refine lv_aload_n hx hb dX11_regiment_262 rfl (lv_at hl 1 rfl) ?_
                        refine va_get (D := (dC, dI)) (ci := 11) (v := .int (v21 23)) (C := RX11) (T := TX11) (N := 79) hx hb hts inB_11 hown hE.1 hP 0 rfl rfl 47 (by decide) (hts _ k_1367) (fun _ h9 => h9) rfl dX11_regiment_263 ?_
                        refine stI hx hb hE hP hD hS 25 rfl (vp_in_nI (n := 38) (by decide) (by decide)) rfl dX11_regiment_266 (fun H locs hP hD hS => ?_)
                        obtain ⟨f25, ef25, hP, hD⟩ : ∃ fz9, fz9 = upd2 f22 24 (upd (f22 24) (38 : Int32).toNatClampNeg (v21 23)) ∧ va_P (dC, dI) vwCl (YW cy y0 r v21 fz9 w23 g24) H ∧ va_D A (YW cy y0 r v21 fz9 w23 g24) := ⟨_, rfl, hP, hD⟩
                        have hCf25 : YC f25 := by rw [ef25]; exact ⟨hCf22.1, (wear_st hCf22.2.1 (by show 38 % 39 < 6 ∨ 12 ≤ 38 % 39 ∨ (-1 ≤ (v21 23).toInt ∧ (v21 23).toInt ≤ 5); omega)), hCf22.2.2.1, hCf22.2.2.2.1, hCf22.2.2.2.2.1, hCf22.2.2.2.2.2⟩
                        have hRf25 : progOK (f25 4) (f25 5) (v21 9).toInt.toNat := by rw [ef25]; exact hRf22
                        have hs2_f25 : f25 2 = (f22 2) := by rw [ef25]; exact rfl
                        have hs3_f25 : f25 3 = (f22 3) := by rw [ef25]; exact rfl
                        have hs4_f25 : f25 4 = (f22 4) := by rw [ef25]; exact rfl
                        have hs5_f25 : f25 5 = (f22 5) := by rw [ef25]; exact rfl
                        have hA_f25 : KF [2, 3, 4, 5, 6, 9, 10, 11, 12, 13, 14, 15, 16, 17, 18, 19, 20, 21, 22, 23, 24, 36] f25 f := by rw [ef25]; exact KF.up hA_f22 rfl
                        refine lv_aload_n hx hb dX11_regiment_267 rfl (lv_at hl 1 rfl) ?_
                        refine cbVv (n := 0) (rest := []) hx hb hml hown hts hE hP hD hS hA (sY_X11_keepAir_1 NF l dC dI cy y0 r  v21 f25 w23 g24 hIv21 hCf25 hRf25 ) k_1720 k_1722 k_69 k_114 k_1723 (by decide +kernel) ⟨Nat.le_of_ble_eq_true rfl, Nat.le_of_ble_eq_true rfl⟩ 0 11 rfl rfl (rfl) hl.1 rfl (Nat.le_of_ble_eq_true rfl) dX11_regiment_268 (fun u H locs hw hP hD hS => ?_)
                        obtain ⟨hG26, hw⟩ := hw
                        obtain ⟨v27, f28, w29, g30⟩ := u
                        obtain ⟨kV_v27, kF_f28, hIv27, hCf28, hRf28, hk0_v27, hk1_v27, hk2_v27, hk3_v27, hk4_v27, hk5_v27, hk8_v27, hk9_v27, hk10_v27, hk13_v27, hk14_v27, hk15_v27, hk17_v27, hk18_v27, hk24_v27, hk25_v27, hk35_v27, hk36_v27, hk38_v27, hk39_v27⟩ := hw
                        have hM_v27 : KV [0, 1, 2, 3, 4, 5, 6, 7, 8, 9, 10, 11, 12, 13, 14, 15, 16, 17, 18, 19, 20, 21, 22, 23, 24, 25, 26, 27, 28, 29, 30, 31, 32, 33, 34, 35, 36, 37, 38] v27 v := KV.tr kV_v27 hM_v21 (by decide +kernel)
                        have hA_f28 : KF [2, 3, 4, 5, 6, 9, 10, 11, 12, 13, 14, 15, 16, 17, 18, 19, 20, 21, 22, 23, 24, 36] f28 f := KF.tr kF_f28 hA_f25 (by decide +kernel)
                        have hP : va_P (dC, dI) vwCl (YW cy y0 r v27 f28 w29 g30) H := hP
                        have hD : va_D A (YW cy y0 r v27 f28 w29 g30) := hD
                        have hUv27 : (v27 35).toInt + (v27 36).toInt ≤ 40 := hIv27.2
                        have hq0_v27 : v27 0 = (v2 0) := hk0_v27.trans hq0_v21
                        have zq0_v27 := congrArg Int32.toInt hq0_v27
                        try clear zq0_v21
                        have hq1_v27 : v27 1 = (v2 1) := hk1_v27.trans hq1_v21
                        have zq1_v27 := congrArg Int32.toInt hq1_v27
                        try clear zq1_v21
                        have hq2_v27 : v27 2 = (v2 2) := hk2_v27.trans hq2_v21
                        have hq3_v27 : v27 3 = (v2 3) := hk3_v27.trans hq3_v21
                        have hq4_v27 : v27 4 = (v2 4) := hk4_v27.trans hq4_v21
                        have hq5_v27 : v27 5 = (v2 5) := hk5_v27.trans hq5_v21
                        have hq8_v27 : v27 8 = (v2 8) := hk8_v27.trans hq8_v21
                        have zq8_v27 := congrArg Int32.toInt hq8_v27
                        try clear zq8_v21
                        have hq9_v27 : v27 9 = 0 := hk9_v27.trans hq9_v21
                        have zq9_v27 : (v27 9).toInt = 0 := by rw [hq9_v27]; decide
                        try clear zq9_v21
                        have hq10_v27 : v27 10 = (v2 10) := hk10_v27.trans hq10_v21
                        have zq10_v27 := congrArg Int32.toInt hq10_v27
                        try clear zq10_v21
                        have hq13_v27 : v27 13 = (v2 13) := hk13_v27.trans hq13_v21
                        have zq13_v27 := congrArg Int32.toInt hq13_v27
                        try clear zq13_v21
                        have hq14_v27 : v27 14 = (v2 14) := hk14_v27.trans hq14_v21
                        have zq14_v27 := congrArg Int32.toInt hq14_v27
                        try clear zq14_v21
                        have hq15_v27 : v27 15 = (v2 15) := hk15_v27.trans hq15_v21
                        have zq15_v27 := congrArg Int32.toInt hq15_v27
                        try clear zq15_v21
                        have hq17_v27 : v27 17 = (v2 17) := hk17_v27.trans hq17_v21
                        have zq17_v27 := congrArg Int32.toInt hq17_v27
                        try clear zq17_v21
                        have hq18_v27 : v27 18 = (v2 18) := hk18_v27.trans hq18_v21
                        have zq18_v27 := congrArg Int32.toInt hq18_v27
                        try clear zq18_v21
                        have hq24_v27 : v27 24 = (v2 17) := hk24_v27.trans hq24_v21
                        have hq25_v27 : v27 25 = (v2 18) := hk25_v27.trans hq25_v21
                        have hq35_v27 : v27 35 = (v 35) := hk35_v27.trans hq35_v21
                        have zq35_v27 := congrArg Int32.toInt hq35_v27
                        try clear zq35_v21
                        have hq36_v27 : v27 36 = (v 36) := hk36_v27.trans hq36_v21
                        have zq36_v27 := congrArg Int32.toInt hq36_v27
                        try clear zq36_v21
                        have hq39_v27 : v27 39 = (v 39) := hk39_v27.trans hq39_v21
                        refine lv_aload_n hx hb dX11_regiment_271 rfl (lv_at hl 1 rfl) ?_
                        refine lv_iconst (v := 0) hx hb dX11_regiment_272 (by decide) ?_
                        refine va_put (D := (dC, dI)) (ci := 11) (v := .int 0) (ty := tyX11 62) (C := RX11) (T := TX11) (N := 79) hx hb hts inB_11 tyX11 tyX11_ok nmX11 hown hE.1 hP hD hS 0 rfl rfl 62 (by decide) (hts _ k_1382) (fun _ h9 => h9) rfl (tyX11_ok 62 (by decide)) rfl rfl (Nat.le_of_ble_eq_true rfl) dX11_regiment_273 (fun H locs hP hD hS => ?_)
                        have hP : va_P (dC, dI) vwCl (YW cy y0 r (upd v27 35 0) f28 w29 g30) H := hP
                        have hD : va_D A (YW cy y0 r (upd v27 35 0) f28 w29 g30) := hD
                        refine lv_aload_n hx hb dX11_regiment_276 rfl (lv_at hl 1 rfl) ?_
                        refine lv_iconst (v := 0) hx hb dX11_regiment_277 (by decide) ?_
                        refine va_put (D := (dC, dI)) (ci := 11) (v := .int 0) (ty := tyX11 63) (C := RX11) (T := TX11) (N := 79) hx hb hts inB_11 tyX11 tyX11_ok nmX11 hown hE.1 hP hD hS 0 rfl rfl 63 (by decide) (hts _ k_1383) (fun _ h9 => h9) rfl (tyX11_ok 63 (by decide)) rfl rfl (Nat.le_of_ble_eq_true rfl) dX11_regiment_278 (fun H locs hP hD hS => ?_)
                        have hP : va_P (dC, dI) vwCl (YW cy y0 r (upd (upd v27 35 0) 36 0) f28 w29 g30) H := hP
                        have hD : va_D A (YW cy y0 r (upd (upd v27 35 0) 36 0) f28 w29 g30) := hD
                        refine lv_aload_n hx hb dX11_regiment_281 rfl (lv_at hl 1 rfl) ?_
                        refine lv_iconst (v := 0) hx hb dX11_regiment_282 (by decide) ?_
                        refine va_put (D := (dC, dI)) (ci := 11) (v := .int 0) (ty := tyX11 73) (C := RX11) (T := TX11) (N := 79) hx hb hts inB_11 tyX11 tyX11_ok nmX11 hown hE.1 hP hD hS 0 rfl rfl 73 (by decide) (hts _ k_1393) (fun _ h9 => h9) rfl (tyX11_ok 73 (by decide)) rfl rfl (Nat.le_of_ble_eq_true rfl) dX11_regiment_283 (fun H locs hP hD hS => ?_)
                        have hP : va_P (dC, dI) vwCl (YW cy y0 r (upd (upd (upd v27 35 0) 36 0) 38 0) f28 w29 g30) H := hP
                        have hD : va_D A (YW cy y0 r (upd (upd (upd v27 35 0) 36 0) 38 0) f28 w29 g30) := hD
                        refine lv_aload_n hx hb dX11_regiment_286 rfl (lv_at hl 1 rfl) ?_
                        refine lv_iconst (v := 0) hx hb dX11_regiment_287 (by decide) ?_
                        refine va_put (D := (dC, dI)) (ci := 11) (v := .int 0) (ty := tyX11 67) (C := RX11) (T := TX11) (N := 79) hx hb hts inB_11 tyX11 tyX11_ok nmX11 hown hE.1 hP hD hS 0 rfl rfl 67 (by decide) (hts _ k_1387) (fun _ h9 => h9) rfl (tyX11_ok 67 (by decide)) rfl rfl (Nat.le_of_ble_eq_true rfl) dX11_regiment_288 (fun H locs hP hD hS => ?_)
                        have hP : va_P (dC, dI) vwCl (YW cy y0 r (upd (upd (upd (upd v27 35 0) 36 0) 38 0) 37 0) f28 w29 g30) H := hP
                        have hD : va_D A (YW cy y0 r (upd (upd (upd (upd v27 35 0) 36 0) 38 0) 37 0) f28 w29 g30) := hD
                        refine lv_iconst (v := 0) hx hb dX11_regiment_291 (by decide) ?_
                        refine lv_istore_n (lv' := [(1, .int 0), (0, .ref y0)]) hx hb dX11_regiment_292 rfl hl (by decide) rfl (fun ls hl => ?_)
                        have lp31 : ∀ (n31 : Nat) (l1_31 : Int32) (v31 : Nat → Int32) (f31 : Nat → Nat → Int32) (w31 : Int64) (g31 : Nat → Int64), YI v31 → YC f31 → progOK (f31 4) (f31 5) (v31 9).toInt.toNat → v31 0 = (v2 0) → v31 1 = (v2 1) → v31 2 = (v2 2) → v31 3 = (v2 3) → v31 4 = (v2 4) → v31 5 = (v2 5) → v31 8 = (v2 8) → v31 9 = 0 → v31 10 = (v2 10) → v31 13 = (v2 13) → v31 14 = (v2 14) → v31 15 = (v2 15) → v31 17 = (v2 17) → v31 18 = (v2 18) → v31 24 = (v2 17) → v31 25 = (v2 18) → v31 35 = 0 → v31 36 = 0 → v31 38 = 0 → v31 39 = (v 39) → gsY_X11_regiment_1_L31 NF v2 n31 l1_31 v31 f31 w31 g31 = (gsY_X11_regiment_1 NF v f w g) → ((0 : Int) ≤ l1_31.toInt ∧ l1_31.toInt ≤ 2147483647) → KV [0, 1, 2, 3, 4, 5, 6, 7, 8, 9, 10, 11, 12, 13, 14, 15, 16, 17, 18, 19, 20, 21, 22, 23, 24, 25, 26, 27, 28, 29, 30, 31, 32, 33, 34, 35, 36, 37, 38] v31 v → KF [2, 3, 4, 5, 6, 9, 10, 11, 12, 13, 14, 15, 16, 17, 18, 19, 20, 21, 22, 23, 24, 36] f31 f → f31 2 = (f28 2) → f31 3 = (f28 3) → f31 4 = (f28 4) → f31 5 = (f28 5) → (2147483647 - l1_31.toInt).toNat < n31 → ∀ (H : Heap) (locs : List Loc) (ls : Array Slot), va_P (dC, dI) vwCl (YW cy y0 r v31 f31 w31 g31) H → va_D A (YW cy y0 r v31 f31 w31 g31) → va_S A s.heap H locs → lv_has ls 2 [(1, .int l1_31), (0, .ref y0)] → W p l e { frames := 9, cells := 0, slots := 0, locals := 232 } s m ([.ref y0] : List Value).toArray below meth c H locs 0 0 Q (F0 m 293 ls []) := by
                          intro n31
                          induction n31 with
                          | zero => intro l1_31 v31 f31 w31 g31 hIv31 hCf31 hRf31 hq0_v31 hq1_v31 hq2_v31 hq3_v31 hq4_v31 hq5_v31 hq8_v31 hq9_v31 hq10_v31 hq13_v31 hq14_v31 hq15_v31 hq17_v31 hq18_v31 hq24_v31 hq25_v31 hq35_v31 hq36_v31 hq38_v31 hq39_v31 hT31 hr1_31 hM_v31 hA_f31 hs2_f31 hs3_f31 hs4_f31 hs5_f31 hm; exact absurd hm (Nat.not_lt_zero _)
                          | succ n31 ih31 =>
                            intro l1_31 v31 f31 w31 g31 hIv31 hCf31 hRf31 hq0_v31 hq1_v31 hq2_v31 hq3_v31 hq4_v31 hq5_v31 hq8_v31 hq9_v31 hq10_v31 hq13_v31 hq14_v31 hq15_v31 hq17_v31 hq18_v31 hq24_v31 hq25_v31 hq35_v31 hq36_v31 hq38_v31 hq39_v31 hT31 hr1_31 hM_v31 hA_f31 hs2_f31 hs3_f31 hs4_f31 hs5_f31 hm31 H locs ls hP hD hS hl
                            have hUv31 : (v31 35).toInt + (v31 36).toInt ≤ 40 := hIv31.2
                            have zq0_v31 := congrArg Int32.toInt hq0_v31
                            try clear zq0_v27
                            have zq1_v31 := congrArg Int32.toInt hq1_v31
                            try clear zq1_v27
                            have zq8_v31 := congrArg Int32.toInt hq8_v31
                            try clear zq8_v27
                            have zq9_v31 : (v31 9).toInt = 0 := by rw [hq9_v31]; decide
                            try clear zq9_v27
                            have zq10_v31 := congrArg Int32.toInt hq10_v31
                            try clear zq10_v27
                            have zq13_v31 := congrArg Int32.toInt hq13_v31
                            try clear zq13_v27
                            have zq14_v31 := congrArg Int32.toInt hq14_v31
                            try clear zq14_v27
                            have zq15_v31 := congrArg Int32.toInt hq15_v31
                            try clear zq15_v27
                            have zq17_v31 := congrArg Int32.toInt hq17_v31
                            try clear zq17_v27
                            have zq18_v31 := congrArg Int32.toInt hq18_v31
                            try clear zq18_v27
                            have zq35_v31 : (v31 35).toInt = 0 := by rw [hq35_v31]; decide
                            try clear zq35_v27
                            have zq36_v31 : (v31 36).toInt = 0 := by rw [hq36_v31]; decide
                            try clear zq36_v27
                            have zq38_v31 : (v31 38).toInt = 0 := by rw [hq38_v31]; decide
                            refine lv_iload_n hx hb dX11_regiment_293 rfl (lv_at hl 0 rfl) ?_
                            refine lv_iconst (v := 3) hx hb dX11_regiment_294 (by decide) ?_
                            refine lv_icmp_ge (tgt := 311) hx hb dX11_regiment_295 (by decide) (fun c32 => ?_) (fun c32 => ?_)
                            · skip
                              have zc32 : 3 ≤ l1_31.toInt := by rw [fa_le, show (3 : Int32).toInt = 3 from by decide] at c32; exact c32
                              refine lv_aload_n hx hb dX11_regiment_311 rfl (lv_at hl 1 rfl) ?_
                              refine va_get (D := (dC, dI)) (ci := 11) (v := .int (v31 24)) (C := RX11) (T := TX11) (N := 79) hx hb hts inB_11 hown hE.1 hP 0 rfl rfl 48 (by decide) (hts _ k_1368) (fun _ h9 => h9) rfl dX11_regiment_312 ?_
                              refine tI (y := (v2 17)) hq24_v31 ?_
                              have b17_v2 : 0 ≤ (v2 17).toInt ∧ (v2 17).toInt ≤ 6 := YIb.b hIv2.1 17 (by decide)
                              exact ret (v2 17) (v31, f31, w31, g31) _ _ _ _ _ _ rfl ⟨(hT31.symm.trans (gsY_X11_regiment_1_q0 c32)), hM_v31, hA_f31, hIv31, hCf31, hRf31, hq39_v31, (by show (v31 0).toInt = 0; omega), (Or.inl (by rw [hG1]; exact c8))⟩ hP hD hS dX11_regiment_315 (Nat.le_refl _) (Nat.le_refl _)
                            · skip
                              have zc32 : ¬ (3 ≤ l1_31.toInt) := by rw [fa_le, show (3 : Int32).toInt = 3 from by decide] at c32; exact c32
                              refine lv_aload_n hx hb dX11_regiment_298 rfl (lv_at hl 1 rfl) ?_
                              refine va_get (D := (dC, dI)) (ci := 11) (v := .ref (r 77)) (C := RX11) (T := TX11) (N := 79) hx hb hts inB_11 hown hE.1 hP 0 rfl rfl 77 (by decide) (hts _ k_1397) (fun _ h9 => h9) rfl dX11_regiment_299 ?_
                              refine lv_iload_n hx hb dX11_regiment_302 rfl (lv_at hl 0 rfl) ?_
                              refine lv_iconst (v := 0) hx hb dX11_regiment_303 (by decide) ?_
                              refine stZ hx hb hE hP hD hS 37 rfl (vp_in_iff.mpr ⟨by omega, by omega⟩) rfl dX11_regiment_304 (fun H locs hP hD hS => ?_)
                              obtain ⟨f33, ef33, hP, hD⟩ : ∃ fz9, fz9 = upd2 f31 36 (upd (f31 36) l1_31.toNatClampNeg (vp_nar .boolean 0)) ∧ va_P (dC, dI) vwCl (YW cy y0 r v31 fz9 w31 g31) H ∧ va_D A (YW cy y0 r v31 fz9 w31 g31) := ⟨_, rfl, hP, hD⟩
                              have hCf33 : YC f33 := by rw [ef33]; exact hCf31
                              have hRf33 : progOK (f33 4) (f33 5) (v31 9).toInt.toNat := by rw [ef33]; exact hRf31
                              have hs2_f33 : f33 2 = (f28 2) := by rw [ef33]; exact hs2_f31
                              have hs3_f33 : f33 3 = (f28 3) := by rw [ef33]; exact hs3_f31
                              have hs4_f33 : f33 4 = (f28 4) := by rw [ef33]; exact hs4_f31
                              have hs5_f33 : f33 5 = (f28 5) := by rw [ef33]; exact hs5_f31
                              have hA_f33 : KF [2, 3, 4, 5, 6, 9, 10, 11, 12, 13, 14, 15, 16, 17, 18, 19, 20, 21, 22, 23, 24, 36] f33 f := by rw [ef33]; exact KF.up hA_f31 rfl
                              obtain ⟨t34, et34⟩ : ∃ y : Int32, y = l1_31 + 1 := ⟨_, rfl⟩
                              have rg35 := fb_rng l1_31
                              have zt34 : t34.toInt = l1_31.toInt + 1 := by rw [et34]; exact add_i rfl (by decide) (by omega) (by omega)
                              refine lv_iinc (v := t34) (lv' := [(1, .int t34), (0, .ref y0)]) hx hb dX11_regiment_305 hl (k := 0) rfl (by rw [et34]; rfl) (by decide) rfl (fun ls hl => ?_)
                              refine lv_goto (tgt := 293) hx hb dX11_regiment_308 (by decide) ?_
                              have rg36 := fb_rng t34
                              exact ih31 t34 v31 f33 w31 g31 hIv31 hCf33 hRf33 hq0_v31 hq1_v31 hq2_v31 hq3_v31 hq4_v31 hq5_v31 hq8_v31 hq9_v31 hq10_v31 hq13_v31 hq14_v31 hq15_v31 hq17_v31 hq18_v31 hq24_v31 hq25_v31 hq35_v31 hq36_v31 hq38_v31 hq39_v31 ((gsY_X11_regiment_1_q1 c32 ef33 et34).symm.trans hT31) ⟨show (0 : Int) ≤ t34.toInt by omega, show t34.toInt ≤ (2147483647 : Int) by omega⟩ hM_v31 hA_f33 hs2_f33 hs3_f33 hs4_f33 hs5_f33 (by show (2147483647 - t34.toInt).toNat < n31; omega) _ _ _ hP hD hS (lv_sub hl [0, 1] rfl)
                        exact lp31 (4294967296 + NF) 0 (upd (upd (upd (upd v27 35 0) 36 0) 38 0) 37 0) f28 w29 g30 ⟨(YIb.upd (j := 37) (x := 0) (YIb.upd (j := 38) (x := 0) (YIb.upd (j := 36) (x := 0) (YIb.upd (j := 35) (x := 0) hIv27.1 (by decide) (by decide)) (by decide) (by decide)) (by decide) (by decide)) (by decide) (by decide)), (by have q9 := hIv27.2; have q0 : (0 : Int32).toInt = 0 := (by decide); show (0 : Int32).toInt + (0 : Int32).toInt ≤ 40; omega)⟩ hCf28 hRf28 hq0_v27 hq1_v27 hq2_v27 hq3_v27 hq4_v27 hq5_v27 hq8_v27 hq9_v27 hq10_v27 hq13_v27 hq14_v27 hq15_v27 hq17_v27 hq18_v27 hq24_v27 hq25_v27 rfl rfl rfl hq39_v27 ((gsY_X11_regiment_1_q2 c17 hG20 ef25 hG26).symm.trans hT16) ⟨by decide, by decide⟩ (KV.up (j := 37) (x := 0) (KV.up (j := 38) (x := 0) (KV.up (j := 36) (x := 0) (KV.up (j := 35) (x := 0) hM_v27 (by decide +kernel)) (by decide +kernel)) (by decide +kernel)) (by decide +kernel)) hA_f28 rfl rfl rfl rfl (by have q1 : (0 : Int32).toInt = 0 := (by decide); have qc0 : (0 : Int32).toInt = 0 := (by decide); show (2147483647 - (0 : Int32).toInt).toNat < 4294967296 + NF; omega) _ _ _ hP hD hS (lv_sub hl [0, 1] rfl)
                      · skip
                        have zc17 : ¬ ((v2 18).toInt ≤ l1_16.toInt) := by rw [fa_le] at c17; exact c17
                        have rg37 := fb_rng l1_16
                        have rg38 := fb_rng (v2 18)
                        refine lv_aload_n hx hb dX11_regiment_198 rfl (lv_at hl 1 rfl) ?_
                        refine va_get (D := (dC, dI)) (ci := 11) (v := .ref (r 37)) (C := RX11) (T := TX11) (N := 79) hx hb hts inB_11 hown hE.1 hP 0 rfl rfl 37 (by decide) (hts _ k_1357) (fun _ h9 => h9) rfl dX11_regiment_199 ?_
                        refine lv_iload_n hx hb dX11_regiment_202 rfl (lv_at hl 0 rfl) ?_
                        refine lv_aload_n hx hb dX11_regiment_203 rfl (lv_at hl 1 rfl) ?_
                        refine va_get (D := (dC, dI)) (ci := 11) (v := .ref (r 30)) (C := RX11) (T := TX11) (N := 79) hx hb hts inB_11 hown hE.1 hP 0 rfl rfl 30 (by decide) (hts _ k_1350) (fun _ h9 => h9) rfl dX11_regiment_204 ?_
                        refine lv_iload_n hx hb dX11_regiment_207 rfl (lv_at hl 0 rfl) ?_
                        refine ldI hx hb hE hP 13 rfl (vp_in_iff.mpr ⟨by omega, by omega⟩) rfl rfl dX11_regiment_208 ?_
                        refine lv_topi (fun t39 et39 => ?_)
                        refine stI hx hb hE hP hD hS 20 rfl (vp_in_iff.mpr ⟨by omega, by omega⟩) rfl dX11_regiment_209 (fun H locs hP hD hS => ?_)
                        obtain ⟨f40, ef40, hP, hD⟩ : ∃ fz9, fz9 = upd2 f16 19 (upd (f16 19) l1_16.toNatClampNeg t39) ∧ va_P (dC, dI) vwCl (YW cy y0 r v16 fz9 w16 g16) H ∧ va_D A (YW cy y0 r v16 fz9 w16 g16) := ⟨_, rfl, hP, hD⟩
                        have hCf40 : YC f40 := by rw [ef40]; exact hCf16
                        have hRf40 : progOK (f40 4) (f40 5) (v16 9).toInt.toNat := by rw [ef40]; exact hRf16
                        have hs2_f40 : f40 2 = (f3 2) := by rw [ef40]; exact hs2_f16
                        have hs3_f40 : f40 3 = (f3 3) := by rw [ef40]; exact hs3_f16
                        have hs4_f40 : f40 4 = (f16 4) := by rw [ef40]; exact rfl
                        have hs5_f40 : f40 5 = (f16 5) := by rw [ef40]; exact rfl
                        have hA_f40 : KF [2, 3, 4, 5, 6, 9, 10, 11, 12, 13, 14, 15, 16, 17, 18, 19, 20, 21, 22, 23, 24, 36] f40 f := by rw [ef40]; exact KF.up hA_f16 rfl
                        refine lv_aload_n hx hb dX11_regiment_210 rfl (lv_at hl 1 rfl) ?_
                        refine va_get (D := (dC, dI)) (ci := 11) (v := .ref (r 38)) (C := RX11) (T := TX11) (N := 79) hx hb hts inB_11 hown hE.1 hP 0 rfl rfl 38 (by decide) (hts _ k_1358) (fun _ h9 => h9) rfl dX11_regiment_211 ?_
                        refine lv_iload_n hx hb dX11_regiment_214 rfl (lv_at hl 0 rfl) ?_
                        refine lv_aload_n hx hb dX11_regiment_215 rfl (lv_at hl 1 rfl) ?_
                        refine va_get (D := (dC, dI)) (ci := 11) (v := .ref (r 31)) (C := RX11) (T := TX11) (N := 79) hx hb hts inB_11 hown hE.1 hP 0 rfl rfl 31 (by decide) (hts _ k_1351) (fun _ h9 => h9) rfl dX11_regiment_216 ?_
                        refine lv_iload_n hx hb dX11_regiment_219 rfl (lv_at hl 0 rfl) ?_
                        refine ldI hx hb hE hP 14 rfl (vp_in_iff.mpr ⟨by omega, by omega⟩) rfl rfl dX11_regiment_220 ?_
                        refine lv_topi (fun t41 et41 => ?_)
                        refine stI hx hb hE hP hD hS 21 rfl (vp_in_iff.mpr ⟨by omega, by omega⟩) rfl dX11_regiment_221 (fun H locs hP hD hS => ?_)
                        obtain ⟨f42, ef42, hP, hD⟩ : ∃ fz9, fz9 = upd2 f40 20 (upd (f40 20) l1_16.toNatClampNeg t41) ∧ va_P (dC, dI) vwCl (YW cy y0 r v16 fz9 w16 g16) H ∧ va_D A (YW cy y0 r v16 fz9 w16 g16) := ⟨_, rfl, hP, hD⟩
                        have hCf42 : YC f42 := by rw [ef42]; exact hCf40
                        have hRf42 : progOK (f42 4) (f42 5) (v16 9).toInt.toNat := by rw [ef42]; exact hRf40
                        have hs2_f42 : f42 2 = (f3 2) := by rw [ef42]; exact hs2_f40
                        have hs3_f42 : f42 3 = (f3 3) := by rw [ef42]; exact hs3_f40
                        have hs4_f42 : f42 4 = (f16 4) := by rw [ef42]; exact hs4_f40
                        have hs5_f42 : f42 5 = (f16 5) := by rw [ef42]; exact hs5_f40
                        have hA_f42 : KF [2, 3, 4, 5, 6, 9, 10, 11, 12, 13, 14, 15, 16, 17, 18, 19, 20, 21, 22, 23, 24, 36] f42 f := by rw [ef42]; exact KF.up hA_f40 rfl
                        refine lv_aload_n hx hb dX11_regiment_222 rfl (lv_at hl 1 rfl) ?_
                        refine va_get (D := (dC, dI)) (ci := 11) (v := .ref (r 39)) (C := RX11) (T := TX11) (N := 79) hx hb hts inB_11 hown hE.1 hP 0 rfl rfl 39 (by decide) (hts _ k_1359) (fun _ h9 => h9) rfl dX11_regiment_223 ?_
                        refine lv_iload_n hx hb dX11_regiment_226 rfl (lv_at hl 0 rfl) ?_
                        refine lv_aload_n hx hb dX11_regiment_227 rfl (lv_at hl 1 rfl) ?_
                        refine va_get (D := (dC, dI)) (ci := 11) (v := .ref (r 32)) (C := RX11) (T := TX11) (N := 79) hx hb hts inB_11 hown hE.1 hP 0 rfl rfl 32 (by decide) (hts _ k_1352) (fun _ h9 => h9) rfl dX11_regiment_228 ?_
                        refine lv_iload_n hx hb dX11_regiment_231 rfl (lv_at hl 0 rfl) ?_
                        refine ldI hx hb hE hP 15 rfl (vp_in_iff.mpr ⟨by omega, by omega⟩) rfl rfl dX11_regiment_232 ?_
                        refine lv_topi (fun t43 et43 => ?_)
                        refine stI hx hb hE hP hD hS 22 rfl (vp_in_iff.mpr ⟨by omega, by omega⟩) rfl dX11_regiment_233 (fun H locs hP hD hS => ?_)
                        obtain ⟨f44, ef44, hP, hD⟩ : ∃ fz9, fz9 = upd2 f42 21 (upd (f42 21) l1_16.toNatClampNeg t43) ∧ va_P (dC, dI) vwCl (YW cy y0 r v16 fz9 w16 g16) H ∧ va_D A (YW cy y0 r v16 fz9 w16 g16) := ⟨_, rfl, hP, hD⟩
                        have hCf44 : YC f44 := by rw [ef44]; exact hCf42
                        have hRf44 : progOK (f44 4) (f44 5) (v16 9).toInt.toNat := by rw [ef44]; exact hRf42
                        have hs2_f44 : f44 2 = (f3 2) := by rw [ef44]; exact hs2_f42
                        have hs3_f44 : f44 3 = (f3 3) := by rw [ef44]; exact hs3_f42
                        have hs4_f44 : f44 4 = (f16 4) := by rw [ef44]; exact hs4_f42
                        have hs5_f44 : f44 5 = (f16 5) := by rw [ef44]; exact hs5_f42
                        have hA_f44 : KF [2, 3, 4, 5, 6, 9, 10, 11, 12, 13, 14, 15, 16, 17, 18, 19, 20, 21, 22, 23, 24, 36] f44 f := by rw [ef44]; exact KF.up hA_f42 rfl
                        refine lv_aload_n hx hb dX11_regiment_234 rfl (lv_at hl 1 rfl) ?_
                        refine va_get (D := (dC, dI)) (ci := 11) (v := .ref (r 40)) (C := RX11) (T := TX11) (N := 79) hx hb hts inB_11 hown hE.1 hP 0 rfl rfl 40 (by decide) (hts _ k_1360) (fun _ h9 => h9) rfl dX11_regiment_235 ?_
                        refine lv_iload_n hx hb dX11_regiment_238 rfl (lv_at hl 0 rfl) ?_
                        refine lv_aload_n hx hb dX11_regiment_239 rfl (lv_at hl 1 rfl) ?_
                        refine va_get (D := (dC, dI)) (ci := 11) (v := .ref (r 33)) (C := RX11) (T := TX11) (N := 79) hx hb hts inB_11 hown hE.1 hP 0 rfl rfl 33 (by decide) (hts _ k_1353) (fun _ h9 => h9) rfl dX11_regiment_240 ?_
                        refine lv_iload_n hx hb dX11_regiment_243 rfl (lv_at hl 0 rfl) ?_
                        refine ldI hx hb hE hP 16 rfl (vp_in_iff.mpr ⟨by omega, by omega⟩) rfl rfl dX11_regiment_244 ?_
                        refine lv_topi (fun t45 et45 => ?_)
                        refine stI hx hb hE hP hD hS 23 rfl (vp_in_iff.mpr ⟨by omega, by omega⟩) rfl dX11_regiment_245 (fun H locs hP hD hS => ?_)
                        obtain ⟨f46, ef46, hP, hD⟩ : ∃ fz9, fz9 = upd2 f44 22 (upd (f44 22) l1_16.toNatClampNeg t45) ∧ va_P (dC, dI) vwCl (YW cy y0 r v16 fz9 w16 g16) H ∧ va_D A (YW cy y0 r v16 fz9 w16 g16) := ⟨_, rfl, hP, hD⟩
                        have hCf46 : YC f46 := by rw [ef46]; exact hCf44
                        have hRf46 : progOK (f46 4) (f46 5) (v16 9).toInt.toNat := by rw [ef46]; exact hRf44
                        have hs2_f46 : f46 2 = (f3 2) := by rw [ef46]; exact hs2_f44
                        have hs3_f46 : f46 3 = (f3 3) := by rw [ef46]; exact hs3_f44
                        have hs4_f46 : f46 4 = (f16 4) := by rw [ef46]; exact hs4_f44
                        have hs5_f46 : f46 5 = (f16 5) := by rw [ef46]; exact hs5_f44
                        have hA_f46 : KF [2, 3, 4, 5, 6, 9, 10, 11, 12, 13, 14, 15, 16, 17, 18, 19, 20, 21, 22, 23, 24, 36] f46 f := by rw [ef46]; exact KF.up hA_f44 rfl
                        obtain ⟨t47, et47⟩ : ∃ y : Int32, y = l1_16 + 1 := ⟨_, rfl⟩
                        have zt47 : t47.toInt = l1_16.toInt + 1 := by rw [et47]; exact add_i rfl (by decide) (by omega) (by omega)
                        refine lv_iinc (v := t47) (lv' := [(1, .int t47), (0, .ref y0)]) hx hb dX11_regiment_246 hl (k := 0) rfl (by rw [et47]; rfl) (by decide) rfl (fun ls hl => ?_)
                        refine lv_goto (tgt := 190) hx hb dX11_regiment_249 (by decide) ?_
                        have rg48 := fb_rng t47
                        exact ih16 t47 v16 f46 w16 g16 hIv16 hCf46 hRf46 hq0_v16 hq1_v16 hq2_v16 hq3_v16 hq4_v16 hq5_v16 hq8_v16 hq9_v16 hq10_v16 hq13_v16 hq14_v16 hq15_v16 hq17_v16 hq18_v16 hq24_v16 hq25_v16 hq35_v16 hq36_v16 hq38_v16 hq39_v16 ((gsY_X11_regiment_1_q3 c17 et39 ef40 et41 ef42 et43 ef44 et45 ef46 et47).symm.trans hT16) ⟨show (0 : Int) ≤ t47.toInt by omega, show t47.toInt ≤ (2147483647 : Int) by omega⟩ hM_v16 hA_f46 hs2_f46 hs3_f46 (by show (2147483647 - t47.toInt).toNat < n16; omega) _ _ _ hP hD hS (lv_sub hl [0, 1] rfl)
                  exact lp16 (4294967296 + NF) 0 v12 f12 w12 g12 hIv12 hCf12 hRf12 hq0_v12 hq1_v12 hq2_v12 hq3_v12 hq4_v12 hq5_v12 hq8_v12 hq9_v12 hq10_v12 hq13_v12 hq14_v12 hq15_v12 hq17_v12 hq18_v12 hq24_v12 hq25_v12 hq35_v12 hq36_v12 hq38_v12 hq39_v12 ((gsY_X11_regiment_1_q4 c13).symm.trans hT12) ⟨by decide, by decide⟩ hM_v12 hA_f12 hs2_f12 hs3_f12 (by have q1 : (0 : Int32).toInt = 0 := (by decide); show (2147483647 - (0 : Int32).toInt).toNat < 4294967296 + NF; omega) _ _ _ hP hD hS (lv_sub hl [0, 1] rfl)
                · skip
                  have zc13 : ¬ ((v2 17).toInt ≤ l1_12.toInt) := by rw [fa_le] at c13; exact c13
                  have rg49 := fb_rng l1_12
                  have rg50 := fb_rng (v2 17)
                  refine lv_aload_n hx hb dX11_regiment_146 rfl (lv_at hl 1 rfl) ?_
                  refine va_get (D := (dC, dI)) (ci := 11) (v := .ref (r 34)) (C := RX11) (T := TX11) (N := 79) hx hb hts inB_11 hown hE.1 hP 0 rfl rfl 34 (by decide) (hts _ k_1354) (fun _ h9 => h9) rfl dX11_regiment_147 ?_
                  refine lv_iload_n hx hb dX11_regiment_150 rfl (lv_at hl 0 rfl) ?_
                  refine lv_aload_n hx hb dX11_regiment_151 rfl (lv_at hl 1 rfl) ?_
                  refine va_get (D := (dC, dI)) (ci := 11) (v := .ref (r 27)) (C := RX11) (T := TX11) (N := 79) hx hb hts inB_11 hown hE.1 hP 0 rfl rfl 27 (by decide) (hts _ k_1347) (fun _ h9 => h9) rfl dX11_regiment_152 ?_
                  refine lv_iload_n hx hb dX11_regiment_155 rfl (lv_at hl 0 rfl) ?_
                  refine ldI hx hb hE hP 10 rfl (vp_in_iff.mpr ⟨by omega, by omega⟩) rfl rfl dX11_regiment_156 ?_
                  refine lv_topi (fun t51 et51 => ?_)
                  refine stI hx hb hE hP hD hS 17 rfl (vp_in_iff.mpr ⟨by omega, by omega⟩) rfl dX11_regiment_157 (fun H locs hP hD hS => ?_)
                  obtain ⟨f52, ef52, hP, hD⟩ : ∃ fz9, fz9 = upd2 f12 16 (upd (f12 16) l1_12.toNatClampNeg t51) ∧ va_P (dC, dI) vwCl (YW cy y0 r v12 fz9 w12 g12) H ∧ va_D A (YW cy y0 r v12 fz9 w12 g12) := ⟨_, rfl, hP, hD⟩
                  have hCf52 : YC f52 := by rw [ef52]; exact hCf12
                  have hRf52 : progOK (f52 4) (f52 5) (v12 9).toInt.toNat := by rw [ef52]; exact hRf12
                  have hs2_f52 : f52 2 = (f3 2) := by rw [ef52]; exact hs2_f12
                  have hs3_f52 : f52 3 = (f3 3) := by rw [ef52]; exact hs3_f12
                  have hs4_f52 : f52 4 = (f12 4) := by rw [ef52]; exact rfl
                  have hs5_f52 : f52 5 = (f12 5) := by rw [ef52]; exact rfl
                  have hA_f52 : KF [2, 3, 4, 5, 6, 9, 10, 11, 12, 13, 14, 15, 16, 17, 18, 19, 20, 21, 22, 23, 24, 36] f52 f := by rw [ef52]; exact KF.up hA_f12 rfl
                  refine lv_aload_n hx hb dX11_regiment_158 rfl (lv_at hl 1 rfl) ?_
                  refine va_get (D := (dC, dI)) (ci := 11) (v := .ref (r 35)) (C := RX11) (T := TX11) (N := 79) hx hb hts inB_11 hown hE.1 hP 0 rfl rfl 35 (by decide) (hts _ k_1355) (fun _ h9 => h9) rfl dX11_regiment_159 ?_
                  refine lv_iload_n hx hb dX11_regiment_162 rfl (lv_at hl 0 rfl) ?_
                  refine lv_aload_n hx hb dX11_regiment_163 rfl (lv_at hl 1 rfl) ?_
                  refine va_get (D := (dC, dI)) (ci := 11) (v := .ref (r 28)) (C := RX11) (T := TX11) (N := 79) hx hb hts inB_11 hown hE.1 hP 0 rfl rfl 28 (by decide) (hts _ k_1348) (fun _ h9 => h9) rfl dX11_regiment_164 ?_
                  refine lv_iload_n hx hb dX11_regiment_167 rfl (lv_at hl 0 rfl) ?_
                  refine ldI hx hb hE hP 11 rfl (vp_in_iff.mpr ⟨by omega, by omega⟩) rfl rfl dX11_regiment_168 ?_
                  refine lv_topi (fun t53 et53 => ?_)
                  refine stI hx hb hE hP hD hS 18 rfl (vp_in_iff.mpr ⟨by omega, by omega⟩) rfl dX11_regiment_169 (fun H locs hP hD hS => ?_)
                  obtain ⟨f54, ef54, hP, hD⟩ : ∃ fz9, fz9 = upd2 f52 17 (upd (f52 17) l1_12.toNatClampNeg t53) ∧ va_P (dC, dI) vwCl (YW cy y0 r v12 fz9 w12 g12) H ∧ va_D A (YW cy y0 r v12 fz9 w12 g12) := ⟨_, rfl, hP, hD⟩
                  have hCf54 : YC f54 := by rw [ef54]; exact hCf52
                  have hRf54 : progOK (f54 4) (f54 5) (v12 9).toInt.toNat := by rw [ef54]; exact hRf52
                  have hs2_f54 : f54 2 = (f3 2) := by rw [ef54]; exact hs2_f52
                  have hs3_f54 : f54 3 = (f3 3) := by rw [ef54]; exact hs3_f52
                  have hs4_f54 : f54 4 = (f12 4) := by rw [ef54]; exact hs4_f52
                  have hs5_f54 : f54 5 = (f12 5) := by rw [ef54]; exact hs5_f52
                  have hA_f54 : KF [2, 3, 4, 5, 6, 9, 10, 11, 12, 13, 14, 15, 16, 17, 18, 19, 20, 21, 22, 23, 24, 36] f54 f := by rw [ef54]; exact KF.up hA_f52 rfl
                  refine lv_aload_n hx hb dX11_regiment_170 rfl (lv_at hl 1 rfl) ?_
                  refine va_get (D := (dC, dI)) (ci := 11) (v := .ref (r 36)) (C := RX11) (T := TX11) (N := 79) hx hb hts inB_11 hown hE.1 hP 0 rfl rfl 36 (by decide) (hts _ k_1356) (fun _ h9 => h9) rfl dX11_regiment_171 ?_
                  refine lv_iload_n hx hb dX11_regiment_174 rfl (lv_at hl 0 rfl) ?_
                  refine lv_aload_n hx hb dX11_regiment_175 rfl (lv_at hl 1 rfl) ?_
                  refine va_get (D := (dC, dI)) (ci := 11) (v := .ref (r 29)) (C := RX11) (T := TX11) (N := 79) hx hb hts inB_11 hown hE.1 hP 0 rfl rfl 29 (by decide) (hts _ k_1349) (fun _ h9 => h9) rfl dX11_regiment_176 ?_
                  refine lv_iload_n hx hb dX11_regiment_179 rfl (lv_at hl 0 rfl) ?_
                  refine ldI hx hb hE hP 12 rfl (vp_in_iff.mpr ⟨by omega, by omega⟩) rfl rfl dX11_regiment_180 ?_
                  refine lv_topi (fun t55 et55 => ?_)
                  refine stI hx hb hE hP hD hS 19 rfl (vp_in_iff.mpr ⟨by omega, by omega⟩) rfl dX11_regiment_181 (fun H locs hP hD hS => ?_)
                  obtain ⟨f56, ef56, hP, hD⟩ : ∃ fz9, fz9 = upd2 f54 18 (upd (f54 18) l1_12.toNatClampNeg t55) ∧ va_P (dC, dI) vwCl (YW cy y0 r v12 fz9 w12 g12) H ∧ va_D A (YW cy y0 r v12 fz9 w12 g12) := ⟨_, rfl, hP, hD⟩
                  have hCf56 : YC f56 := by rw [ef56]; exact hCf54
                  have hRf56 : progOK (f56 4) (f56 5) (v12 9).toInt.toNat := by rw [ef56]; exact hRf54
                  have hs2_f56 : f56 2 = (f3 2) := by rw [ef56]; exact hs2_f54
                  have hs3_f56 : f56 3 = (f3 3) := by rw [ef56]; exact hs3_f54
                  have hs4_f56 : f56 4 = (f12 4) := by rw [ef56]; exact hs4_f54
                  have hs5_f56 : f56 5 = (f12 5) := by rw [ef56]; exact hs5_f54
                  have hA_f56 : KF [2, 3, 4, 5, 6, 9, 10, 11, 12, 13, 14, 15, 16, 17, 18, 19, 20, 21, 22, 23, 24, 36] f56 f := by rw [ef56]; exact KF.up hA_f54 rfl
                  obtain ⟨t57, et57⟩ : ∃ y : Int32, y = l1_12 + 1 := ⟨_, rfl⟩
                  have zt57 : t57.toInt = l1_12.toInt + 1 := by rw [et57]; exact add_i rfl (by decide) (by omega) (by omega)
                  refine lv_iinc (v := t57) (lv' := [(1, .int t57), (0, .ref y0)]) hx hb dX11_regiment_182 hl (k := 0) rfl (by rw [et57]; rfl) (by decide) rfl (fun ls hl => ?_)
                  refine lv_goto (tgt := 138) hx hb dX11_regiment_185 (by decide) ?_
                  have rg58 := fb_rng t57
                  exact ih12 t57 v12 f56 w12 g12 hIv12 hCf56 hRf56 hq0_v12 hq1_v12 hq2_v12 hq3_v12 hq4_v12 hq5_v12 hq8_v12 hq9_v12 hq10_v12 hq13_v12 hq14_v12 hq15_v12 hq17_v12 hq18_v12 hq24_v12 hq25_v12 hq35_v12 hq36_v12 hq38_v12 hq39_v12 ((gsY_X11_regiment_1_q5 c13 et51 ef52 et53 ef54 et55 ef56 et57).symm.trans hT12) ⟨show (0 : Int) ≤ t57.toInt by omega, show t57.toInt ≤ (2147483647 : Int) by omega⟩ hM_v12 hA_f56 hs2_f56 hs3_f56 (by show (2147483647 - t57.toInt).toNat < n12; omega) _ _ _ hP hD hS (lv_sub hl [0, 1] rfl)
            exact lp12 (4294967296 + NF) 0 v10 f10 w10 g10 hIv10 hCf10 hRf10 hq0_v10 hq1_v10 hq2_v10 hq3_v10 hq4_v10 hq5_v10 hq8_v10 hq9_v10 hq10_v10 hq13_v10 hq14_v10 hq15_v10 hq17_v10 hq18_v10 hq24_v10 hq25_v10 hq35_v10 hq36_v10 hq38_v10 hq39_v10 ((gsY_X11_regiment_1_q6 c11).symm.trans hT10) ⟨by decide, by decide⟩ hM_v10 hA_f10 hs2_f10 hs3_f10 (by have q1 : (0 : Int32).toInt = 0 := (by decide); show (2147483647 - (0 : Int32).toInt).toNat < 4294967296 + NF; omega) _ _ _ hP hD hS (lv_sub hl [0, 1] rfl)
          · skip
            have zc11 : ¬ (0 ≤ l1_10.toInt) := by rw [fa_le, show (0 : Int32).toInt = 0 from by decide] at c11; exact c11
            refine lv_aload_n hx hb dX11_regiment_106 rfl (lv_at hl 1 rfl) ?_
            refine va_get (D := (dC, dI)) (ci := 11) (v := .ref (r 13)) (C := RX11) (T := TX11) (N := 79) hx hb hts inB_11 hown hE.1 hP 0 rfl rfl 13 (by decide) (hts _ k_1333) (fun _ h9 => h9) rfl dX11_regiment_107 ?_
            refine lv_iload_n hx hb dX11_regiment_110 rfl (lv_at hl 0 rfl) ?_
            refine lv_aload_n hx hb dX11_regiment_111 rfl (lv_at hl 1 rfl) ?_
            refine va_get (D := (dC, dI)) (ci := 11) (v := .ref (r 11)) (C := RX11) (T := TX11) (N := 79) hx hb hts inB_11 hown hE.1 hP 0 rfl rfl 11 (by decide) (hts _ k_1331) (fun _ h9 => h9) rfl dX11_regiment_112 ?_
            refine lv_iload_n hx hb dX11_regiment_115 rfl (lv_at hl 0 rfl) ?_
            refine ldI hx hb hE hP 3 rfl (vp_in_iff.mpr ⟨by omega, by omega⟩) rfl rfl dX11_regiment_116 ?_
            refine lv_topi (fun t59 et59 => ?_)
            have hO2 : (f3 2) l1_10.toInt.toNat = t59 := by rw [et59, hs2_f10]; rfl
            refine stI hx hb hE hP hD hS 5 rfl (vp_in_iff.mpr ⟨by omega, by omega⟩) rfl dX11_regiment_117 (fun H locs hP hD hS => ?_)
            obtain ⟨f60, ef60, hP, hD⟩ : ∃ fz9, fz9 = upd2 f10 4 (upd (f10 4) l1_10.toNatClampNeg t59) ∧ va_P (dC, dI) vwCl (YW cy y0 r v10 fz9 w10 g10) H ∧ va_D A (YW cy y0 r v10 fz9 w10 g10) := ⟨_, rfl, hP, hD⟩
            have hCf60 : YC f60 := by rw [ef60]; exact hCf10
            have hs2_f60 : f60 2 = (f3 2) := by rw [ef60]; exact hs2_f10
            have hs3_f60 : f60 3 = (f3 3) := by rw [ef60]; exact hs3_f10
            have hs4_f60 : f60 4 = (upd (f10 4) (l1_10.toInt.toNat) t59) := by rw [ef60]; show upd (f10 4) (l1_10.toInt.toNat) t59 = _; rfl
            have hs5_f60 : f60 5 = (f10 5) := by rw [ef60]; exact rfl
            have hA_f60 : KF [2, 3, 4, 5, 6, 9, 10, 11, 12, 13, 14, 15, 16, 17, 18, 19, 20, 21, 22, 23, 24, 36] f60 f := by rw [ef60]; exact KF.up hA_f10 rfl
            refine lv_aload_n hx hb dX11_regiment_118 rfl (lv_at hl 1 rfl) ?_
            refine va_get (D := (dC, dI)) (ci := 11) (v := .ref (r 14)) (C := RX11) (T := TX11) (N := 79) hx hb hts inB_11 hown hE.1 hP 0 rfl rfl 14 (by decide) (hts _ k_1334) (fun _ h9 => h9) rfl dX11_regiment_119 ?_
            refine lv_iload_n hx hb dX11_regiment_122 rfl (lv_at hl 0 rfl) ?_
            refine lv_aload_n hx hb dX11_regiment_123 rfl (lv_at hl 1 rfl) ?_
            refine va_get (D := (dC, dI)) (ci := 11) (v := .ref (r 12)) (C := RX11) (T := TX11) (N := 79) hx hb hts inB_11 hown hE.1 hP 0 rfl rfl 12 (by decide) (hts _ k_1332) (fun _ h9 => h9) rfl dX11_regiment_124 ?_
            refine lv_iload_n hx hb dX11_regiment_127 rfl (lv_at hl 0 rfl) ?_
            refine ldI hx hb hE hP 4 rfl (vp_in_iff.mpr ⟨by omega, by omega⟩) rfl rfl dX11_regiment_128 ?_
            refine lv_topi (fun t61 et61 => ?_)
            have hO3 : (f3 3) l1_10.toInt.toNat = t61 := by rw [et61, hs3_f60]; rfl
            refine stI hx hb hE hP hD hS 6 rfl (vp_in_iff.mpr ⟨by omega, by omega⟩) rfl dX11_regiment_129 (fun H locs hP hD hS => ?_)
            obtain ⟨f62, ef62, hP, hD⟩ : ∃ fz9, fz9 = upd2 f60 5 (upd (f60 5) l1_10.toNatClampNeg t61) ∧ va_P (dC, dI) vwCl (YW cy y0 r v10 fz9 w10 g10) H ∧ va_D A (YW cy y0 r v10 fz9 w10 g10) := ⟨_, rfl, hP, hD⟩
            have hCf62 : YC f62 := by rw [ef62]; exact hCf60
            have hs2_f62 : f62 2 = (f3 2) := by rw [ef62]; exact hs2_f60
            have hs3_f62 : f62 3 = (f3 3) := by rw [ef62]; exact hs3_f60
            have hs4_f62 : f62 4 = (upd (f10 4) (l1_10.toInt.toNat) t59) := by rw [ef62]; exact hs4_f60
            have hs5_f62 : f62 5 = (upd (f10 5) (l1_10.toInt.toNat) t61) := by rw [ef62]; show upd (f60 5) (l1_10.toInt.toNat) t61 = _; rw [hs5_f60]
            have hA_f62 : KF [2, 3, 4, 5, 6, 9, 10, 11, 12, 13, 14, 15, 16, 17, 18, 19, 20, 21, 22, 23, 24, 36] f62 f := by rw [ef62]; exact KF.up hA_f60 rfl
            obtain ⟨t63, et63⟩ : ∃ y : Int32, y = l1_10 + 1 := ⟨_, rfl⟩
            have rg64 := fb_rng l1_10
            have zt63 : t63.toInt = l1_10.toInt + 1 := by rw [et63]; exact add_i rfl (by decide) (by omega) (by omega)
            refine lv_iinc (v := t63) (lv' := [(1, .int t63), (0, .ref y0)]) hx hb dX11_regiment_130 hl (k := 0) rfl (by rw [et63]; rfl) (by decide) rfl (fun ls hl => ?_)
            refine lv_goto (tgt := 98) hx hb dX11_regiment_133 (by decide) ?_
            have rg65 := fb_rng t63
            exact ih10 t63 v10 f62 w10 g10 hIv10 hCf62 hq0_v10 hq1_v10 hq2_v10 hq3_v10 hq4_v10 hq5_v10 hq8_v10 hq9_v10 hq10_v10 hq13_v10 hq14_v10 hq15_v10 hq17_v10 hq18_v10 hq24_v10 hq25_v10 hq35_v10 hq36_v10 hq38_v10 hq39_v10 ((gsY_X11_regiment_1_q7 c11 et59 ef60 et61 ef62 et63).symm.trans hT10) ⟨show (0 : Int) ≤ t63.toInt by omega, show t63.toInt ≤ (2147483647 : Int) by omega⟩ (by show progOK (f62 2) (f62 3) ((v10 9).toInt).toNat; rw [hs2_f62, hs3_f62]; exact prog_n hPG (by omega)) (by show ∀ j, j < (t63.toInt).toNat → (f62 4) j = (f62 2) j ∧ (f62 5) j = (f62 3) j; rw [hs2_f62, hs3_f62, hs4_f62, hs5_f62]; exact cp_step hCP hO2 hO3 (by omega)) hM_v10 hA_f62 hs2_f62 hs3_f62 (by show (2147483647 - t63.toInt).toNat < n10; omega) _ _ _ hP hD hS (lv_sub hl [0, 1] rfl)
      exact lp10 (4294967296 + NF) 0 (upd (upd (upd (upd (upd (upd (upd (upd (upd v2 24 (v2 17)) 25 (v2 18)) 26 (v2 19)) 27 (v2 20)) 28 (v2 21)) 29 (v2 22)) 12 (v2 11)) 16 (v2 15)) 9 0) f3 w4 g5 ⟨(YIb.upd (j := 9) (x := 0) (YIb.upd (j := 16) (x := (v2 15)) (YIb.upd (j := 12) (x := (v2 11)) (YIb.upd (j := 29) (x := (v2 22)) (YIb.upd (j := 28) (x := (v2 21)) (YIb.upd (j := 27) (x := (v2 20)) (YIb.upd (j := 26) (x := (v2 19)) (YIb.upd (j := 25) (x := (v2 18)) (YIb.upd (j := 24) (x := (v2 17)) hIv2.1 (show (0 : Int) ≤ (v2 17).toInt by omega) (show (v2 17).toInt ≤ (6 : Int) by omega)) (show (0 : Int) ≤ (v2 18).toInt by omega) (show (v2 18).toInt ≤ (6 : Int) by omega)) (rlo _) (rhi _)) (rlo _) (rhi _)) (rlo _) (rhi _)) (rlo _) (rhi _)) (rlo _) (rhi _)) (rlo _) (rhi _)) (by decide) (by decide)), hIv2.2⟩ hCf3 rfl rfl rfl rfl rfl rfl rfl rfl rfl rfl rfl rfl rfl rfl rfl rfl hq35_v2 hq36_v2 hq38_v2 hq39_v2 (gsY_X11_regiment_1_q8 hG1 c8 c9).symm ⟨by decide, by decide⟩ (by have q0 : (0 : Int32).toInt = 0 := (by decide); show progOK (f3 2) (f3 3) ((0 : Int32).toInt).toNat; first | exact prog_n (hPL (by omega) (by omega)) (by omega) | exact prog_0 (by decide)) (by have q0 : (0 : Int32).toInt = 0 := (by decide); show ∀ j, j < ((0 : Int32).toInt).toNat → (f3 4) j = (f3 2) j ∧ (f3 5) j = (f3 3) j; exact fun j hj => absurd hj (Nat.not_lt_zero _)) (KV.up (j := 9) (x := 0) (KV.up (j := 16) (x := (v2 15)) (KV.up (j := 12) (x := (v2 11)) (KV.up (j := 29) (x := (v2 22)) (KV.up (j := 28) (x := (v2 21)) (KV.up (j := 27) (x := (v2 20)) (KV.up (j := 26) (x := (v2 19)) (KV.up (j := 25) (x := (v2 18)) (KV.up (j := 24) (x := (v2 17)) hM_v2 (by decide +kernel)) (by decide +kernel)) (by decide +kernel)) (by decide +kernel)) (by decide +kernel)) (by decide +kernel)) (by decide +kernel)) (by decide +kernel)) (by decide +kernel)) hA_f3 rfl rfl (by have q1 : (0 : Int32).toInt = 0 := (by decide); have qc0 : (0 : Int32).toInt = 0 := (by decide); show (2147483647 - (0 : Int32).toInt).toNat < 4294967296 + NF; omega) _ _ _ hP hD hS (lv_sub hl [0, 1] rfl)
    · skip
      have zc9 : ¬ ((v2 15).toInt = 0) := by rw [fa_eq, show (0 : Int32).toInt = 0 from by decide] at c9; exact c9
      refine lv_aload_n hx hb dX11_regiment_85 rfl (lv_at hl 0 rfl) ?_
      refine va_get (D := (dC, dI)) (ci := 11) (v := .int (v2 8)) (C := RX11) (T := TX11) (N := 79) hx hb hts inB_11 hown hE.1 hP 0 rfl rfl 17 (by decide) (hts _ k_1337) (fun _ h9 => h9) rfl dX11_regiment_86 ?_
      have b8_v2 : 0 ≤ (v2 8).toInt ∧ (v2 8).toInt ≤ 320 := YIb.b hIv2.1 8 (by decide)
      refine lv_goto (tgt := 93) hx hb dX11_regiment_89 (by decide) ?_
      refine va_put (D := (dC, dI)) (ci := 11) (v := .int (v2 8)) (ty := tyX11 18) (C := RX11) (T := TX11) (N := 79) hx hb hts inB_11 tyX11 tyX11_ok nmX11 hown hE.1 hP hD hS 0 rfl rfl 18 (by decide) (hts _ k_1338) (fun _ h9 => h9) rfl (tyX11_ok 18 (by decide)) rfl rfl (Nat.le_of_ble_eq_true rfl) dX11_regiment_93 (fun H locs hP hD hS => ?_)
      have hP : va_P (dC, dI) vwCl (YW cy y0 r (upd (upd (upd (upd (upd (upd (upd (upd (upd v2 24 (v2 17)) 25 (v2 18)) 26 (v2 19)) 27 (v2 20)) 28 (v2 21)) 29 (v2 22)) 12 (v2 11)) 16 (v2 15)) 9 (v2 8)) f3 w4 g5) H := hP
      have hD : va_D A (YW cy y0 r (upd (upd (upd (upd (upd (upd (upd (upd (upd v2 24 (v2 17)) 25 (v2 18)) 26 (v2 19)) 27 (v2 20)) 28 (v2 21)) 29 (v2 22)) 12 (v2 11)) 16 (v2 15)) 9 (v2 8)) f3 w4 g5) := hD
      refine lv_iconst (v := 0) hx hb dX11_regiment_96 (by decide) ?_
      refine lv_istore_n (lv' := [(1, .int 0), (0, .ref y0)]) hx hb dX11_regiment_97 rfl hl (by decide) rfl (fun ls hl => ?_)
      have lp66 : ∀ (n66 : Nat) (l1_66 : Int32) (v66 : Nat → Int32) (f66 : Nat → Nat → Int32) (w66 : Int64) (g66 : Nat → Int64), YI v66 → YC f66 → v66 0 = (v2 0) → v66 1 = (v2 1) → v66 2 = (v2 2) → v66 3 = (v2 3) → v66 4 = (v2 4) → v66 5 = (v2 5) → v66 8 = (v2 8) → v66 9 = (v2 8) → v66 10 = (v2 10) → v66 13 = (v2 13) → v66 14 = (v2 14) → v66 15 = (v2 15) → v66 17 = (v2 17) → v66 18 = (v2 18) → v66 24 = (v2 17) → v66 25 = (v2 18) → v66 35 = (v 35) → v66 36 = (v 36) → v66 38 = (v 38) → v66 39 = (v 39) → gsY_X11_regiment_1_L66 NF v2 n66 l1_66 v66 f66 w66 g66 = (gsY_X11_regiment_1 NF v f w g) → ((0 : Int) ≤ l1_66.toInt ∧ l1_66.toInt ≤ 2147483647) → (progOK (f66 2) (f66 3) ((v66 9).toInt).toNat) → (∀ j, j < (l1_66.toInt).toNat → (f66 4) j = (f66 2) j ∧ (f66 5) j = (f66 3) j) → KV [0, 1, 2, 3, 4, 5, 6, 7, 8, 9, 10, 11, 12, 13, 14, 15, 16, 17, 18, 19, 20, 21, 22, 23, 24, 25, 26, 27, 28, 29, 30, 31, 32, 33, 34, 35, 36, 37, 38] v66 v → KF [2, 3, 4, 5, 6, 9, 10, 11, 12, 13, 14, 15, 16, 17, 18, 19, 20, 21, 22, 23, 24, 36] f66 f → f66 2 = (f3 2) → f66 3 = (f3 3) → (2147483647 - l1_66.toInt).toNat < n66 → ∀ (H : Heap) (locs : List Loc) (ls : Array Slot), va_P (dC, dI) vwCl (YW cy y0 r v66 f66 w66 g66) H → va_D A (YW cy y0 r v66 f66 w66 g66) → va_S A s.heap H locs → lv_has ls 2 [(1, .int l1_66), (0, .ref y0)] → W p l e { frames := 9, cells := 0, slots := 0, locals := 232 } s m ([.ref y0] : List Value).toArray below meth c H locs 0 0 Q (F0 m 98 ls []) := by
        intro n66
        induction n66 with
        | zero => intro l1_66 v66 f66 w66 g66 hIv66 hCf66 hq0_v66 hq1_v66 hq2_v66 hq3_v66 hq4_v66 hq5_v66 hq8_v66 hq9_v66 hq10_v66 hq13_v66 hq14_v66 hq15_v66 hq17_v66 hq18_v66 hq24_v66 hq25_v66 hq35_v66 hq36_v66 hq38_v66 hq39_v66 hT66 hr1_66 hx0_66 hx1_66 hM_v66 hA_f66 hs2_f66 hs3_f66 hm; exact absurd hm (Nat.not_lt_zero _)
        | succ n66 ih66 =>
          intro l1_66 v66 f66 w66 g66 hIv66 hCf66 hq0_v66 hq1_v66 hq2_v66 hq3_v66 hq4_v66 hq5_v66 hq8_v66 hq9_v66 hq10_v66 hq13_v66 hq14_v66 hq15_v66 hq17_v66 hq18_v66 hq24_v66 hq25_v66 hq35_v66 hq36_v66 hq38_v66 hq39_v66 hT66 hr1_66 hx0_66 hx1_66 hM_v66 hA_f66 hs2_f66 hs3_f66 hm66 H locs ls hP hD hS hl
          have hUv66 : (v66 35).toInt + (v66 36).toInt ≤ 40 := hIv66.2
          have zq0_v66 := congrArg Int32.toInt hq0_v66
          have zq1_v66 := congrArg Int32.toInt hq1_v66
          have zq8_v66 := congrArg Int32.toInt hq8_v66
          have zq9_v66 := congrArg Int32.toInt hq9_v66
          try clear zq9_v2
          have zq10_v66 := congrArg Int32.toInt hq10_v66
          have zq13_v66 := congrArg Int32.toInt hq13_v66
          have zq14_v66 := congrArg Int32.toInt hq14_v66
          have zq15_v66 := congrArg Int32.toInt hq15_v66
          have zq17_v66 := congrArg Int32.toInt hq17_v66
          have zq18_v66 := congrArg Int32.toInt hq18_v66
          have zq35_v66 := congrArg Int32.toInt hq35_v66
          try clear zq35_v2
          have zq36_v66 := congrArg Int32.toInt hq36_v66
          try clear zq36_v2
          have b9_v66 : 0 ≤ (v66 9).toInt ∧ (v66 9).toInt ≤ 320 := YIb.b hIv66.1 9 (by decide)
          have b8_v2 : 0 ≤ (v2 8).toInt ∧ (v2 8).toInt ≤ 320 := YIb.b hIv2.1 8 (by decide)
          rw [hs2_f66] at hx0_66
          rw [hs3_f66] at hx0_66
          rw [hs2_f66] at hx1_66
          rw [hs3_f66] at hx1_66
          have hPG := hx0_66
          have hCP := hx1_66
          refine lv_iload_n hx hb dX11_regiment_98 rfl (lv_at hl 0 rfl) ?_
          refine lv_aload_n hx hb dX11_regiment_99 rfl (lv_at hl 1 rfl) ?_
          refine va_get (D := (dC, dI)) (ci := 11) (v := .int (v66 9)) (C := RX11) (T := TX11) (N := 79) hx hb hts inB_11 hown hE.1 hP 0 rfl rfl 18 (by decide) (hts _ k_1338) (fun _ h9 => h9) rfl dX11_regiment_100 ?_
          refine tI (y := (v2 8)) hq9_v66 ?_
          refine lv_icmp_ge (tgt := 136) hx hb dX11_regiment_103 (by decide) (fun c67 => ?_) (fun c67 => ?_)
          · skip
            have zc67 : (v2 8).toInt ≤ l1_66.toInt := by rw [fa_le] at c67; exact c67
            have rg68 := fb_rng l1_66
            have rg69 := fb_rng (v2 8)
            have hRf66 : progOK (f66 4) (f66 5) (v66 9).toInt.toNat := cp_done hCP hPG (by omega)
            refine lv_iconst (v := 0) hx hb dX11_regiment_136 (by decide) ?_
            refine lv_istore_n (lv' := [(1, .int 0), (0, .ref y0)]) hx hb dX11_regiment_137 rfl hl (by decide) rfl (fun ls hl => ?_)
            have lp70 : ∀ (n70 : Nat) (l1_70 : Int32) (v70 : Nat → Int32) (f70 : Nat → Nat → Int32) (w70 : Int64) (g70 : Nat → Int64), YI v70 → YC f70 → progOK (f70 4) (f70 5) (v70 9).toInt.toNat → v70 0 = (v2 0) → v70 1 = (v2 1) → v70 2 = (v2 2) → v70 3 = (v2 3) → v70 4 = (v2 4) → v70 5 = (v2 5) → v70 8 = (v2 8) → v70 9 = (v2 8) → v70 10 = (v2 10) → v70 13 = (v2 13) → v70 14 = (v2 14) → v70 15 = (v2 15) → v70 17 = (v2 17) → v70 18 = (v2 18) → v70 24 = (v2 17) → v70 25 = (v2 18) → v70 35 = (v 35) → v70 36 = (v 36) → v70 38 = (v 38) → v70 39 = (v 39) → gsY_X11_regiment_1_L70 NF v2 n70 l1_70 v70 f70 w70 g70 = (gsY_X11_regiment_1 NF v f w g) → ((0 : Int) ≤ l1_70.toInt ∧ l1_70.toInt ≤ 2147483647) → KV [0, 1, 2, 3, 4, 5, 6, 7, 8, 9, 10, 11, 12, 13, 14, 15, 16, 17, 18, 19, 20, 21, 22, 23, 24, 25, 26, 27, 28, 29, 30, 31, 32, 33, 34, 35, 36, 37, 38] v70 v → KF [2, 3, 4, 5, 6, 9, 10, 11, 12, 13, 14, 15, 16, 17, 18, 19, 20, 21, 22, 23, 24, 36] f70 f → f70 2 = (f3 2) → f70 3 = (f3 3) → (2147483647 - l1_70.toInt).toNat < n70 → ∀ (H : Heap) (locs : List Loc) (ls : Array Slot), va_P (dC, dI) vwCl (YW cy y0 r v70 f70 w70 g70) H → va_D A (YW cy y0 r v70 f70 w70 g70) → va_S A s.heap H locs → lv_has ls 2 [(1, .int l1_70), (0, .ref y0)] → W p l e { frames := 9, cells := 0, slots := 0, locals := 232 } s m ([.ref y0] : List Value).toArray below meth c H locs 0 0 Q (F0 m 138 ls []) := by
              intro n70
              induction n70 with
              | zero => intro l1_70 v70 f70 w70 g70 hIv70 hCf70 hRf70 hq0_v70 hq1_v70 hq2_v70 hq3_v70 hq4_v70 hq5_v70 hq8_v70 hq9_v70 hq10_v70 hq13_v70 hq14_v70 hq15_v70 hq17_v70 hq18_v70 hq24_v70 hq25_v70 hq35_v70 hq36_v70 hq38_v70 hq39_v70 hT70 hr1_70 hM_v70 hA_f70 hs2_f70 hs3_f70 hm; exact absurd hm (Nat.not_lt_zero _)
              | succ n70 ih70 =>
                intro l1_70 v70 f70 w70 g70 hIv70 hCf70 hRf70 hq0_v70 hq1_v70 hq2_v70 hq3_v70 hq4_v70 hq5_v70 hq8_v70 hq9_v70 hq10_v70 hq13_v70 hq14_v70 hq15_v70 hq17_v70 hq18_v70 hq24_v70 hq25_v70 hq35_v70 hq36_v70 hq38_v70 hq39_v70 hT70 hr1_70 hM_v70 hA_f70 hs2_f70 hs3_f70 hm70 H locs ls hP hD hS hl
                have hUv70 : (v70 35).toInt + (v70 36).toInt ≤ 40 := hIv70.2
                have zq0_v70 := congrArg Int32.toInt hq0_v70
                try clear zq0_v66
                have zq1_v70 := congrArg Int32.toInt hq1_v70
                try clear zq1_v66
                have zq8_v70 := congrArg Int32.toInt hq8_v70
                try clear zq8_v66
                have zq9_v70 := congrArg Int32.toInt hq9_v70
                try clear zq9_v66
                have zq10_v70 := congrArg Int32.toInt hq10_v70
                try clear zq10_v66
                have zq13_v70 := congrArg Int32.toInt hq13_v70
                try clear zq13_v66
                have zq14_v70 := congrArg Int32.toInt hq14_v70
                try clear zq14_v66
                have zq15_v70 := congrArg Int32.toInt hq15_v70
                try clear zq15_v66
                have zq17_v70 := congrArg Int32.toInt hq17_v70
                try clear zq17_v66
                have zq18_v70 := congrArg Int32.toInt hq18_v70
                try clear zq18_v66
                have zq35_v70 := congrArg Int32.toInt hq35_v70
                try clear zq35_v66
                have zq36_v70 := congrArg Int32.toInt hq36_v70
                try clear zq36_v66
                refine lv_iload_n hx hb dX11_regiment_138 rfl (lv_at hl 0 rfl) ?_
                refine lv_aload_n hx hb dX11_regiment_139 rfl (lv_at hl 1 rfl) ?_
                refine va_get (D := (dC, dI)) (ci := 11) (v := .int (v70 24)) (C := RX11) (T := TX11) (N := 79) hx hb hts inB_11 hown hE.1 hP 0 rfl rfl 48 (by decide) (hts _ k_1368) (fun _ h9 => h9) rfl dX11_regiment_140 ?_
                refine tI (y := (v2 17)) hq24_v70 ?_
                have b17_v2 : 0 ≤ (v2 17).toInt ∧ (v2 17).toInt ≤ 6 := YIb.b hIv2.1 17 (by decide)
                refine lv_icmp_ge (tgt := 188) hx hb dX11_regiment_143 (by decide) (fun c71 => ?_) (fun c71 => ?_)
                · skip
                  have zc71 : (v2 17).toInt ≤ l1_70.toInt := by rw [fa_le] at c71; exact c71
                  have rg72 := fb_rng l1_70
                  have rg73 := fb_rng (v2 17)
                  refine lv_iconst (v := 0) hx hb dX11_regiment_188 (by decide) ?_
                  refine lv_istore_n (lv' := [(1, .int 0), (0, .ref y0)]) hx hb dX11_regiment_189 rfl hl (by decide) rfl (fun ls hl => ?_)
                  have lp74 : ∀ (n74 : Nat) (l1_74 : Int32) (v74 : Nat → Int32) (f74 : Nat → Nat → Int32) (w74 : Int64) (g74 : Nat → Int64), YI v74 → YC f74 → progOK (f74 4) (f74 5) (v74 9).toInt.toNat → v74 0 = (v2 0) → v74 1 = (v2 1) → v74 2 = (v2 2) → v74 3 = (v2 3) → v74 4 = (v2 4) → v74 5 = (v2 5) → v74 8 = (v2 8) → v74 9 = (v2 8) → v74 10 = (v2 10) → v74 13 = (v2 13) → v74 14 = (v2 14) → v74 15 = (v2 15) → v74 17 = (v2 17) → v74 18 = (v2 18) → v74 24 = (v2 17) → v74 25 = (v2 18) → v74 35 = (v 35) → v74 36 = (v 36) → v74 38 = (v 38) → v74 39 = (v 39) → gsY_X11_regiment_1_L74 NF v2 n74 l1_74 v74 f74 w74 g74 = (gsY_X11_regiment_1 NF v f w g) → ((0 : Int) ≤ l1_74.toInt ∧ l1_74.toInt ≤ 2147483647) → KV [0, 1, 2, 3, 4, 5, 6, 7, 8, 9, 10, 11, 12, 13, 14, 15, 16, 17, 18, 19, 20, 21, 22, 23, 24, 25, 26, 27, 28, 29, 30, 31, 32, 33, 34, 35, 36, 37, 38] v74 v → KF [2, 3, 4, 5, 6, 9, 10, 11, 12, 13, 14, 15, 16, 17, 18, 19, 20, 21, 22, 23, 24, 36] f74 f → f74 2 = (f3 2) → f74 3 = (f3 3) → (2147483647 - l1_74.toInt).toNat < n74 → ∀ (H : Heap) (locs : List Loc) (ls : Array Slot), va_P (dC, dI) vwCl (YW cy y0 r v74 f74 w74 g74) H → va_D A (YW cy y0 r v74 f74 w74 g74) → va_S A s.heap H locs → lv_has ls 2 [(1, .int l1_74), (0, .ref y0)] → W p l e { frames := 9, cells := 0, slots := 0, locals := 232 } s m ([.ref y0] : List Value).toArray below meth c H locs 0 0 Q (F0 m 190 ls []) := by
                    intro n74
                    induction n74 with
                    | zero => intro l1_74 v74 f74 w74 g74 hIv74 hCf74 hRf74 hq0_v74 hq1_v74 hq2_v74 hq3_v74 hq4_v74 hq5_v74 hq8_v74 hq9_v74 hq10_v74 hq13_v74 hq14_v74 hq15_v74 hq17_v74 hq18_v74 hq24_v74 hq25_v74 hq35_v74 hq36_v74 hq38_v74 hq39_v74 hT74 hr1_74 hM_v74 hA_f74 hs2_f74 hs3_f74 hm; exact absurd hm (Nat.not_lt_zero _)
                    | succ n74 ih74 =>
                      intro l1_74 v74 f74 w74 g74 hIv74 hCf74 hRf74 hq0_v74 hq1_v74 hq2_v74 hq3_v74 hq4_v74 hq5_v74 hq8_v74 hq9_v74 hq10_v74 hq13_v74 hq14_v74 hq15_v74 hq17_v74 hq18_v74 hq24_v74 hq25_v74 hq35_v74 hq36_v74 hq38_v74 hq39_v74 hT74 hr1_74 hM_v74 hA_f74 hs2_f74 hs3_f74 hm74 H locs ls hP hD hS hl
                      have hUv74 : (v74 35).toInt + (v74 36).toInt ≤ 40 := hIv74.2
                      have zq0_v74 := congrArg Int32.toInt hq0_v74
                      try clear zq0_v70
                      have zq1_v74 := congrArg Int32.toInt hq1_v74
                      try clear zq1_v70
                      have zq8_v74 := congrArg Int32.toInt hq8_v74
                      try clear zq8_v70
                      have zq9_v74 := congrArg Int32.toInt hq9_v74
                      try clear zq9_v70
                      have zq10_v74 := congrArg Int32.toInt hq10_v74
                      try clear zq10_v70
                      have zq13_v74 := congrArg Int32.toInt hq13_v74
                      try clear zq13_v70
                      have zq14_v74 := congrArg Int32.toInt hq14_v74
                      try clear zq14_v70
                      have zq15_v74 := congrArg Int32.toInt hq15_v74
                      try clear zq15_v70
                      have zq17_v74 := congrArg Int32.toInt hq17_v74
                      try clear zq17_v70
                      have zq18_v74 := congrArg Int32.toInt hq18_v74
                      try clear zq18_v70
                      have zq35_v74 := congrArg Int32.toInt hq35_v74
                      try clear zq35_v70
                      have zq36_v74 := congrArg Int32.toInt hq36_v74
                      try clear zq36_v70
                      refine lv_iload_n hx hb dX11_regiment_190 rfl (lv_at hl 0 rfl) ?_
                      refine lv_aload_n hx hb dX11_regiment_191 rfl (lv_at hl 1 rfl) ?_
                      refine va_get (D := (dC, dI)) (ci := 11) (v := .int (v74 25)) (C := RX11) (T := TX11) (N := 79) hx hb hts inB_11 hown hE.1 hP 0 rfl rfl 49 (by decide) (hts _ k_1369) (fun _ h9 => h9) rfl dX11_regiment_192 ?_
                      refine tI (y := (v2 18)) hq25_v74 ?_
                      have b18_v2 : 0 ≤ (v2 18).toInt ∧ (v2 18).toInt ≤ 6 := YIb.b hIv2.1 18 (by decide)
                      refine lv_icmp_ge (tgt := 252) hx hb dX11_regiment_195 (by decide) (fun c75 => ?_) (fun c75 => ?_)
                      · skip
                        have zc75 : (v2 18).toInt ≤ l1_74.toInt := by rw [fa_le] at c75; exact c75
                        have rg76 := fb_rng l1_74
                        have rg77 := fb_rng (v2 18)
                        refine lv_aload_n hx hb dX11_regiment_252 rfl (lv_at hl 1 rfl) ?_
                        refine cbVv (n := 0) (rest := []) hx hb hml hown hts hE hP hD hS hA (sY_X11_begin_1 NF l dC dI cy y0 r  v74 f74 w74 g74 hIv74 hCf74 hRf74 ) k_1716 k_1718 k_68 k_114 k_1719 (by decide +kernel) ⟨Nat.le_of_ble_eq_true rfl, Nat.le_of_ble_eq_true rfl⟩ 0 11 rfl rfl (rfl) hl.1 rfl (Nat.le_of_ble_eq_true rfl) dX11_regiment_253 (fun u H locs hw hP hD hS => ?_)
                        obtain ⟨hG78, hw⟩ := hw
                        obtain ⟨v79, f80, w81, g82⟩ := u
                        obtain ⟨kV_v79, kF_f80, hIv79, hCf80, hRf80, hk0_v79, hk1_v79, hk2_v79, hk3_v79, hk4_v79, hk5_v79, hk8_v79, hk9_v79, hk10_v79, hk13_v79, hk14_v79, hk15_v79, hk17_v79, hk18_v79, hk24_v79, hk25_v79, hk35_v79, hk36_v79, hk38_v79, hk39_v79⟩ := hw
                        have hM_v79 : KV [0, 1, 2, 3, 4, 5, 6, 7, 8, 9, 10, 11, 12, 13, 14, 15, 16, 17, 18, 19, 20, 21, 22, 23, 24, 25, 26, 27, 28, 29, 30, 31, 32, 33, 34, 35, 36, 37, 38] v79 v := KV.tr kV_v79 hM_v74 (by decide +kernel)
                        have hA_f80 : KF [2, 3, 4, 5, 6, 9, 10, 11, 12, 13, 14, 15, 16, 17, 18, 19, 20, 21, 22, 23, 24, 36] f80 f := KF.tr kF_f80 hA_f74 (by decide +kernel)
                        have hP : va_P (dC, dI) vwCl (YW cy y0 r v79 f80 w81 g82) H := hP
                        have hD : va_D A (YW cy y0 r v79 f80 w81 g82) := hD
                        have hUv79 : (v79 35).toInt + (v79 36).toInt ≤ 40 := hIv79.2
                        have hq0_v79 : v79 0 = (v2 0) := hk0_v79.trans hq0_v74
                        have zq0_v79 := congrArg Int32.toInt hq0_v79
                        try clear zq0_v74
                        have hq1_v79 : v79 1 = (v2 1) := hk1_v79.trans hq1_v74
                        have zq1_v79 := congrArg Int32.toInt hq1_v79
                        try clear zq1_v74
                        have hq2_v79 : v79 2 = (v2 2) := hk2_v79.trans hq2_v74
                        have hq3_v79 : v79 3 = (v2 3) := hk3_v79.trans hq3_v74
                        have hq4_v79 : v79 4 = (v2 4) := hk4_v79.trans hq4_v74
                        have hq5_v79 : v79 5 = (v2 5) := hk5_v79.trans hq5_v74
                        have hq8_v79 : v79 8 = (v2 8) := hk8_v79.trans hq8_v74
                        have zq8_v79 := congrArg Int32.toInt hq8_v79
                        try clear zq8_v74
                        have hq9_v79 : v79 9 = (v2 8) := hk9_v79.trans hq9_v74
                        have zq9_v79 := congrArg Int32.toInt hq9_v79
                        try clear zq9_v74
                        have hq10_v79 : v79 10 = (v2 10) := hk10_v79.trans hq10_v74
                        have zq10_v79 := congrArg Int32.toInt hq10_v79
                        try clear zq10_v74
                        have hq13_v79 : v79 13 = (v2 13) := hk13_v79.trans hq13_v74
                        have zq13_v79 := congrArg Int32.toInt hq13_v79
                        try clear zq13_v74
                        have hq14_v79 : v79 14 = (v2 14) := hk14_v79.trans hq14_v74
                        have zq14_v79 := congrArg Int32.toInt hq14_v79
                        try clear zq14_v74
                        have hq15_v79 : v79 15 = (v2 15) := hk15_v79.trans hq15_v74
                        have zq15_v79 := congrArg Int32.toInt hq15_v79
                        try clear zq15_v74
                        have hq17_v79 : v79 17 = (v2 17) := hk17_v79.trans hq17_v74
                        have zq17_v79 := congrArg Int32.toInt hq17_v79
                        try clear zq17_v74
                        have hq18_v79 : v79 18 = (v2 18) := hk18_v79.trans hq18_v74
                        have zq18_v79 := congrArg Int32.toInt hq18_v79
                        try clear zq18_v74
                        have hq24_v79 : v79 24 = (v2 17) := hk24_v79.trans hq24_v74
                        have hq25_v79 : v79 25 = (v2 18) := hk25_v79.trans hq25_v74
                        have hq35_v79 : v79 35 = (v 35) := hk35_v79.trans hq35_v74
                        have zq35_v79 := congrArg Int32.toInt hq35_v79
                        try clear zq35_v74
                        have hq36_v79 : v79 36 = (v 36) := hk36_v79.trans hq36_v74
                        have zq36_v79 := congrArg Int32.toInt hq36_v79
                        try clear zq36_v74
                        have hq39_v79 : v79 39 = (v 39) := hk39_v79.trans hq39_v74
                        refine lv_aload_n hx hb dX11_regiment_256 rfl (lv_at hl 1 rfl) ?_
                        refine va_get (D := (dC, dI)) (ci := 11) (v := .ref (r 60)) (C := RX11) (T := TX11) (N := 79) hx hb hts inB_11 hown hE.1 hP 0 rfl rfl 60 (by decide) (hts _ k_1380) (fun _ h9 => h9) rfl dX11_regiment_257 ?_
                        refine lv_bipush (v := 38) hx hb dX11_regiment_260 (by decide) ?_
                        refine lv_aload_n hx hb dX11_regiment_262 rfl (lv_at hl 1 rfl) ?_
                        refine va_get (D := (dC, dI)) (ci := 11) (v := .int (v79 23)) (C := RX11) (T := TX11) (N := 79) hx hb hts inB_11 hown hE.1 hP 0 rfl rfl 47 (by decide) (hts _ k_1367) (fun _ h9 => h9) rfl dX11_regiment_263 ?_
                        refine stI hx hb hE hP hD hS 25 rfl (vp_in_nI (n := 38) (by decide) (by decide)) rfl dX11_regiment_266 (fun H locs hP hD hS => ?_)
                        obtain ⟨f83, ef83, hP, hD⟩ : ∃ fz9, fz9 = upd2 f80 24 (upd (f80 24) (38 : Int32).toNatClampNeg (v79 23)) ∧ va_P (dC, dI) vwCl (YW cy y0 r v79 fz9 w81 g82) H ∧ va_D A (YW cy y0 r v79 fz9 w81 g82) := ⟨_, rfl, hP, hD⟩
                        have hCf83 : YC f83 := by rw [ef83]; exact ⟨hCf80.1, (wear_st hCf80.2.1 (by show 38 % 39 < 6 ∨ 12 ≤ 38 % 39 ∨ (-1 ≤ (v79 23).toInt ∧ (v79 23).toInt ≤ 5); omega)), hCf80.2.2.1, hCf80.2.2.2.1, hCf80.2.2.2.2.1, hCf80.2.2.2.2.2⟩
                        have hRf83 : progOK (f83 4) (f83 5) (v79 9).toInt.toNat := by rw [ef83]; exact hRf80
                        have hs2_f83 : f83 2 = (f80 2) := by rw [ef83]; exact rfl
                        have hs3_f83 : f83 3 = (f80 3) := by rw [ef83]; exact rfl
                        have hs4_f83 : f83 4 = (f80 4) := by rw [ef83]; exact rfl
                        have hs5_f83 : f83 5 = (f80 5) := by rw [ef83]; exact rfl
                        have hA_f83 : KF [2, 3, 4, 5, 6, 9, 10, 11, 12, 13, 14, 15, 16, 17, 18, 19, 20, 21, 22, 23, 24, 36] f83 f := by rw [ef83]; exact KF.up hA_f80 rfl
                        refine lv_aload_n hx hb dX11_regiment_267 rfl (lv_at hl 1 rfl) ?_
                        refine cbVv (n := 0) (rest := []) hx hb hml hown hts hE hP hD hS hA (sY_X11_keepAir_1 NF l dC dI cy y0 r  v79 f83 w81 g82 hIv79 hCf83 hRf83 ) k_1720 k_1722 k_69 k_114 k_1723 (by decide +kernel) ⟨Nat.le_of_ble_eq_true rfl, Nat.le_of_ble_eq_true rfl⟩ 0 11 rfl rfl (rfl) hl.1 rfl (Nat.le_of_ble_eq_true rfl) dX11_regiment_268 (fun u H locs hw hP hD hS => ?_)
                        obtain ⟨hG84, hw⟩ := hw
                        obtain ⟨v85, f86, w87, g88⟩ := u
                        obtain ⟨kV_v85, kF_f86, hIv85, hCf86, hRf86, hk0_v85, hk1_v85, hk2_v85, hk3_v85, hk4_v85, hk5_v85, hk8_v85, hk9_v85, hk10_v85, hk13_v85, hk14_v85, hk15_v85, hk17_v85, hk18_v85, hk24_v85, hk25_v85, hk35_v85, hk36_v85, hk38_v85, hk39_v85⟩ := hw
                        have hM_v85 : KV [0, 1, 2, 3, 4, 5, 6, 7, 8, 9, 10, 11, 12, 13, 14, 15, 16, 17, 18, 19, 20, 21, 22, 23, 24, 25, 26, 27, 28, 29, 30, 31, 32, 33, 34, 35, 36, 37, 38] v85 v := KV.tr kV_v85 hM_v79 (by decide +kernel)
                        have hA_f86 : KF [2, 3, 4, 5, 6, 9, 10, 11, 12, 13, 14, 15, 16, 17, 18, 19, 20, 21, 22, 23, 24, 36] f86 f := KF.tr kF_f86 hA_f83 (by decide +kernel)
                        have hP : va_P (dC, dI) vwCl (YW cy y0 r v85 f86 w87 g88) H := hP
                        have hD : va_D A (YW cy y0 r v85 f86 w87 g88) := hD
                        have hUv85 : (v85 35).toInt + (v85 36).toInt ≤ 40 := hIv85.2
                        have hq0_v85 : v85 0 = (v2 0) := hk0_v85.trans hq0_v79
                        have zq0_v85 := congrArg Int32.toInt hq0_v85
                        try clear zq0_v79
                        have hq1_v85 : v85 1 = (v2 1) := hk1_v85.trans hq1_v79
                        have zq1_v85 := congrArg Int32.toInt hq1_v85
                        try clear zq1_v79
                        have hq2_v85 : v85 2 = (v2 2) := hk2_v85.trans hq2_v79
                        have hq3_v85 : v85 3 = (v2 3) := hk3_v85.trans hq3_v79
                        have hq4_v85 : v85 4 = (v2 4) := hk4_v85.trans hq4_v79
                        have hq5_v85 : v85 5 = (v2 5) := hk5_v85.trans hq5_v79
                        have hq8_v85 : v85 8 = (v2 8) := hk8_v85.trans hq8_v79
                        have zq8_v85 := congrArg Int32.toInt hq8_v85
                        try clear zq8_v79
                        have hq9_v85 : v85 9 = (v2 8) := hk9_v85.trans hq9_v79
                        have zq9_v85 := congrArg Int32.toInt hq9_v85
                        try clear zq9_v79
                        have hq10_v85 : v85 10 = (v2 10) := hk10_v85.trans hq10_v79
                        have zq10_v85 := congrArg Int32.toInt hq10_v85
                        try clear zq10_v79
                        have hq13_v85 : v85 13 = (v2 13) := hk13_v85.trans hq13_v79
                        have zq13_v85 := congrArg Int32.toInt hq13_v85
                        try clear zq13_v79
                        have hq14_v85 : v85 14 = (v2 14) := hk14_v85.trans hq14_v79
                        have zq14_v85 := congrArg Int32.toInt hq14_v85
                        try clear zq14_v79
                        have hq15_v85 : v85 15 = (v2 15) := hk15_v85.trans hq15_v79
                        have zq15_v85 := congrArg Int32.toInt hq15_v85
                        try clear zq15_v79
                        have hq17_v85 : v85 17 = (v2 17) := hk17_v85.trans hq17_v79
                        have zq17_v85 := congrArg Int32.toInt hq17_v85
                        try clear zq17_v79
                        have hq18_v85 : v85 18 = (v2 18) := hk18_v85.trans hq18_v79
                        have zq18_v85 := congrArg Int32.toInt hq18_v85
                        try clear zq18_v79
                        have hq24_v85 : v85 24 = (v2 17) := hk24_v85.trans hq24_v79
                        have hq25_v85 : v85 25 = (v2 18) := hk25_v85.trans hq25_v79
                        have hq35_v85 : v85 35 = (v 35) := hk35_v85.trans hq35_v79
                        have zq35_v85 := congrArg Int32.toInt hq35_v85
                        try clear zq35_v79
                        have hq36_v85 : v85 36 = (v 36) := hk36_v85.trans hq36_v79
                        have zq36_v85 := congrArg Int32.toInt hq36_v85
                        try clear zq36_v79
                        have hq39_v85 : v85 39 = (v 39) := hk39_v85.trans hq39_v79
                        refine lv_aload_n hx hb dX11_regiment_271 rfl (lv_at hl 1 rfl) ?_
                        refine lv_iconst (v := 0) hx hb dX11_regiment_272 (by decide) ?_
                        refine va_put (D := (dC, dI)) (ci := 11) (v := .int 0) (ty := tyX11 62) (C := RX11) (T := TX11) (N := 79) hx hb hts inB_11 tyX11 tyX11_ok nmX11 hown hE.1 hP hD hS 0 rfl rfl 62 (by decide) (hts _ k_1382) (fun _ h9 => h9) rfl (tyX11_ok 62 (by decide)) rfl rfl (Nat.le_of_ble_eq_true rfl) dX11_regiment_273 (fun H locs hP hD hS => ?_)
                        have hP : va_P (dC, dI) vwCl (YW cy y0 r (upd v85 35 0) f86 w87 g88) H := hP
                        have hD : va_D A (YW cy y0 r (upd v85 35 0) f86 w87 g88) := hD
                        refine lv_aload_n hx hb dX11_regiment_276 rfl (lv_at hl 1 rfl) ?_
                        refine lv_iconst (v := 0) hx hb dX11_regiment_277 (by decide) ?_
                        refine va_put (D := (dC, dI)) (ci := 11) (v := .int 0) (ty := tyX11 63) (C := RX11) (T := TX11) (N := 79) hx hb hts inB_11 tyX11 tyX11_ok nmX11 hown hE.1 hP hD hS 0 rfl rfl 63 (by decide) (hts _ k_1383) (fun _ h9 => h9) rfl (tyX11_ok 63 (by decide)) rfl rfl (Nat.le_of_ble_eq_true rfl) dX11_regiment_278 (fun H locs hP hD hS => ?_)
                        have hP : va_P (dC, dI) vwCl (YW cy y0 r (upd (upd v85 35 0) 36 0) f86 w87 g88) H := hP
                        have hD : va_D A (YW cy y0 r (upd (upd v85 35 0) 36 0) f86 w87 g88) := hD
                        refine lv_aload_n hx hb dX11_regiment_281 rfl (lv_at hl 1 rfl) ?_
                        refine lv_iconst (v := 0) hx hb dX11_regiment_282 (by decide) ?_
                        refine va_put (D := (dC, dI)) (ci := 11) (v := .int 0) (ty := tyX11 73) (C := RX11) (T := TX11) (N := 79) hx hb hts inB_11 tyX11 tyX11_ok nmX11 hown hE.1 hP hD hS 0 rfl rfl 73 (by decide) (hts _ k_1393) (fun _ h9 => h9) rfl (tyX11_ok 73 (by decide)) rfl rfl (Nat.le_of_ble_eq_true rfl) dX11_regiment_283 (fun H locs hP hD hS => ?_)
                        have hP : va_P (dC, dI) vwCl (YW cy y0 r (upd (upd (upd v85 35 0) 36 0) 38 0) f86 w87 g88) H := hP
                        have hD : va_D A (YW cy y0 r (upd (upd (upd v85 35 0) 36 0) 38 0) f86 w87 g88) := hD
                        refine lv_aload_n hx hb dX11_regiment_286 rfl (lv_at hl 1 rfl) ?_
                        refine lv_iconst (v := 0) hx hb dX11_regiment_287 (by decide) ?_
                        refine va_put (D := (dC, dI)) (ci := 11) (v := .int 0) (ty := tyX11 67) (C := RX11) (T := TX11) (N := 79) hx hb hts inB_11 tyX11 tyX11_ok nmX11 hown hE.1 hP hD hS 0 rfl rfl 67 (by decide) (hts _ k_1387) (fun _ h9 => h9) rfl (tyX11_ok 67 (by decide)) rfl rfl (Nat.le_of_ble_eq_true rfl) dX11_regiment_288 (fun H locs hP hD hS => ?_)
                        have hP : va_P (dC, dI) vwCl (YW cy y0 r (upd (upd (upd (upd v85 35 0) 36 0) 38 0) 37 0) f86 w87 g88) H := hP
                        have hD : va_D A (YW cy y0 r (upd (upd (upd (upd v85 35 0) 36 0) 38 0) 37 0) f86 w87 g88) := hD
                        refine lv_iconst (v := 0) hx hb dX11_regiment_291 (by decide) ?_
                        refine lv_istore_n (lv' := [(1, .int 0), (0, .ref y0)]) hx hb dX11_regiment_292 rfl hl (by decide) rfl (fun ls hl => ?_)
                        have lp89 : ∀ (n89 : Nat) (l1_89 : Int32) (v89 : Nat → Int32) (f89 : Nat → Nat → Int32) (w89 : Int64) (g89 : Nat → Int64), YI v89 → YC f89 → progOK (f89 4) (f89 5) (v89 9).toInt.toNat → v89 0 = (v2 0) → v89 1 = (v2 1) → v89 2 = (v2 2) → v89 3 = (v2 3) → v89 4 = (v2 4) → v89 5 = (v2 5) → v89 8 = (v2 8) → v89 9 = (v2 8) → v89 10 = (v2 10) → v89 13 = (v2 13) → v89 14 = (v2 14) → v89 15 = (v2 15) → v89 17 = (v2 17) → v89 18 = (v2 18) → v89 24 = (v2 17) → v89 25 = (v2 18) → v89 35 = 0 → v89 36 = 0 → v89 38 = 0 → v89 39 = (v 39) → gsY_X11_regiment_1_L89 NF v2 n89 l1_89 v89 f89 w89 g89 = (gsY_X11_regiment_1 NF v f w g) → ((0 : Int) ≤ l1_89.toInt ∧ l1_89.toInt ≤ 2147483647) → KV [0, 1, 2, 3, 4, 5, 6, 7, 8, 9, 10, 11, 12, 13, 14, 15, 16, 17, 18, 19, 20, 21, 22, 23, 24, 25, 26, 27, 28, 29, 30, 31, 32, 33, 34, 35, 36, 37, 38] v89 v → KF [2, 3, 4, 5, 6, 9, 10, 11, 12, 13, 14, 15, 16, 17, 18, 19, 20, 21, 22, 23, 24, 36] f89 f → f89 2 = (f86 2) → f89 3 = (f86 3) → f89 4 = (f86 4) → f89 5 = (f86 5) → (2147483647 - l1_89.toInt).toNat < n89 → ∀ (H : Heap) (locs : List Loc) (ls : Array Slot), va_P (dC, dI) vwCl (YW cy y0 r v89 f89 w89 g89) H → va_D A (YW cy y0 r v89 f89 w89 g89) → va_S A s.heap H locs → lv_has ls 2 [(1, .int l1_89), (0, .ref y0)] → W p l e { frames := 9, cells := 0, slots := 0, locals := 232 } s m ([.ref y0] : List Value).toArray below meth c H locs 0 0 Q (F0 m 293 ls []) := by
                          intro n89
                          induction n89 with
                          | zero => intro l1_89 v89 f89 w89 g89 hIv89 hCf89 hRf89 hq0_v89 hq1_v89 hq2_v89 hq3_v89 hq4_v89 hq5_v89 hq8_v89 hq9_v89 hq10_v89 hq13_v89 hq14_v89 hq15_v89 hq17_v89 hq18_v89 hq24_v89 hq25_v89 hq35_v89 hq36_v89 hq38_v89 hq39_v89 hT89 hr1_89 hM_v89 hA_f89 hs2_f89 hs3_f89 hs4_f89 hs5_f89 hm; exact absurd hm (Nat.not_lt_zero _)
                          | succ n89 ih89 =>
                            intro l1_89 v89 f89 w89 g89 hIv89 hCf89 hRf89 hq0_v89 hq1_v89 hq2_v89 hq3_v89 hq4_v89 hq5_v89 hq8_v89 hq9_v89 hq10_v89 hq13_v89 hq14_v89 hq15_v89 hq17_v89 hq18_v89 hq24_v89 hq25_v89 hq35_v89 hq36_v89 hq38_v89 hq39_v89 hT89 hr1_89 hM_v89 hA_f89 hs2_f89 hs3_f89 hs4_f89 hs5_f89 hm89 H locs ls hP hD hS hl
                            have hUv89 : (v89 35).toInt + (v89 36).toInt ≤ 40 := hIv89.2
                            have zq0_v89 := congrArg Int32.toInt hq0_v89
                            try clear zq0_v85
                            have zq1_v89 := congrArg Int32.toInt hq1_v89
                            try clear zq1_v85
                            have zq8_v89 := congrArg Int32.toInt hq8_v89
                            try clear zq8_v85
                            have zq9_v89 := congrArg Int32.toInt hq9_v89
                            try clear zq9_v85
                            have zq10_v89 := congrArg Int32.toInt hq10_v89
                            try clear zq10_v85
                            have zq13_v89 := congrArg Int32.toInt hq13_v89
                            try clear zq13_v85
                            have zq14_v89 := congrArg Int32.toInt hq14_v89
                            try clear zq14_v85
                            have zq15_v89 := congrArg Int32.toInt hq15_v89
                            try clear zq15_v85
                            have zq17_v89 := congrArg Int32.toInt hq17_v89
                            try clear zq17_v85
                            have zq18_v89 := congrArg Int32.toInt hq18_v89
                            try clear zq18_v85
                            have zq35_v89 : (v89 35).toInt = 0 := by rw [hq35_v89]; decide
                            try clear zq35_v85
                            have zq36_v89 : (v89 36).toInt = 0 := by rw [hq36_v89]; decide
                            try clear zq36_v85
                            have zq38_v89 : (v89 38).toInt = 0 := by rw [hq38_v89]; decide
                            refine lv_iload_n hx hb dX11_regiment_293 rfl (lv_at hl 0 rfl) ?_
                            refine lv_iconst (v := 3) hx hb dX11_regiment_294 (by decide) ?_
                            refine lv_icmp_ge (tgt := 311) hx hb dX11_regiment_295 (by decide) (fun c90 => ?_) (fun c90 => ?_)
                            · skip
                              have zc90 : 3 ≤ l1_89.toInt := by rw [fa_le, show (3 : Int32).toInt = 3 from by decide] at c90; exact c90
                              refine lv_aload_n hx hb dX11_regiment_311 rfl (lv_at hl 1 rfl) ?_
                              refine va_get (D := (dC, dI)) (ci := 11) (v := .int (v89 24)) (C := RX11) (T := TX11) (N := 79) hx hb hts inB_11 hown hE.1 hP 0 rfl rfl 48 (by decide) (hts _ k_1368) (fun _ h9 => h9) rfl dX11_regiment_312 ?_
                              refine tI (y := (v2 17)) hq24_v89 ?_
                              have b17_v2 : 0 ≤ (v2 17).toInt ∧ (v2 17).toInt ≤ 6 := YIb.b hIv2.1 17 (by decide)
                              exact ret (v2 17) (v89, f89, w89, g89) _ _ _ _ _ _ rfl ⟨(hT89.symm.trans (gsY_X11_regiment_1_q9 c90)), hM_v89, hA_f89, hIv89, hCf89, hRf89, hq39_v89, (by show (v89 0).toInt = 0; omega), (Or.inl (by rw [hG1]; exact c8))⟩ hP hD hS dX11_regiment_315 (Nat.le_refl _) (Nat.le_refl _)
                            · skip
                              have zc90 : ¬ (3 ≤ l1_89.toInt) := by rw [fa_le, show (3 : Int32).toInt = 3 from by decide] at c90; exact c90
                              refine lv_aload_n hx hb dX11_regiment_298 rfl (lv_at hl 1 rfl) ?_
                              refine va_get (D := (dC, dI)) (ci := 11) (v := .ref (r 77)) (C := RX11) (T := TX11) (N := 79) hx hb hts inB_11 hown hE.1 hP 0 rfl rfl 77 (by decide) (hts _ k_1397) (fun _ h9 => h9) rfl dX11_regiment_299 ?_
                              refine lv_iload_n hx hb dX11_regiment_302 rfl (lv_at hl 0 rfl) ?_
                              refine lv_iconst (v := 0) hx hb dX11_regiment_303 (by decide) ?_
                              refine stZ hx hb hE hP hD hS 37 rfl (vp_in_iff.mpr ⟨by omega, by omega⟩) rfl dX11_regiment_304 (fun H locs hP hD hS => ?_)
                              obtain ⟨f91, ef91, hP, hD⟩ : ∃ fz9, fz9 = upd2 f89 36 (upd (f89 36) l1_89.toNatClampNeg (vp_nar .boolean 0)) ∧ va_P (dC, dI) vwCl (YW cy y0 r v89 fz9 w89 g89) H ∧ va_D A (YW cy y0 r v89 fz9 w89 g89) := ⟨_, rfl, hP, hD⟩
                              have hCf91 : YC f91 := by rw [ef91]; exact hCf89
                              have hRf91 : progOK (f91 4) (f91 5) (v89 9).toInt.toNat := by rw [ef91]; exact hRf89
                              have hs2_f91 : f91 2 = (f86 2) := by rw [ef91]; exact hs2_f89
                              have hs3_f91 : f91 3 = (f86 3) := by rw [ef91]; exact hs3_f89
                              have hs4_f91 : f91 4 = (f86 4) := by rw [ef91]; exact hs4_f89
                              have hs5_f91 : f91 5 = (f86 5) := by rw [ef91]; exact hs5_f89
                              have hA_f91 : KF [2, 3, 4, 5, 6, 9, 10, 11, 12, 13, 14, 15, 16, 17, 18, 19, 20, 21, 22, 23, 24, 36] f91 f := by rw [ef91]; exact KF.up hA_f89 rfl
                              obtain ⟨t92, et92⟩ : ∃ y : Int32, y = l1_89 + 1 := ⟨_, rfl⟩
                              have rg93 := fb_rng l1_89
                              have zt92 : t92.toInt = l1_89.toInt + 1 := by rw [et92]; exact add_i rfl (by decide) (by omega) (by omega)
                              refine lv_iinc (v := t92) (lv' := [(1, .int t92), (0, .ref y0)]) hx hb dX11_regiment_305 hl (k := 0) rfl (by rw [et92]; rfl) (by decide) rfl (fun ls hl => ?_)
                              refine lv_goto (tgt := 293) hx hb dX11_regiment_308 (by decide) ?_
                              have rg94 := fb_rng t92
                              exact ih89 t92 v89 f91 w89 g89 hIv89 hCf91 hRf91 hq0_v89 hq1_v89 hq2_v89 hq3_v89 hq4_v89 hq5_v89 hq8_v89 hq9_v89 hq10_v89 hq13_v89 hq14_v89 hq15_v89 hq17_v89 hq18_v89 hq24_v89 hq25_v89 hq35_v89 hq36_v89 hq38_v89 hq39_v89 ((gsY_X11_regiment_1_q10 c90 ef91 et92).symm.trans hT89) ⟨show (0 : Int) ≤ t92.toInt by omega, show t92.toInt ≤ (2147483647 : Int) by omega⟩ hM_v89 hA_f91 hs2_f91 hs3_f91 hs4_f91 hs5_f91 (by show (2147483647 - t92.toInt).toNat < n89; omega) _ _ _ hP hD hS (lv_sub hl [0, 1] rfl)
                        exact lp89 (4294967296 + NF) 0 (upd (upd (upd (upd v85 35 0) 36 0) 38 0) 37 0) f86 w87 g88 ⟨(YIb.upd (j := 37) (x := 0) (YIb.upd (j := 38) (x := 0) (YIb.upd (j := 36) (x := 0) (YIb.upd (j := 35) (x := 0) hIv85.1 (by decide) (by decide)) (by decide) (by decide)) (by decide) (by decide)) (by decide) (by decide)), (by have q9 := hIv85.2; have q0 : (0 : Int32).toInt = 0 := (by decide); show (0 : Int32).toInt + (0 : Int32).toInt ≤ 40; omega)⟩ hCf86 hRf86 hq0_v85 hq1_v85 hq2_v85 hq3_v85 hq4_v85 hq5_v85 hq8_v85 hq9_v85 hq10_v85 hq13_v85 hq14_v85 hq15_v85 hq17_v85 hq18_v85 hq24_v85 hq25_v85 rfl rfl rfl hq39_v85 ((gsY_X11_regiment_1_q11 c75 hG78 ef83 hG84).symm.trans hT74) ⟨by decide, by decide⟩ (KV.up (j := 37) (x := 0) (KV.up (j := 38) (x := 0) (KV.up (j := 36) (x := 0) (KV.up (j := 35) (x := 0) hM_v85 (by decide +kernel)) (by decide +kernel)) (by decide +kernel)) (by decide +kernel)) hA_f86 rfl rfl rfl rfl (by have q1 : (0 : Int32).toInt = 0 := (by decide); have qc0 : (0 : Int32).toInt = 0 := (by decide); show (2147483647 - (0 : Int32).toInt).toNat < 4294967296 + NF; omega) _ _ _ hP hD hS (lv_sub hl [0, 1] rfl)
                      · skip
                        have zc75 : ¬ ((v2 18).toInt ≤ l1_74.toInt) := by rw [fa_le] at c75; exact c75
                        have rg95 := fb_rng l1_74
                        have rg96 := fb_rng (v2 18)
                        refine lv_aload_n hx hb dX11_regiment_198 rfl (lv_at hl 1 rfl) ?_
                        refine va_get (D := (dC, dI)) (ci := 11) (v := .ref (r 37)) (C := RX11) (T := TX11) (N := 79) hx hb hts inB_11 hown hE.1 hP 0 rfl rfl 37 (by decide) (hts _ k_1357) (fun _ h9 => h9) rfl dX11_regiment_199 ?_
                        refine lv_iload_n hx hb dX11_regiment_202 rfl (lv_at hl 0 rfl) ?_
                        refine lv_aload_n hx hb dX11_regiment_203 rfl (lv_at hl 1 rfl) ?_
                        refine va_get (D := (dC, dI)) (ci := 11) (v := .ref (r 30)) (C := RX11) (T := TX11) (N := 79) hx hb hts inB_11 hown hE.1 hP 0 rfl rfl 30 (by decide) (hts _ k_1350) (fun _ h9 => h9) rfl dX11_regiment_204 ?_
                        refine lv_iload_n hx hb dX11_regiment_207 rfl (lv_at hl 0 rfl) ?_
                        refine ldI hx hb hE hP 13 rfl (vp_in_iff.mpr ⟨by omega, by omega⟩) rfl rfl dX11_regiment_208 ?_
                        refine lv_topi (fun t97 et97 => ?_)
                        refine stI hx hb hE hP hD hS 20 rfl (vp_in_iff.mpr ⟨by omega, by omega⟩) rfl dX11_regiment_209 (fun H locs hP hD hS => ?_)
                        obtain ⟨f98, ef98, hP, hD⟩ : ∃ fz9, fz9 = upd2 f74 19 (upd (f74 19) l1_74.toNatClampNeg t97) ∧ va_P (dC, dI) vwCl (YW cy y0 r v74 fz9 w74 g74) H ∧ va_D A (YW cy y0 r v74 fz9 w74 g74) := ⟨_, rfl, hP, hD⟩
                        have hCf98 : YC f98 := by rw [ef98]; exact hCf74
                        have hRf98 : progOK (f98 4) (f98 5) (v74 9).toInt.toNat := by rw [ef98]; exact hRf74
                        have hs2_f98 : f98 2 = (f3 2) := by rw [ef98]; exact hs2_f74
                        have hs3_f98 : f98 3 = (f3 3) := by rw [ef98]; exact hs3_f74
                        have hs4_f98 : f98 4 = (f74 4) := by rw [ef98]; exact rfl
                        have hs5_f98 : f98 5 = (f74 5) := by rw [ef98]; exact rfl
                        have hA_f98 : KF [2, 3, 4, 5, 6, 9, 10, 11, 12, 13, 14, 15, 16, 17, 18, 19, 20, 21, 22, 23, 24, 36] f98 f := by rw [ef98]; exact KF.up hA_f74 rfl
                        refine lv_aload_n hx hb dX11_regiment_210 rfl (lv_at hl 1 rfl) ?_
                        refine va_get (D := (dC, dI)) (ci := 11) (v := .ref (r 38)) (C := RX11) (T := TX11) (N := 79) hx hb hts inB_11 hown hE.1 hP 0 rfl rfl 38 (by decide) (hts _ k_1358) (fun _ h9 => h9) rfl dX11_regiment_211 ?_
                        refine lv_iload_n hx hb dX11_regiment_214 rfl (lv_at hl 0 rfl) ?_
                        refine lv_aload_n hx hb dX11_regiment_215 rfl (lv_at hl 1 rfl) ?_
                        refine va_get (D := (dC, dI)) (ci := 11) (v := .ref (r 31)) (C := RX11) (T := TX11) (N := 79) hx hb hts inB_11 hown hE.1 hP 0 rfl rfl 31 (by decide) (hts _ k_1351) (fun _ h9 => h9) rfl dX11_regiment_216 ?_
                        refine lv_iload_n hx hb dX11_regiment_219 rfl (lv_at hl 0 rfl) ?_
                        refine ldI hx hb hE hP 14 rfl (vp_in_iff.mpr ⟨by omega, by omega⟩) rfl rfl dX11_regiment_220 ?_
                        refine lv_topi (fun t99 et99 => ?_)
                        refine stI hx hb hE hP hD hS 21 rfl (vp_in_iff.mpr ⟨by omega, by omega⟩) rfl dX11_regiment_221 (fun H locs hP hD hS => ?_)
                        obtain ⟨f100, ef100, hP, hD⟩ : ∃ fz9, fz9 = upd2 f98 20 (upd (f98 20) l1_74.toNatClampNeg t99) ∧ va_P (dC, dI) vwCl (YW cy y0 r v74 fz9 w74 g74) H ∧ va_D A (YW cy y0 r v74 fz9 w74 g74) := ⟨_, rfl, hP, hD⟩
                        have hCf100 : YC f100 := by rw [ef100]; exact hCf98
                        have hRf100 : progOK (f100 4) (f100 5) (v74 9).toInt.toNat := by rw [ef100]; exact hRf98
                        have hs2_f100 : f100 2 = (f3 2) := by rw [ef100]; exact hs2_f98
                        have hs3_f100 : f100 3 = (f3 3) := by rw [ef100]; exact hs3_f98
                        have hs4_f100 : f100 4 = (f74 4) := by rw [ef100]; exact hs4_f98
                        have hs5_f100 : f100 5 = (f74 5) := by rw [ef100]; exact hs5_f98
                        have hA_f100 : KF [2, 3, 4, 5, 6, 9, 10, 11, 12, 13, 14, 15, 16, 17, 18, 19, 20, 21, 22, 23, 24, 36] f100 f := by rw [ef100]; exact KF.up hA_f98 rfl
                        refine lv_aload_n hx hb dX11_regiment_222 rfl (lv_at hl 1 rfl) ?_
                        refine va_get (D := (dC, dI)) (ci := 11) (v := .ref (r 39)) (C := RX11) (T := TX11) (N := 79) hx hb hts inB_11 hown hE.1 hP 0 rfl rfl 39 (by decide) (hts _ k_1359) (fun _ h9 => h9) rfl dX11_regiment_223 ?_
                        refine lv_iload_n hx hb dX11_regiment_226 rfl (lv_at hl 0 rfl) ?_
                        refine lv_aload_n hx hb dX11_regiment_227 rfl (lv_at hl 1 rfl) ?_
                        refine va_get (D := (dC, dI)) (ci := 11) (v := .ref (r 32)) (C := RX11) (T := TX11) (N := 79) hx hb hts inB_11 hown hE.1 hP 0 rfl rfl 32 (by decide) (hts _ k_1352) (fun _ h9 => h9) rfl dX11_regiment_228 ?_
                        refine lv_iload_n hx hb dX11_regiment_231 rfl (lv_at hl 0 rfl) ?_
                        refine ldI hx hb hE hP 15 rfl (vp_in_iff.mpr ⟨by omega, by omega⟩) rfl rfl dX11_regiment_232 ?_
                        refine lv_topi (fun t101 et101 => ?_)
                        refine stI hx hb hE hP hD hS 22 rfl (vp_in_iff.mpr ⟨by omega, by omega⟩) rfl dX11_regiment_233 (fun H locs hP hD hS => ?_)
                        obtain ⟨f102, ef102, hP, hD⟩ : ∃ fz9, fz9 = upd2 f100 21 (upd (f100 21) l1_74.toNatClampNeg t101) ∧ va_P (dC, dI) vwCl (YW cy y0 r v74 fz9 w74 g74) H ∧ va_D A (YW cy y0 r v74 fz9 w74 g74) := ⟨_, rfl, hP, hD⟩
                        have hCf102 : YC f102 := by rw [ef102]; exact hCf100
                        have hRf102 : progOK (f102 4) (f102 5) (v74 9).toInt.toNat := by rw [ef102]; exact hRf100
                        have hs2_f102 : f102 2 = (f3 2) := by rw [ef102]; exact hs2_f100
                        have hs3_f102 : f102 3 = (f3 3) := by rw [ef102]; exact hs3_f100
                        have hs4_f102 : f102 4 = (f74 4) := by rw [ef102]; exact hs4_f100
                        have hs5_f102 : f102 5 = (f74 5) := by rw [ef102]; exact hs5_f100
                        have hA_f102 : KF [2, 3, 4, 5, 6, 9, 10, 11, 12, 13, 14, 15, 16, 17, 18, 19, 20, 21, 22, 23, 24, 36] f102 f := by rw [ef102]; exact KF.up hA_f100 rfl
                        refine lv_aload_n hx hb dX11_regiment_234 rfl (lv_at hl 1 rfl) ?_
                        refine va_get (D := (dC, dI)) (ci := 11) (v := .ref (r 40)) (C := RX11) (T := TX11) (N := 79) hx hb hts inB_11 hown hE.1 hP 0 rfl rfl 40 (by decide) (hts _ k_1360) (fun _ h9 => h9) rfl dX11_regiment_235 ?_
                        refine lv_iload_n hx hb dX11_regiment_238 rfl (lv_at hl 0 rfl) ?_
                        refine lv_aload_n hx hb dX11_regiment_239 rfl (lv_at hl 1 rfl) ?_
                        refine va_get (D := (dC, dI)) (ci := 11) (v := .ref (r 33)) (C := RX11) (T := TX11) (N := 79) hx hb hts inB_11 hown hE.1 hP 0 rfl rfl 33 (by decide) (hts _ k_1353) (fun _ h9 => h9) rfl dX11_regiment_240 ?_
                        refine lv_iload_n hx hb dX11_regiment_243 rfl (lv_at hl 0 rfl) ?_
                        refine ldI hx hb hE hP 16 rfl (vp_in_iff.mpr ⟨by omega, by omega⟩) rfl rfl dX11_regiment_244 ?_
                        refine lv_topi (fun t103 et103 => ?_)
                        refine stI hx hb hE hP hD hS 23 rfl (vp_in_iff.mpr ⟨by omega, by omega⟩) rfl dX11_regiment_245 (fun H locs hP hD hS => ?_)
                        obtain ⟨f104, ef104, hP, hD⟩ : ∃ fz9, fz9 = upd2 f102 22 (upd (f102 22) l1_74.toNatClampNeg t103) ∧ va_P (dC, dI) vwCl (YW cy y0 r v74 fz9 w74 g74) H ∧ va_D A (YW cy y0 r v74 fz9 w74 g74) := ⟨_, rfl, hP, hD⟩
                        have hCf104 : YC f104 := by rw [ef104]; exact hCf102
                        have hRf104 : progOK (f104 4) (f104 5) (v74 9).toInt.toNat := by rw [ef104]; exact hRf102
                        have hs2_f104 : f104 2 = (f3 2) := by rw [ef104]; exact hs2_f102
                        have hs3_f104 : f104 3 = (f3 3) := by rw [ef104]; exact hs3_f102
                        have hs4_f104 : f104 4 = (f74 4) := by rw [ef104]; exact hs4_f102
                        have hs5_f104 : f104 5 = (f74 5) := by rw [ef104]; exact hs5_f102
                        have hA_f104 : KF [2, 3, 4, 5, 6, 9, 10, 11, 12, 13, 14, 15, 16, 17, 18, 19, 20, 21, 22, 23, 24, 36] f104 f := by rw [ef104]; exact KF.up hA_f102 rfl
                        obtain ⟨t105, et105⟩ : ∃ y : Int32, y = l1_74 + 1 := ⟨_, rfl⟩
                        have zt105 : t105.toInt = l1_74.toInt + 1 := by rw [et105]; exact add_i rfl (by decide) (by omega) (by omega)
                        refine lv_iinc (v := t105) (lv' := [(1, .int t105), (0, .ref y0)]) hx hb dX11_regiment_246 hl (k := 0) rfl (by rw [et105]; rfl) (by decide) rfl (fun ls hl => ?_)
                        refine lv_goto (tgt := 190) hx hb dX11_regiment_249 (by decide) ?_
                        have rg106 := fb_rng t105
                        exact ih74 t105 v74 f104 w74 g74 hIv74 hCf104 hRf104 hq0_v74 hq1_v74 hq2_v74 hq3_v74 hq4_v74 hq5_v74 hq8_v74 hq9_v74 hq10_v74 hq13_v74 hq14_v74 hq15_v74 hq17_v74 hq18_v74 hq24_v74 hq25_v74 hq35_v74 hq36_v74 hq38_v74 hq39_v74 ((gsY_X11_regiment_1_q12 c75 et97 ef98 et99 ef100 et101 ef102 et103 ef104 et105).symm.trans hT74) ⟨show (0 : Int) ≤ t105.toInt by omega, show t105.toInt ≤ (2147483647 : Int) by omega⟩ hM_v74 hA_f104 hs2_f104 hs3_f104 (by show (2147483647 - t105.toInt).toNat < n74; omega) _ _ _ hP hD hS (lv_sub hl [0, 1] rfl)
                  exact lp74 (4294967296 + NF) 0 v70 f70 w70 g70 hIv70 hCf70 hRf70 hq0_v70 hq1_v70 hq2_v70 hq3_v70 hq4_v70 hq5_v70 hq8_v70 hq9_v70 hq10_v70 hq13_v70 hq14_v70 hq15_v70 hq17_v70 hq18_v70 hq24_v70 hq25_v70 hq35_v70 hq36_v70 hq38_v70 hq39_v70 ((gsY_X11_regiment_1_q13 c71).symm.trans hT70) ⟨by decide, by decide⟩ hM_v70 hA_f70 hs2_f70 hs3_f70 (by have q1 : (0 : Int32).toInt = 0 := (by decide); show (2147483647 - (0 : Int32).toInt).toNat < 4294967296 + NF; omega) _ _ _ hP hD hS (lv_sub hl [0, 1] rfl)
                · skip
                  have zc71 : ¬ ((v2 17).toInt ≤ l1_70.toInt) := by rw [fa_le] at c71; exact c71
                  have rg107 := fb_rng l1_70
                  have rg108 := fb_rng (v2 17)
                  refine lv_aload_n hx hb dX11_regiment_146 rfl (lv_at hl 1 rfl) ?_
                  refine va_get (D := (dC, dI)) (ci := 11) (v := .ref (r 34)) (C := RX11) (T := TX11) (N := 79) hx hb hts inB_11 hown hE.1 hP 0 rfl rfl 34 (by decide) (hts _ k_1354) (fun _ h9 => h9) rfl dX11_regiment_147 ?_
                  refine lv_iload_n hx hb dX11_regiment_150 rfl (lv_at hl 0 rfl) ?_
                  refine lv_aload_n hx hb dX11_regiment_151 rfl (lv_at hl 1 rfl) ?_
                  refine va_get (D := (dC, dI)) (ci := 11) (v := .ref (r 27)) (C := RX11) (T := TX11) (N := 79) hx hb hts inB_11 hown hE.1 hP 0 rfl rfl 27 (by decide) (hts _ k_1347) (fun _ h9 => h9) rfl dX11_regiment_152 ?_
                  refine lv_iload_n hx hb dX11_regiment_155 rfl (lv_at hl 0 rfl) ?_
                  refine ldI hx hb hE hP 10 rfl (vp_in_iff.mpr ⟨by omega, by omega⟩) rfl rfl dX11_regiment_156 ?_
                  refine lv_topi (fun t109 et109 => ?_)
                  refine stI hx hb hE hP hD hS 17 rfl (vp_in_iff.mpr ⟨by omega, by omega⟩) rfl dX11_regiment_157 (fun H locs hP hD hS => ?_)
                  obtain ⟨f110, ef110, hP, hD⟩ : ∃ fz9, fz9 = upd2 f70 16 (upd (f70 16) l1_70.toNatClampNeg t109) ∧ va_P (dC, dI) vwCl (YW cy y0 r v70 fz9 w70 g70) H ∧ va_D A (YW cy y0 r v70 fz9 w70 g70) := ⟨_, rfl, hP, hD⟩
                  have hCf110 : YC f110 := by rw [ef110]; exact hCf70
                  have hRf110 : progOK (f110 4) (f110 5) (v70 9).toInt.toNat := by rw [ef110]; exact hRf70
                  have hs2_f110 : f110 2 = (f3 2) := by rw [ef110]; exact hs2_f70
                  have hs3_f110 : f110 3 = (f3 3) := by rw [ef110]; exact hs3_f70
                  have hs4_f110 : f110 4 = (f70 4) := by rw [ef110]; exact rfl
                  have hs5_f110 : f110 5 = (f70 5) := by rw [ef110]; exact rfl
                  have hA_f110 : KF [2, 3, 4, 5, 6, 9, 10, 11, 12, 13, 14, 15, 16, 17, 18, 19, 20, 21, 22, 23, 24, 36] f110 f := by rw [ef110]; exact KF.up hA_f70 rfl
                  refine lv_aload_n hx hb dX11_regiment_158 rfl (lv_at hl 1 rfl) ?_
                  refine va_get (D := (dC, dI)) (ci := 11) (v := .ref (r 35)) (C := RX11) (T := TX11) (N := 79) hx hb hts inB_11 hown hE.1 hP 0 rfl rfl 35 (by decide) (hts _ k_1355) (fun _ h9 => h9) rfl dX11_regiment_159 ?_
                  refine lv_iload_n hx hb dX11_regiment_162 rfl (lv_at hl 0 rfl) ?_
                  refine lv_aload_n hx hb dX11_regiment_163 rfl (lv_at hl 1 rfl) ?_
                  refine va_get (D := (dC, dI)) (ci := 11) (v := .ref (r 28)) (C := RX11) (T := TX11) (N := 79) hx hb hts inB_11 hown hE.1 hP 0 rfl rfl 28 (by decide) (hts _ k_1348) (fun _ h9 => h9) rfl dX11_regiment_164 ?_
                  refine lv_iload_n hx hb dX11_regiment_167 rfl (lv_at hl 0 rfl) ?_
                  refine ldI hx hb hE hP 11 rfl (vp_in_iff.mpr ⟨by omega, by omega⟩) rfl rfl dX11_regiment_168 ?_
                  refine lv_topi (fun t111 et111 => ?_)
                  refine stI hx hb hE hP hD hS 18 rfl (vp_in_iff.mpr ⟨by omega, by omega⟩) rfl dX11_regiment_169 (fun H locs hP hD hS => ?_)
                  obtain ⟨f112, ef112, hP, hD⟩ : ∃ fz9, fz9 = upd2 f110 17 (upd (f110 17) l1_70.toNatClampNeg t111) ∧ va_P (dC, dI) vwCl (YW cy y0 r v70 fz9 w70 g70) H ∧ va_D A (YW cy y0 r v70 fz9 w70 g70) := ⟨_, rfl, hP, hD⟩
                  have hCf112 : YC f112 := by rw [ef112]; exact hCf110
                  have hRf112 : progOK (f112 4) (f112 5) (v70 9).toInt.toNat := by rw [ef112]; exact hRf110
                  have hs2_f112 : f112 2 = (f3 2) := by rw [ef112]; exact hs2_f110
                  have hs3_f112 : f112 3 = (f3 3) := by rw [ef112]; exact hs3_f110
                  have hs4_f112 : f112 4 = (f70 4) := by rw [ef112]; exact hs4_f110
                  have hs5_f112 : f112 5 = (f70 5) := by rw [ef112]; exact hs5_f110
                  have hA_f112 : KF [2, 3, 4, 5, 6, 9, 10, 11, 12, 13, 14, 15, 16, 17, 18, 19, 20, 21, 22, 23, 24, 36] f112 f := by rw [ef112]; exact KF.up hA_f110 rfl
                  refine lv_aload_n hx hb dX11_regiment_170 rfl (lv_at hl 1 rfl) ?_
                  refine va_get (D := (dC, dI)) (ci := 11) (v := .ref (r 36)) (C := RX11) (T := TX11) (N := 79) hx hb hts inB_11 hown hE.1 hP 0 rfl rfl 36 (by decide) (hts _ k_1356) (fun _ h9 => h9) rfl dX11_regiment_171 ?_
                  refine lv_iload_n hx hb dX11_regiment_174 rfl (lv_at hl 0 rfl) ?_
                  refine lv_aload_n hx hb dX11_regiment_175 rfl (lv_at hl 1 rfl) ?_
                  refine va_get (D := (dC, dI)) (ci := 11) (v := .ref (r 29)) (C := RX11) (T := TX11) (N := 79) hx hb hts inB_11 hown hE.1 hP 0 rfl rfl 29 (by decide) (hts _ k_1349) (fun _ h9 => h9) rfl dX11_regiment_176 ?_
                  refine lv_iload_n hx hb dX11_regiment_179 rfl (lv_at hl 0 rfl) ?_
                  refine ldI hx hb hE hP 12 rfl (vp_in_iff.mpr ⟨by omega, by omega⟩) rfl rfl dX11_regiment_180 ?_
                  refine lv_topi (fun t113 et113 => ?_)
                  refine stI hx hb hE hP hD hS 19 rfl (vp_in_iff.mpr ⟨by omega, by omega⟩) rfl dX11_regiment_181 (fun H locs hP hD hS => ?_)
                  obtain ⟨f114, ef114, hP, hD⟩ : ∃ fz9, fz9 = upd2 f112 18 (upd (f112 18) l1_70.toNatClampNeg t113) ∧ va_P (dC, dI) vwCl (YW cy y0 r v70 fz9 w70 g70) H ∧ va_D A (YW cy y0 r v70 fz9 w70 g70) := ⟨_, rfl, hP, hD⟩
                  have hCf114 : YC f114 := by rw [ef114]; exact hCf112
                  have hRf114 : progOK (f114 4) (f114 5) (v70 9).toInt.toNat := by rw [ef114]; exact hRf112
                  have hs2_f114 : f114 2 = (f3 2) := by rw [ef114]; exact hs2_f112
                  have hs3_f114 : f114 3 = (f3 3) := by rw [ef114]; exact hs3_f112
                  have hs4_f114 : f114 4 = (f70 4) := by rw [ef114]; exact hs4_f112
                  have hs5_f114 : f114 5 = (f70 5) := by rw [ef114]; exact hs5_f112
                  have hA_f114 : KF [2, 3, 4, 5, 6, 9, 10, 11, 12, 13, 14, 15, 16, 17, 18, 19, 20, 21, 22, 23, 24, 36] f114 f := by rw [ef114]; exact KF.up hA_f112 rfl
                  obtain ⟨t115, et115⟩ : ∃ y : Int32, y = l1_70 + 1 := ⟨_, rfl⟩
                  have zt115 : t115.toInt = l1_70.toInt + 1 := by rw [et115]; exact add_i rfl (by decide) (by omega) (by omega)
                  refine lv_iinc (v := t115) (lv' := [(1, .int t115), (0, .ref y0)]) hx hb dX11_regiment_182 hl (k := 0) rfl (by rw [et115]; rfl) (by decide) rfl (fun ls hl => ?_)
                  refine lv_goto (tgt := 138) hx hb dX11_regiment_185 (by decide) ?_
                  have rg116 := fb_rng t115
                  exact ih70 t115 v70 f114 w70 g70 hIv70 hCf114 hRf114 hq0_v70 hq1_v70 hq2_v70 hq3_v70 hq4_v70 hq5_v70 hq8_v70 hq9_v70 hq10_v70 hq13_v70 hq14_v70 hq15_v70 hq17_v70 hq18_v70 hq24_v70 hq25_v70 hq35_v70 hq36_v70 hq38_v70 hq39_v70 ((gsY_X11_regiment_1_q14 c71 et109 ef110 et111 ef112 et113 ef114 et115).symm.trans hT70) ⟨show (0 : Int) ≤ t115.toInt by omega, show t115.toInt ≤ (2147483647 : Int) by omega⟩ hM_v70 hA_f114 hs2_f114 hs3_f114 (by show (2147483647 - t115.toInt).toNat < n70; omega) _ _ _ hP hD hS (lv_sub hl [0, 1] rfl)
            exact lp70 (4294967296 + NF) 0 v66 f66 w66 g66 hIv66 hCf66 hRf66 hq0_v66 hq1_v66 hq2_v66 hq3_v66 hq4_v66 hq5_v66 hq8_v66 hq9_v66 hq10_v66 hq13_v66 hq14_v66 hq15_v66 hq17_v66 hq18_v66 hq24_v66 hq25_v66 hq35_v66 hq36_v66 hq38_v66 hq39_v66 ((gsY_X11_regiment_1_q15 c67).symm.trans hT66) ⟨by decide, by decide⟩ hM_v66 hA_f66 hs2_f66 hs3_f66 (by have q1 : (0 : Int32).toInt = 0 := (by decide); show (2147483647 - (0 : Int32).toInt).toNat < 4294967296 + NF; omega) _ _ _ hP hD hS (lv_sub hl [0, 1] rfl)
          · skip
            have zc67 : ¬ ((v2 8).toInt ≤ l1_66.toInt) := by rw [fa_le] at c67; exact c67
            have rg117 := fb_rng l1_66
            have rg118 := fb_rng (v2 8)
            refine lv_aload_n hx hb dX11_regiment_106 rfl (lv_at hl 1 rfl) ?_
            refine va_get (D := (dC, dI)) (ci := 11) (v := .ref (r 13)) (C := RX11) (T := TX11) (N := 79) hx hb hts inB_11 hown hE.1 hP 0 rfl rfl 13 (by decide) (hts _ k_1333) (fun _ h9 => h9) rfl dX11_regiment_107 ?_
            refine lv_iload_n hx hb dX11_regiment_110 rfl (lv_at hl 0 rfl) ?_
            refine lv_aload_n hx hb dX11_regiment_111 rfl (lv_at hl 1 rfl) ?_
            refine va_get (D := (dC, dI)) (ci := 11) (v := .ref (r 11)) (C := RX11) (T := TX11) (N := 79) hx hb hts inB_11 hown hE.1 hP 0 rfl rfl 11 (by decide) (hts _ k_1331) (fun _ h9 => h9) rfl dX11_regiment_112 ?_
            refine lv_iload_n hx hb dX11_regiment_115 rfl (lv_at hl 0 rfl) ?_
            refine ldI hx hb hE hP 3 rfl (vp_in_iff.mpr ⟨by omega, by omega⟩) rfl rfl dX11_regiment_116 ?_
            refine lv_topi (fun t119 et119 => ?_)
            have hO2 : (f3 2) l1_66.toInt.toNat = t119 := by rw [et119, hs2_f66]; rfl
            refine stI hx hb hE hP hD hS 5 rfl (vp_in_iff.mpr ⟨by omega, by omega⟩) rfl dX11_regiment_117 (fun H locs hP hD hS => ?_)
            obtain ⟨f120, ef120, hP, hD⟩ : ∃ fz9, fz9 = upd2 f66 4 (upd (f66 4) l1_66.toNatClampNeg t119) ∧ va_P (dC, dI) vwCl (YW cy y0 r v66 fz9 w66 g66) H ∧ va_D A (YW cy y0 r v66 fz9 w66 g66) := ⟨_, rfl, hP, hD⟩
            have hCf120 : YC f120 := by rw [ef120]; exact hCf66
            have hs2_f120 : f120 2 = (f3 2) := by rw [ef120]; exact hs2_f66
            have hs3_f120 : f120 3 = (f3 3) := by rw [ef120]; exact hs3_f66
            have hs4_f120 : f120 4 = (upd (f66 4) (l1_66.toInt.toNat) t119) := by rw [ef120]; show upd (f66 4) (l1_66.toInt.toNat) t119 = _; rfl
            have hs5_f120 : f120 5 = (f66 5) := by rw [ef120]; exact rfl
            have hA_f120 : KF [2, 3, 4, 5, 6, 9, 10, 11, 12, 13, 14, 15, 16, 17, 18, 19, 20, 21, 22, 23, 24, 36] f120 f := by rw [ef120]; exact KF.up hA_f66 rfl
            refine lv_aload_n hx hb dX11_regiment_118 rfl (lv_at hl 1 rfl) ?_
            refine va_get (D := (dC, dI)) (ci := 11) (v := .ref (r 14)) (C := RX11) (T := TX11) (N := 79) hx hb hts inB_11 hown hE.1 hP 0 rfl rfl 14 (by decide) (hts _ k_1334) (fun _ h9 => h9) rfl dX11_regiment_119 ?_
            refine lv_iload_n hx hb dX11_regiment_122 rfl (lv_at hl 0 rfl) ?_
            refine lv_aload_n hx hb dX11_regiment_123 rfl (lv_at hl 1 rfl) ?_
            refine va_get (D := (dC, dI)) (ci := 11) (v := .ref (r 12)) (C := RX11) (T := TX11) (N := 79) hx hb hts inB_11 hown hE.1 hP 0 rfl rfl 12 (by decide) (hts _ k_1332) (fun _ h9 => h9) rfl dX11_regiment_124 ?_
            refine lv_iload_n hx hb dX11_regiment_127 rfl (lv_at hl 0 rfl) ?_
            refine ldI hx hb hE hP 4 rfl (vp_in_iff.mpr ⟨by omega, by omega⟩) rfl rfl dX11_regiment_128 ?_
            refine lv_topi (fun t121 et121 => ?_)
            have hO3 : (f3 3) l1_66.toInt.toNat = t121 := by rw [et121, hs3_f120]; rfl
            refine stI hx hb hE hP hD hS 6 rfl (vp_in_iff.mpr ⟨by omega, by omega⟩) rfl dX11_regiment_129 (fun H locs hP hD hS => ?_)
            obtain ⟨f122, ef122, hP, hD⟩ : ∃ fz9, fz9 = upd2 f120 5 (upd (f120 5) l1_66.toNatClampNeg t121) ∧ va_P (dC, dI) vwCl (YW cy y0 r v66 fz9 w66 g66) H ∧ va_D A (YW cy y0 r v66 fz9 w66 g66) := ⟨_, rfl, hP, hD⟩
            have hCf122 : YC f122 := by rw [ef122]; exact hCf120
            have hs2_f122 : f122 2 = (f3 2) := by rw [ef122]; exact hs2_f120
            have hs3_f122 : f122 3 = (f3 3) := by rw [ef122]; exact hs3_f120
            have hs4_f122 : f122 4 = (upd (f66 4) (l1_66.toInt.toNat) t119) := by rw [ef122]; exact hs4_f120
            have hs5_f122 : f122 5 = (upd (f66 5) (l1_66.toInt.toNat) t121) := by rw [ef122]; show upd (f120 5) (l1_66.toInt.toNat) t121 = _; rw [hs5_f120]
            have hA_f122 : KF [2, 3, 4, 5, 6, 9, 10, 11, 12, 13, 14, 15, 16, 17, 18, 19, 20, 21, 22, 23, 24, 36] f122 f := by rw [ef122]; exact KF.up hA_f120 rfl
            obtain ⟨t123, et123⟩ : ∃ y : Int32, y = l1_66 + 1 := ⟨_, rfl⟩
            have zt123 : t123.toInt = l1_66.toInt + 1 := by rw [et123]; exact add_i rfl (by decide) (by omega) (by omega)
            refine lv_iinc (v := t123) (lv' := [(1, .int t123), (0, .ref y0)]) hx hb dX11_regiment_130 hl (k := 0) rfl (by rw [et123]; rfl) (by decide) rfl (fun ls hl => ?_)
            refine lv_goto (tgt := 98) hx hb dX11_regiment_133 (by decide) ?_
            have rg124 := fb_rng t123
            exact ih66 t123 v66 f122 w66 g66 hIv66 hCf122 hq0_v66 hq1_v66 hq2_v66 hq3_v66 hq4_v66 hq5_v66 hq8_v66 hq9_v66 hq10_v66 hq13_v66 hq14_v66 hq15_v66 hq17_v66 hq18_v66 hq24_v66 hq25_v66 hq35_v66 hq36_v66 hq38_v66 hq39_v66 ((gsY_X11_regiment_1_q16 c67 et119 ef120 et121 ef122 et123).symm.trans hT66) ⟨show (0 : Int) ≤ t123.toInt by omega, show t123.toInt ≤ (2147483647 : Int) by omega⟩ (by show progOK (f122 2) (f122 3) ((v66 9).toInt).toNat; rw [hs2_f122, hs3_f122]; exact prog_n hPG (by omega)) (by show ∀ j, j < (t123.toInt).toNat → (f122 4) j = (f122 2) j ∧ (f122 5) j = (f122 3) j; rw [hs2_f122, hs3_f122, hs4_f122, hs5_f122]; exact cp_step hCP hO2 hO3 (by omega)) hM_v66 hA_f122 hs2_f122 hs3_f122 (by show (2147483647 - t123.toInt).toNat < n66; omega) _ _ _ hP hD hS (lv_sub hl [0, 1] rfl)
      exact lp66 (4294967296 + NF) 0 (upd (upd (upd (upd (upd (upd (upd (upd (upd v2 24 (v2 17)) 25 (v2 18)) 26 (v2 19)) 27 (v2 20)) 28 (v2 21)) 29 (v2 22)) 12 (v2 11)) 16 (v2 15)) 9 (v2 8)) f3 w4 g5 ⟨(YIb.upd (j := 9) (x := (v2 8)) (YIb.upd (j := 16) (x := (v2 15)) (YIb.upd (j := 12) (x := (v2 11)) (YIb.upd (j := 29) (x := (v2 22)) (YIb.upd (j := 28) (x := (v2 21)) (YIb.upd (j := 27) (x := (v2 20)) (YIb.upd (j := 26) (x := (v2 19)) (YIb.upd (j := 25) (x := (v2 18)) (YIb.upd (j := 24) (x := (v2 17)) hIv2.1 (show (0 : Int) ≤ (v2 17).toInt by omega) (show (v2 17).toInt ≤ (6 : Int) by omega)) (show (0 : Int) ≤ (v2 18).toInt by omega) (show (v2 18).toInt ≤ (6 : Int) by omega)) (rlo _) (rhi _)) (rlo _) (rhi _)) (rlo _) (rhi _)) (rlo _) (rhi _)) (rlo _) (rhi _)) (rlo _) (rhi _)) (show (0 : Int) ≤ (v2 8).toInt by omega) (show (v2 8).toInt ≤ (320 : Int) by omega)), hIv2.2⟩ hCf3 rfl rfl rfl rfl rfl rfl rfl rfl rfl rfl rfl rfl rfl rfl rfl rfl hq35_v2 hq36_v2 hq38_v2 hq39_v2 (gsY_X11_regiment_1_q17 hG1 c8 c9).symm ⟨by decide, by decide⟩ (by show progOK (f3 2) (f3 3) ((v2 8).toInt).toNat; first | exact prog_n (hPL (by omega) (by omega)) (by omega) | exact prog_0 (by decide)) (by show ∀ j, j < ((0 : Int32).toInt).toNat → (f3 4) j = (f3 2) j ∧ (f3 5) j = (f3 3) j; exact fun j hj => absurd hj (Nat.not_lt_zero _)) (KV.up (j := 9) (x := (v2 8)) (KV.up (j := 16) (x := (v2 15)) (KV.up (j := 12) (x := (v2 11)) (KV.up (j := 29) (x := (v2 22)) (KV.up (j := 28) (x := (v2 21)) (KV.up (j := 27) (x := (v2 20)) (KV.up (j := 26) (x := (v2 19)) (KV.up (j := 25) (x := (v2 18)) (KV.up (j := 24) (x := (v2 17)) hM_v2 (by decide +kernel)) (by decide +kernel)) (by decide +kernel)) (by decide +kernel)) (by decide +kernel)) (by decide +kernel)) (by decide +kernel)) (by decide +kernel)) (by decide +kernel)) hA_f3 rfl rfl (by have q1 : (0 : Int32).toInt = 0 := (by decide); show (2147483647 - (0 : Int32).toInt).toNat < 4294967296 + NF; omega) _ _ _ hP hD hS (lv_sub hl [0, 1] rfl)
  · skip
    have zc8 : ¬ ((v2 1).toInt ≤ 0) := by rw [fa_le, show (0 : Int32).toInt = 0 from by decide] at c8; exact c8
    refine lv_iconst (v := (-1)) hx hb dX11_regiment_11 (by decide) ?_
    exact ret (-1) (v2, f3, w4, g5) _ _ _ _ _ _ rfl ⟨(gsY_X11_regiment_1_q18 hG1 c8), hM_v2, hA_f3, hIv2, hCf3, hRf3, hk39_v2, (by show (v2 0).toInt = 0; omega), (Or.inr ⟨KV.use kV_v2 rfl, KF.use kF_f3 rfl⟩)⟩ hP hD hS dX11_regiment_12 (Nat.le_refl _) (Nat.le_refl _)
