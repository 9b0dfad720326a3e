set_option maxHeartbeats 4000000 in
set_option maxRecDepth 100000 in
theorem sY_X11_regiment_1 (l : Launch) (dC : Nat → ClassId) (dI : Nat → Nat → Nat) (cy : Nat → ClassId) (y0 : Nat) (r : Nat → Nat)  (v : Nat → Int32) (f : Nat → Nat → Int32) (w : Int64) (g : Nat → Int64) (hIv : YI v) (hCf : YC f) (hRf : progOK (f 4) (f 5) (v 9).toInt.toNat)  : ctI l (dC, dI) cy yX11_regiment cX11_regiment 2 .int 9 232 0 0 ((Nat → Int32) × (Nat → Nat → Int32) × (Int64) × (Nat → Int64)) [.ref y0] (YW cy y0 r v f w g) (fun r u => YI u.1 ∧ YC u.2.1 ∧ progOK (u.2.1 4) (u.2.1 5) (u.1 9).toInt.toNat ∧ u.1 39 = v 39 ∧ ((u.1 0).toInt = 0)) (fun u => YW cy y0 r u.1 u.2.1 u.2.2.1 u.2.2.2) := by
  refine ctI_of (by decide) (Nat.le_of_ble_eq_true rfl) (fun p e s m below meth c A ls Q hx hb hml hts hown hE hP hD hA hl ret => ?_)
  have hUv : (v 35).toInt + (v 36).toInt ≤ 40 := hIv.2
  have b0_v : (0 : Int) ≤ (v 0).toInt ∧ (v 0).toInt ≤ 1600 := YIb.b hIv.1 0 (by decide)
  have b1_v : (0 : Int) ≤ (v 1).toInt ∧ (v 1).toInt ≤ 4 := YIb.b hIv.1 1 (by decide)
  have b8_v : (0 : Int) ≤ (v 8).toInt ∧ (v 8).toInt ≤ 320 := YIb.b hIv.1 8 (by decide)
  have b10_v : (0 : Int) ≤ (v 10).toInt ∧ (v 10).toInt ≤ 160 := YIb.b hIv.1 10 (by decide)
  have b13_v : (0 : Int) ≤ (v 13).toInt ∧ (v 13).toInt ≤ 31 := YIb.b hIv.1 13 (by decide)
  have b14_v : (0 : Int) ≤ (v 14).toInt ∧ (v 14).toInt ≤ 8 := YIb.b hIv.1 14 (by decide)
  have b15_v : (0 : Int) ≤ (v 15).toInt ∧ (v 15).toInt ≤ 1 := YIb.b hIv.1 15 (by decide)
  have b17_v : (0 : Int) ≤ (v 17).toInt ∧ (v 17).toInt ≤ 6 := YIb.b hIv.1 17 (by decide)
  have b18_v : (0 : Int) ≤ (v 18).toInt ∧ (v 18).toInt ≤ 6 := YIb.b hIv.1 18 (by decide)
  have hown : s.vm.findClass RX11 = some m.cls := hown
  have hS : va_S A s.heap s.heap [] := va_S.rf
  have hl : lv_has ls 2 [(0, .ref y0)] := hl
  refine lv_aload_n hx hb dX11_regiment_0 rfl (lv_at hl 0 rfl) ?_
  refine cbVv (n := 0) (rest := []) hx hb hml hown hts hE hP hD hS hA (sY_X11_readAll_1 l dC dI cy y0 r  v f w g hIv hCf hRf ) k_1575 k_1577 k_41 k_114 k_1578 (by decide +kernel) ⟨Nat.le_of_ble_eq_true rfl, Nat.le_of_ble_eq_true rfl⟩ 0 11 rfl rfl (rfl) hl.1 rfl (Nat.le_of_ble_eq_true rfl) dX11_regiment_1 (fun u H locs hw hP hD hS => ?_)
  obtain ⟨v1, f2, w3, g4⟩ := u
  obtain ⟨hIv1, hCf2, hRf2, hk9_v1, hk24_v1, hk25_v1, hk35_v1, hk36_v1, hk38_v1, hk39_v1, pv5, pg6⟩ := hw
  have hP : va_P (dC, dI) vwCl (YW cy y0 r v1 f2 w3 g4) H := hP
  have hD : va_D A (YW cy y0 r v1 f2 w3 g4) := hD
  have b0_v1 : 0 ≤ (v1 0).toInt ∧ (v1 0).toInt ≤ 1600 := YIb.b hIv1.1 0 (by decide)
  have b1_v1 : 0 ≤ (v1 1).toInt ∧ (v1 1).toInt ≤ 4 := YIb.b hIv1.1 1 (by decide)
  have b15_v1 : 0 ≤ (v1 15).toInt ∧ (v1 15).toInt ≤ 1 := YIb.b hIv1.1 15 (by decide)
  have b8_v1 : 0 ≤ (v1 8).toInt ∧ (v1 8).toInt ≤ 320 := YIb.b hIv1.1 8 (by decide)
  have pv5 : (v1 0).toInt = 0 := pv5
  have pg6 : (v1 1).toInt = 0 → ¬ (v1 15).toInt = 0 → progOK (f2 2) (f2 3) ((v1 8).toInt).toNat := pg6
  have hUv1 : (v1 35).toInt + (v1 36).toInt ≤ 40 := hIv1.2
  have hq9_v1 : v1 9 = (v 9) := hk9_v1
  have zq9_v1 := congrArg Int32.toInt hq9_v1
  have hq24_v1 : v1 24 = (v 24) := hk24_v1
  have hq25_v1 : v1 25 = (v 25) := hk25_v1
  have hq35_v1 : v1 35 = (v 35) := hk35_v1
  have zq35_v1 := congrArg Int32.toInt hq35_v1
  have hq36_v1 : v1 36 = (v 36) := hk36_v1
  have zq36_v1 := congrArg Int32.toInt hq36_v1
  have hq38_v1 : v1 38 = (v 38) := hk38_v1
  have hq39_v1 : v1 39 = (v 39) := hk39_v1
  have hPL := pg6
  refine lv_aload_n hx hb dX11_regiment_4 rfl (lv_at hl 0 rfl) ?_
  refine va_get (D := (dC, dI)) (ci := 11) (v := .int (v1 1)) (C := RX11) (T := TX11) (N := 79) hx hb hts inB_11 hown hE.1 hP 0 rfl rfl 2 (by decide) (hts _ k_1322) (fun _ h9 => h9) rfl dX11_regiment_5 ?_
  have b1_v1 : 0 ≤ (v1 1).toInt ∧ (v1 1).toInt ≤ 4 := YIb.b hIv1.1 1 (by decide)
  refine lv_if_le (tgt := 13) hx hb dX11_regiment_8 (by decide) (fun c7 => ?_) (fun c7 => ?_)
  · skip
    have zc7 : (v1 1).toInt ≤ 0 := by rw [fa_le, show (0 : Int32).toInt = 0 from by decide] at c7; exact c7
    refine lv_aload_n hx hb dX11_regiment_13 rfl (lv_at hl 0 rfl) ?_
    refine lv_aload_n hx hb dX11_regiment_14 rfl (lv_at hl 0 rfl) ?_
    refine va_get (D := (dC, dI)) (ci := 11) (v := .int (v1 17)) (C := RX11) (T := TX11) (N := 79) hx hb hts inB_11 hown hE.1 hP 0 rfl rfl 41 (by decide) (hts _ k_1361) (fun _ h9 => h9) rfl dX11_regiment_15 ?_
    have b17_v1 : 0 ≤ (v1 17).toInt ∧ (v1 17).toInt ≤ 6 := YIb.b hIv1.1 17 (by decide)
    refine va_put (D := (dC, dI)) (ci := 11) (v := .int (v1 17)) (ty := tyX11 48) (C := RX11) (T := TX11) (N := 79) hx hb hts inB_11 tyX11 tyX11_ok nmX11 hown hE.1 hP hD hS 0 rfl rfl 48 (by decide) (hts _ k_1368) (fun _ h9 => h9) rfl (tyX11_ok 48 (by decide)) rfl rfl (Nat.le_of_ble_eq_true rfl) dX11_regiment_18 (fun H locs hP hD hS => ?_)
    have hP : va_P (dC, dI) vwCl (YW cy y0 r (upd v1 24 (v1 17)) f2 w3 g4) H := hP
    have hD : va_D A (YW cy y0 r (upd v1 24 (v1 17)) f2 w3 g4) := hD
    refine lv_aload_n hx hb dX11_regiment_21 rfl (lv_at hl 0 rfl) ?_
    refine lv_aload_n hx hb dX11_regiment_22 rfl (lv_at hl 0 rfl) ?_
    refine va_get (D := (dC, dI)) (ci := 11) (v := .int (v1 18)) (C := RX11) (T := TX11) (N := 79) hx hb hts inB_11 hown hE.1 hP 0 rfl rfl 42 (by decide) (hts _ k_1362) (fun _ h9 => h9) rfl dX11_regiment_23 ?_
    have b18_v1 : 0 ≤ (v1 18).toInt ∧ (v1 18).toInt ≤ 6 := YIb.b hIv1.1 18 (by decide)
    refine va_put (D := (dC, dI)) (ci := 11) (v := .int (v1 18)) (ty := tyX11 49) (C := RX11) (T := TX11) (N := 79) hx hb hts inB_11 tyX11 tyX11_ok nmX11 hown hE.1 hP hD hS 0 rfl rfl 49 (by decide) (hts _ k_1369) (fun _ h9 => h9) rfl (tyX11_ok 49 (by decide)) rfl rfl (Nat.le_of_ble_eq_true rfl) dX11_regiment_26 (fun H locs hP hD hS => ?_)
    have hP : va_P (dC, dI) vwCl (YW cy y0 r (upd (upd v1 24 (v1 17)) 25 (v1 18)) f2 w3 g4) H := hP
    have hD : va_D A (YW cy y0 r (upd (upd v1 24 (v1 17)) 25 (v1 18)) f2 w3 g4) := hD
    refine lv_aload_n hx hb dX11_regiment_29 rfl (lv_at hl 0 rfl) ?_
    refine lv_aload_n hx hb dX11_regiment_30 rfl (lv_at hl 0 rfl) ?_
    refine va_get (D := (dC, dI)) (ci := 11) (v := .int (v1 19)) (C := RX11) (T := TX11) (N := 79) hx hb hts inB_11 hown hE.1 hP 0 rfl rfl 43 (by decide) (hts _ k_1363) (fun _ h9 => h9) rfl dX11_regiment_31 ?_
    refine va_put (D := (dC, dI)) (ci := 11) (v := .int (v1 19)) (ty := tyX11 50) (C := RX11) (T := TX11) (N := 79) hx hb hts inB_11 tyX11 tyX11_ok nmX11 hown hE.1 hP hD hS 0 rfl rfl 50 (by decide) (hts _ k_1370) (fun _ h9 => h9) rfl (tyX11_ok 50 (by decide)) rfl rfl (Nat.le_of_ble_eq_true rfl) dX11_regiment_34 (fun H locs hP hD hS => ?_)
    have hP : va_P (dC, dI) vwCl (YW cy y0 r (upd (upd (upd v1 24 (v1 17)) 25 (v1 18)) 26 (v1 19)) f2 w3 g4) H := hP
    have hD : va_D A (YW cy y0 r (upd (upd (upd v1 24 (v1 17)) 25 (v1 18)) 26 (v1 19)) f2 w3 g4) := hD
    refine lv_aload_n hx hb dX11_regiment_37 rfl (lv_at hl 0 rfl) ?_
    refine lv_aload_n hx hb dX11_regiment_38 rfl (lv_at hl 0 rfl) ?_
    refine va_get (D := (dC, dI)) (ci := 11) (v := .int (v1 20)) (C := RX11) (T := TX11) (N := 79) hx hb hts inB_11 hown hE.1 hP 0 rfl rfl 44 (by decide) (hts _ k_1364) (fun _ h9 => h9) rfl dX11_regiment_39 ?_
    refine va_put (D := (dC, dI)) (ci := 11) (v := .int (v1 20)) (ty := tyX11 51) (C := RX11) (T := TX11) (N := 79) hx hb hts inB_11 tyX11 tyX11_ok nmX11 hown hE.1 hP hD hS 0 rfl rfl 51 (by decide) (hts _ k_1371) (fun _ h9 => h9) rfl (tyX11_ok 51 (by decide)) rfl rfl (Nat.le_of_ble_eq_true rfl) dX11_regiment_42 (fun H locs hP hD hS => ?_)
    have hP : va_P (dC, dI) vwCl (YW cy y0 r (upd (upd (upd (upd v1 24 (v1 17)) 25 (v1 18)) 26 (v1 19)) 27 (v1 20)) f2 w3 g4) H := hP
    have hD : va_D A (YW cy y0 r (upd (upd (upd (upd v1 24 (v1 17)) 25 (v1 18)) 26 (v1 19)) 27 (v1 20)) f2 w3 g4) := hD
    refine lv_aload_n hx hb dX11_regiment_45 rfl (lv_at hl 0 rfl) ?_
    refine lv_aload_n hx hb dX11_regiment_46 rfl (lv_at hl 0 rfl) ?_
    refine va_get (D := (dC, dI)) (ci := 11) (v := .int (v1 21)) (C := RX11) (T := TX11) (N := 79) hx hb hts inB_11 hown hE.1 hP 0 rfl rfl 45 (by decide) (hts _ k_1365) (fun _ h9 => h9) rfl dX11_regiment_47 ?_
    refine va_put (D := (dC, dI)) (ci := 11) (v := .int (v1 21)) (ty := tyX11 52) (C := RX11) (T := TX11) (N := 79) hx hb hts inB_11 tyX11 tyX11_ok nmX11 hown hE.1 hP hD hS 0 rfl rfl 52 (by decide) (hts _ k_1372) (fun _ h9 => h9) rfl (tyX11_ok 52 (by decide)) rfl rfl (Nat.le_of_ble_eq_true rfl) dX11_regiment_50 (fun H locs hP hD hS => ?_)
    have hP : va_P (dC, dI) vwCl (YW cy y0 r (upd (upd (upd (upd (upd v1 24 (v1 17)) 25 (v1 18)) 26 (v1 19)) 27 (v1 20)) 28 (v1 21)) f2 w3 g4) H := hP
    have hD : va_D A (YW cy y0 r (upd (upd (upd (upd (upd v1 24 (v1 17)) 25 (v1 18)) 26 (v1 19)) 27 (v1 20)) 28 (v1 21)) f2 w3 g4) := hD
    refine lv_aload_n hx hb dX11_regiment_53 rfl (lv_at hl 0 rfl) ?_
    refine lv_aload_n hx hb dX11_regiment_54 rfl (lv_at hl 0 rfl) ?_
    refine va_get (D := (dC, dI)) (ci := 11) (v := .int (v1 22)) (C := RX11) (T := TX11) (N := 79) hx hb hts inB_11 hown hE.1 hP 0 rfl rfl 46 (by decide) (hts _ k_1366) (fun _ h9 => h9) rfl dX11_regiment_55 ?_
    refine va_put (D := (dC, dI)) (ci := 11) (v := .int (v1 22)) (ty := tyX11 53) (C := RX11) (T := TX11) (N := 79) hx hb hts inB_11 tyX11 tyX11_ok nmX11 hown hE.1 hP hD hS 0 rfl rfl 53 (by decide) (hts _ k_1373) (fun _ h9 => h9) rfl (tyX11_ok 53 (by decide)) rfl rfl (Nat.le_of_ble_eq_true rfl) dX11_regiment_58 (fun H locs hP hD hS => ?_)
    have hP : va_P (dC, dI) vwCl (YW cy y0 r (upd (upd (upd (upd (upd (upd v1 24 (v1 17)) 25 (v1 18)) 26 (v1 19)) 27 (v1 20)) 28 (v1 21)) 29 (v1 22)) f2 w3 g4) H := hP
    have hD : va_D A (YW cy y0 r (upd (upd (upd (upd (upd (upd v1 24 (v1 17)) 25 (v1 18)) 26 (v1 19)) 27 (v1 20)) 28 (v1 21)) 29 (v1 22)) f2 w3 g4) := hD
    refine lv_aload_n hx hb dX11_regiment_61 rfl (lv_at hl 0 rfl) ?_
    refine lv_aload_n hx hb dX11_regiment_62 rfl (lv_at hl 0 rfl) ?_
    refine va_get (D := (dC, dI)) (ci := 11) (v := .int (v1 11)) (C := RX11) (T := TX11) (N := 79) hx hb hts inB_11 hown hE.1 hP 0 rfl rfl 20 (by decide) (hts _ k_1340) (fun _ h9 => h9) rfl dX11_regiment_63 ?_
    refine va_put (D := (dC, dI)) (ci := 11) (v := .int (v1 11)) (ty := tyX11 21) (C := RX11) (T := TX11) (N := 79) hx hb hts inB_11 tyX11 tyX11_ok nmX11 hown hE.1 hP hD hS 0 rfl rfl 21 (by decide) (hts _ k_1341) (fun _ h9 => h9) rfl (tyX11_ok 21 (by decide)) rfl rfl (Nat.le_of_ble_eq_true rfl) dX11_regiment_66 (fun H locs hP hD hS => ?_)
    have hP : va_P (dC, dI) vwCl (YW cy y0 r (upd (upd (upd (upd (upd (upd (upd v1 24 (v1 17)) 25 (v1 18)) 26 (v1 19)) 27 (v1 20)) 28 (v1 21)) 29 (v1 22)) 12 (v1 11)) f2 w3 g4) H := hP
    have hD : va_D A (YW cy y0 r (upd (upd (upd (upd (upd (upd (upd v1 24 (v1 17)) 25 (v1 18)) 26 (v1 19)) 27 (v1 20)) 28 (v1 21)) 29 (v1 22)) 12 (v1 11)) f2 w3 g4) := hD
    refine lv_aload_n hx hb dX11_regiment_69 rfl (lv_at hl 0 rfl) ?_
    refine lv_aload_n hx hb dX11_regiment_70 rfl (lv_at hl 0 rfl) ?_
    refine va_get (D := (dC, dI)) (ci := 11) (v := .int (v1 15)) (C := RX11) (T := TX11) (N := 79) hx hb hts inB_11 hown hE.1 hP 0 rfl rfl 24 (by decide) (hts _ k_1344) (fun _ h9 => h9) rfl dX11_regiment_71 ?_
    have b15_v1 : 0 ≤ (v1 15).toInt ∧ (v1 15).toInt ≤ 1 := YIb.b hIv1.1 15 (by decide)
    refine va_put (D := (dC, dI)) (ci := 11) (v := .int (v1 15)) (ty := tyX11 25) (C := RX11) (T := TX11) (N := 79) hx hb hts inB_11 tyX11 tyX11_ok nmX11 hown hE.1 hP hD hS 0 rfl rfl 25 (by decide) (hts _ k_1345) (fun _ h9 => h9) rfl (tyX11_ok 25 (by decide)) (by rcases b01 (x := (v1 15)) (by omega) (by omega) with h9 | h9 <;> (rw [h9]; rfl)) (by rcases b01 (x := (v1 15)) (by omega) (by omega) with h9 | h9 <;> (rw [h9]; rfl)) (Nat.le_of_ble_eq_true rfl) dX11_regiment_74 (fun H locs hP hD hS => ?_)
    have hP : va_P (dC, dI) vwCl (YW cy y0 r (upd (upd (upd (upd (upd (upd (upd (upd v1 24 (v1 17)) 25 (v1 18)) 26 (v1 19)) 27 (v1 20)) 28 (v1 21)) 29 (v1 22)) 12 (v1 11)) 16 (v1 15)) f2 w3 g4) H := hP
    have hD : va_D A (YW cy y0 r (upd (upd (upd (upd (upd (upd (upd (upd v1 24 (v1 17)) 25 (v1 18)) 26 (v1 19)) 27 (v1 20)) 28 (v1 21)) 29 (v1 22)) 12 (v1 11)) 16 (v1 15)) f2 w3 g4) := hD
    refine lv_aload_n hx hb dX11_regiment_77 rfl (lv_at hl 0 rfl) ?_
    refine lv_aload_n hx hb dX11_regiment_78 rfl (lv_at hl 0 rfl) ?_
    refine va_get (D := (dC, dI)) (ci := 11) (v := .int (v1 15)) (C := RX11) (T := TX11) (N := 79) hx hb hts inB_11 hown hE.1 hP 0 rfl rfl 24 (by decide) (hts _ k_1344) (fun _ h9 => h9) rfl dX11_regiment_79 ?_
    refine lv_if_eq (tgt := 92) hx hb dX11_regiment_82 (by decide) (fun c8 => ?_) (fun c8 => ?_)
    · skip
      have zc8 : (v1 15).toInt = 0 := by rw [fa_eq, show (0 : Int32).toInt = 0 from by decide] at c8; exact c8
      refine lv_iconst (v := 0) hx hb dX11_regiment_92 (by decide) ?_
      refine va_put (D := (dC, dI)) (ci := 11) (v := .int 0) (ty := tyX11 18) (C := RX11) (T := TX11) (N := 79) hx hb hts inB_11 tyX11 tyX11_ok nmX11 hown hE.1 hP hD hS 0 rfl rfl 18 (by decide) (hts _ k_1338) (fun _ h9 => h9) rfl (tyX11_ok 18 (by decide)) rfl rfl (Nat.le_of_ble_eq_true rfl) dX11_regiment_93 (fun H locs hP hD hS => ?_)
      have hP : va_P (dC, dI) vwCl (YW cy y0 r (upd (upd (upd (upd (upd (upd (upd (upd (upd v1 24 (v1 17)) 25 (v1 18)) 26 (v1 19)) 27 (v1 20)) 28 (v1 21)) 29 (v1 22)) 12 (v1 11)) 16 (v1 15)) 9 0) f2 w3 g4) H := hP
      have hD : va_D A (YW cy y0 r (upd (upd (upd (upd (upd (upd (upd (upd (upd v1 24 (v1 17)) 25 (v1 18)) 26 (v1 19)) 27 (v1 20)) 28 (v1 21)) 29 (v1 22)) 12 (v1 11)) 16 (v1 15)) 9 0) f2 w3 g4) := hD
      refine lv_iconst (v := 0) hx hb dX11_regiment_96 (by decide) ?_
      refine lv_istore_n (lv' := [(1, .int 0), (0, .ref y0)]) hx hb dX11_regiment_97 rfl hl (by decide) rfl (fun ls hl => ?_)
      have lp9 : ∀ (n9 : Nat) (l1_9 : Int32) (v9 : Nat → Int32) (f9 : Nat → Nat → Int32) (w9 : Int64) (g9 : Nat → Int64), YI v9 → YC f9 → v9 0 = (v1 0) → v9 1 = (v1 1) → v9 3 = (v1 3) → v9 4 = (v1 4) → v9 5 = (v1 5) → v9 8 = (v1 8) → v9 9 = 0 → v9 10 = (v1 10) → v9 13 = (v1 13) → v9 14 = (v1 14) → v9 15 = (v1 15) → v9 17 = (v1 17) → v9 18 = (v1 18) → v9 24 = (v1 17) → v9 25 = (v1 18) → v9 35 = (v 35) → v9 36 = (v 36) → v9 38 = (v 38) → v9 39 = (v 39) → ((0 : Int) ≤ l1_9.toInt ∧ l1_9.toInt ≤ 2147483647) → (progOK (f9 2) (f9 3) ((v9 9).toInt).toNat) → (∀ j, j < (l1_9.toInt).toNat → (f9 4) j = (f9 2) j ∧ (f9 5) j = (f9 3) j) → f9 2 = (f2 2) → f9 3 = (f2 3) → (2147483647 - l1_9.toInt).toNat < n9 → ∀ (H : Heap) (locs : List Loc) (ls : Array Slot), va_P (dC, dI) vwCl (YW cy y0 r v9 f9 w9 g9) H → va_D A (YW cy y0 r v9 f9 w9 g9) → va_S A s.heap H locs → lv_has ls 2 [(1, .int l1_9), (0, .ref y0)] → W p l e { frames := 9, cells := 0, slots := 0, locals := 232 } s m ([.ref y0] : List Value).toArray below meth c H locs 0 0 Q (F0 m 98 ls []) := by
        intro n9
        induction n9 with
        | zero => intro l1_9 v9 f9 w9 g9 hIv9 hCf9 hq0_v9 hq1_v9 hq3_v9 hq4_v9 hq5_v9 hq8_v9 hq9_v9 hq10_v9 hq13_v9 hq14_v9 hq15_v9 hq17_v9 hq18_v9 hq24_v9 hq25_v9 hq35_v9 hq36_v9 hq38_v9 hq39_v9 hr1_9 hx0_9 hx1_9 hs2_f9 hs3_f9 hm; exact absurd hm (Nat.not_lt_zero _)
        | succ n9 ih9 =>
          intro l1_9 v9 f9 w9 g9 hIv9 hCf9 hq0_v9 hq1_v9 hq3_v9 hq4_v9 hq5_v9 hq8_v9 hq9_v9 hq10_v9 hq13_v9 hq14_v9 hq15_v9 hq17_v9 hq18_v9 hq24_v9 hq25_v9 hq35_v9 hq36_v9 hq38_v9 hq39_v9 hr1_9 hx0_9 hx1_9 hs2_f9 hs3_f9 hm9 H locs ls hP hD hS hl
          have hUv9 : (v9 35).toInt + (v9 36).toInt ≤ 40 := hIv9.2
          have zq0_v9 := congrArg Int32.toInt hq0_v9
          have zq1_v9 := congrArg Int32.toInt hq1_v9
          have zq3_v9 := congrArg Int32.toInt hq3_v9
          have zq4_v9 := congrArg Int32.toInt hq4_v9
          have zq5_v9 := congrArg Int32.toInt hq5_v9
          have zq8_v9 := congrArg Int32.toInt hq8_v9
          have zq9_v9 : (v9 9).toInt = 0 := by rw [hq9_v9]; decide
          have zq10_v9 := congrArg Int32.toInt hq10_v9
          have zq13_v9 := congrArg Int32.toInt hq13_v9
          have zq14_v9 := congrArg Int32.toInt hq14_v9
          have zq15_v9 := congrArg Int32.toInt hq15_v9
          have zq17_v9 := congrArg Int32.toInt hq17_v9
          have zq18_v9 := congrArg Int32.toInt hq18_v9
          have zq35_v9 := congrArg Int32.toInt hq35_v9
          have zq36_v9 := congrArg Int32.toInt hq36_v9
          have b9_v9 : 0 ≤ (v9 9).toInt ∧ (v9 9).toInt ≤ 320 := YIb.b hIv9.1 9 (by decide)
          rw [hs2_f9] at hx0_9
          rw [hs3_f9] at hx0_9
          rw [hs2_f9] at hx1_9
          rw [hs3_f9] at hx1_9
          have hPG := hx0_9
          have hCP := hx1_9
          refine lv_iload_n hx hb dX11_regiment_98 rfl (lv_at hl 0 rfl) ?_
          refine lv_aload_n hx hb dX11_regiment_99 rfl (lv_at hl 1 rfl) ?_
          refine va_get (D := (dC, dI)) (ci := 11) (v := .int (v9 9)) (C := RX11) (T := TX11) (N := 79) hx hb hts inB_11 hown hE.1 hP 0 rfl rfl 18 (by decide) (hts _ k_1338) (fun _ h9 => h9) rfl dX11_regiment_100 ?_
          refine tI (y := 0) hq9_v9 ?_
          refine lv_icmp_ge (tgt := 136) hx hb dX11_regiment_103 (by decide) (fun c10 => ?_) (fun c10 => ?_)
          · skip
            have zc10 : 0 ≤ l1_9.toInt := by rw [fa_le, show (0 : Int32).toInt = 0 from by decide] at c10; exact c10
            have hRf9 : progOK (f9 4) (f9 5) (v9 9).toInt.toNat := cp_done hCP hPG (by omega)
            refine lv_iconst (v := 0) hx hb dX11_regiment_136 (by decide) ?_
            refine lv_istore_n (lv' := [(1, .int 0), (0, .ref y0)]) hx hb dX11_regiment_137 rfl hl (by decide) rfl (fun ls hl => ?_)
            have lp11 : ∀ (n11 : Nat) (l1_11 : Int32) (v11 : Nat → Int32) (f11 : Nat → Nat → Int32) (w11 : Int64) (g11 : Nat → Int64), YI v11 → YC f11 → progOK (f11 4) (f11 5) (v11 9).toInt.toNat → v11 0 = (v1 0) → v11 1 = (v1 1) → v11 3 = (v1 3) → v11 4 = (v1 4) → v11 5 = (v1 5) → v11 8 = (v1 8) → v11 9 = 0 → v11 10 = (v1 10) → v11 13 = (v1 13) → v11 14 = (v1 14) → v11 15 = (v1 15) → v11 17 = (v1 17) → v11 18 = (v1 18) → v11 24 = (v1 17) → v11 25 = (v1 18) → v11 35 = (v 35) → v11 36 = (v 36) → v11 38 = (v 38) → v11 39 = (v 39) → ((0 : Int) ≤ l1_11.toInt ∧ l1_11.toInt ≤ 2147483647) → f11 2 = (f2 2) → f11 3 = (f2 3) → (2147483647 - l1_11.toInt).toNat < n11 → ∀ (H : Heap) (locs : List Loc) (ls : Array Slot), va_P (dC, dI) vwCl (YW cy y0 r v11 f11 w11 g11) H → va_D A (YW cy y0 r v11 f11 w11 g11) → va_S A s.heap H locs → lv_has ls 2 [(1, .int l1_11), (0, .ref y0)] → W p l e { frames := 9, cells := 0, slots := 0, locals := 232 } s m ([.ref y0] : List Value).toArray below meth c H locs 0 0 Q (F0 m 138 ls []) := by
              intro n11
              induction n11 with
              | zero => intro l1_11 v11 f11 w11 g11 hIv11 hCf11 hRf11 hq0_v11 hq1_v11 hq3_v11 hq4_v11 hq5_v11 hq8_v11 hq9_v11 hq10_v11 hq13_v11 hq14_v11 hq15_v11 hq17_v11 hq18_v11 hq24_v11 hq25_v11 hq35_v11 hq36_v11 hq38_v11 hq39_v11 hr1_11 hs2_f11 hs3_f11 hm; exact absurd hm (Nat.not_lt_zero _)
              | succ n11 ih11 =>
                intro l1_11 v11 f11 w11 g11 hIv11 hCf11 hRf11 hq0_v11 hq1_v11 hq3_v11 hq4_v11 hq5_v11 hq8_v11 hq9_v11 hq10_v11 hq13_v11 hq14_v11 hq15_v11 hq17_v11 hq18_v11 hq24_v11 hq25_v11 hq35_v11 hq36_v11 hq38_v11 hq39_v11 hr1_11 hs2_f11 hs3_f11 hm11 H locs ls hP hD hS hl
                have hUv11 : (v11 35).toInt + (v11 36).toInt ≤ 40 := hIv11.2
                have zq0_v11 := congrArg Int32.toInt hq0_v11
                have zq1_v11 := congrArg Int32.toInt hq1_v11
                have zq3_v11 := congrArg Int32.toInt hq3_v11
                have zq4_v11 := congrArg Int32.toInt hq4_v11
                have zq5_v11 := congrArg Int32.toInt hq5_v11
                have zq8_v11 := congrArg Int32.toInt hq8_v11
                have zq9_v11 : (v11 9).toInt = 0 := by rw [hq9_v11]; decide
                have zq10_v11 := congrArg Int32.toInt hq10_v11
                have zq13_v11 := congrArg Int32.toInt hq13_v11
                have zq14_v11 := congrArg Int32.toInt hq14_v11
                have zq15_v11 := congrArg Int32.toInt hq15_v11
                have zq17_v11 := congrArg Int32.toInt hq17_v11
                have zq18_v11 := congrArg Int32.toInt hq18_v11
                have zq35_v11 := congrArg Int32.toInt hq35_v11
                have zq36_v11 := congrArg Int32.toInt hq36_v11
                refine lv_iload_n hx hb dX11_regiment_138 rfl (lv_at hl 0 rfl) ?_
                refine lv_aload_n hx hb dX11_regiment_139 rfl (lv_at hl 1 rfl) ?_
                refine va_get (D := (dC, dI)) (ci := 11) (v := .int (v11 24)) (C := RX11) (T := TX11) (N := 79) hx hb hts inB_11 hown hE.1 hP 0 rfl rfl 48 (by decide) (hts _ k_1368) (fun _ h9 => h9) rfl dX11_regiment_140 ?_
                refine tI (y := (v1 17)) hq24_v11 ?_
                have b17_v1 : 0 ≤ (v1 17).toInt ∧ (v1 17).toInt ≤ 6 := YIb.b hIv1.1 17 (by decide)
                refine lv_icmp_ge (tgt := 188) hx hb dX11_regiment_143 (by decide) (fun c12 => ?_) (fun c12 => ?_)
                · skip
                  have zc12 : (v1 17).toInt ≤ l1_11.toInt := by rw [fa_le] at c12; exact c12
                  have rg13 := fb_rng l1_11
                  have rg14 := fb_rng (v1 17)
                  refine lv_iconst (v := 0) hx hb dX11_regiment_188 (by decide) ?_
                  refine lv_istore_n (lv' := [(1, .int 0), (0, .ref y0)]) hx hb dX11_regiment_189 rfl hl (by decide) rfl (fun ls hl => ?_)
                  have lp15 : ∀ (n15 : Nat) (l1_15 : Int32) (v15 : Nat → Int32) (f15 : Nat → Nat → Int32) (w15 : Int64) (g15 : Nat → Int64), YI v15 → YC f15 → progOK (f15 4) (f15 5) (v15 9).toInt.toNat → v15 0 = (v1 0) → v15 1 = (v1 1) → v15 3 = (v1 3) → v15 4 = (v1 4) → v15 5 = (v1 5) → v15 8 = (v1 8) → v15 9 = 0 → v15 10 = (v1 10) → v15 13 = (v1 13) → v15 14 = (v1 14) → v15 15 = (v1 15) → v15 17 = (v1 17) → v15 18 = (v1 18) → v15 24 = (v1 17) → v15 25 = (v1 18) → v15 35 = (v 35) → v15 36 = (v 36) → v15 38 = (v 38) → v15 39 = (v 39) → ((0 : Int) ≤ l1_15.toInt ∧ l1_15.toInt ≤ 2147483647) → f15 2 = (f2 2) → f15 3 = (f2 3) → (2147483647 - l1_15.toInt).toNat < n15 → ∀ (H : Heap) (locs : List Loc) (ls : Array Slot), va_P (dC, dI) vwCl (YW cy y0 r v15 f15 w15 g15) H → va_D A (YW cy y0 r v15 f15 w15 g15) → va_S A s.heap H locs → lv_has ls 2 [(1, .int l1_15), (0, .ref y0)] → W p l e { frames := 9, cells := 0, slots := 0, locals := 232 } s m ([.ref y0] : List Value).toArray below meth c H locs 0 0 Q (F0 m 190 ls []) := by
                    intro n15
                    induction n15 with
                    | zero => intro l1_15 v15 f15 w15 g15 hIv15 hCf15 hRf15 hq0_v15 hq1_v15 hq3_v15 hq4_v15 hq5_v15 hq8_v15 hq9_v15 hq10_v15 hq13_v15 hq14_v15 hq15_v15 hq17_v15 hq18_v15 hq24_v15 hq25_v15 hq35_v15 hq36_v15 hq38_v15 hq39_v15 hr1_15 hs2_f15 hs3_f15 hm; exact absurd hm (Nat.not_lt_zero _)
                    | succ n15 ih15 =>
                      intro l1_15 v15 f15 w15 g15 hIv15 hCf15 hRf15 hq0_v15 hq1_v15 hq3_v15 hq4_v15 hq5_v15 hq8_v15 hq9_v15 hq10_v15 hq13_v15 hq14_v15 hq15_v15 hq17_v15 hq18_v15 hq24_v15 hq25_v15 hq35_v15 hq36_v15 hq38_v15 hq39_v15 hr1_15 hs2_f15 hs3_f15 hm15 H locs ls hP hD hS hl
                      have hUv15 : (v15 35).toInt + (v15 36).toInt ≤ 40 := hIv15.2
                      have zq0_v15 := congrArg Int32.toInt hq0_v15
                      have zq1_v15 := congrArg Int32.toInt hq1_v15
                      have zq3_v15 := congrArg Int32.toInt hq3_v15
                      have zq4_v15 := congrArg Int32.toInt hq4_v15
                      have zq5_v15 := congrArg Int32.toInt hq5_v15
                      have zq8_v15 := congrArg Int32.toInt hq8_v15
                      have zq9_v15 : (v15 9).toInt = 0 := by rw [hq9_v15]; decide
                      have zq10_v15 := congrArg Int32.toInt hq10_v15
                      have zq13_v15 := congrArg Int32.toInt hq13_v15
                      have zq14_v15 := congrArg Int32.toInt hq14_v15
                      have zq15_v15 := congrArg Int32.toInt hq15_v15
                      have zq17_v15 := congrArg Int32.toInt hq17_v15
                      have zq18_v15 := congrArg Int32.toInt hq18_v15
                      have zq35_v15 := congrArg Int32.toInt hq35_v15
                      have zq36_v15 := congrArg Int32.toInt hq36_v15
                      refine lv_iload_n hx hb dX11_regiment_190 rfl (lv_at hl 0 rfl) ?_
                      refine lv_aload_n hx hb dX11_regiment_191 rfl (lv_at hl 1 rfl) ?_
                      refine va_get (D := (dC, dI)) (ci := 11) (v := .int (v15 25)) (C := RX11) (T := TX11) (N := 79) hx hb hts inB_11 hown hE.1 hP 0 rfl rfl 49 (by decide) (hts _ k_1369) (fun _ h9 => h9) rfl dX11_regiment_192 ?_
                      refine tI (y := (v1 18)) hq25_v15 ?_
                      have b18_v1 : 0 ≤ (v1 18).toInt ∧ (v1 18).toInt ≤ 6 := YIb.b hIv1.1 18 (by decide)
                      refine lv_icmp_ge (tgt := 252) hx hb dX11_regiment_195 (by decide) (fun c16 => ?_) (fun c16 => ?_)
                      · skip
                        have zc16 : (v1 18).toInt ≤ l1_15.toInt := by rw [fa_le] at c16; exact c16
                        have rg17 := fb_rng l1_15
                        have rg18 := fb_rng (v1 18)
                        refine lv_aload_n hx hb dX11_regiment_252 rfl (lv_at hl 1 rfl) ?_
                        refine cbVv (n := 0) (rest := []) hx hb hml hown hts hE hP hD hS hA (sY_X11_begin_1 l dC dI cy y0 r  v15 f15 w15 g15 hIv15 hCf15 hRf15 ) k_1716 k_1718 k_68 k_114 k_1719 (by decide +kernel) ⟨Nat.le_of_ble_eq_true rfl, Nat.le_of_ble_eq_true rfl⟩ 0 11 rfl rfl (rfl) hl.1 rfl (Nat.le_of_ble_eq_true rfl) dX11_regiment_253 (fun u H locs hw hP hD hS => ?_)
                        obtain ⟨v19, f20, w21, g22⟩ := u
                        obtain ⟨hIv19, hCf20, hRf20, hk0_v19, hk1_v19, hk3_v19, hk4_v19, hk5_v19, hk8_v19, hk9_v19, hk10_v19, hk13_v19, hk14_v19, hk15_v19, hk17_v19, hk18_v19, hk24_v19, hk25_v19, hk35_v19, hk36_v19, hk38_v19, hk39_v19⟩ := hw
                        have hP : va_P (dC, dI) vwCl (YW cy y0 r v19 f20 w21 g22) H := hP
                        have hD : va_D A (YW cy y0 r v19 f20 w21 g22) := hD
                        have hUv19 : (v19 35).toInt + (v19 36).toInt ≤ 40 := hIv19.2
                        have hq0_v19 : v19 0 = (v1 0) := hk0_v19.trans hq0_v15
                        have zq0_v19 := congrArg Int32.toInt hq0_v19
                        have hq1_v19 : v19 1 = (v1 1) := hk1_v19.trans hq1_v15
                        have zq1_v19 := congrArg Int32.toInt hq1_v19
                        have hq3_v19 : v19 3 = (v1 3) := hk3_v19.trans hq3_v15
                        have zq3_v19 := congrArg Int32.toInt hq3_v19
                        have hq4_v19 : v19 4 = (v1 4) := hk4_v19.trans hq4_v15
                        have zq4_v19 := congrArg Int32.toInt hq4_v19
                        have hq5_v19 : v19 5 = (v1 5) := hk5_v19.trans hq5_v15
                        have zq5_v19 := congrArg Int32.toInt hq5_v19
                        have hq8_v19 : v19 8 = (v1 8) := hk8_v19.trans hq8_v15
                        have zq8_v19 := congrArg Int32.toInt hq8_v19
                        have hq9_v19 : v19 9 = 0 := hk9_v19.trans hq9_v15
                        have zq9_v19 : (v19 9).toInt = 0 := by rw [hq9_v19]; decide
                        have hq10_v19 : v19 10 = (v1 10) := hk10_v19.trans hq10_v15
                        have zq10_v19 := congrArg Int32.toInt hq10_v19
                        have hq13_v19 : v19 13 = (v1 13) := hk13_v19.trans hq13_v15
                        have zq13_v19 := congrArg Int32.toInt hq13_v19
                        have hq14_v19 : v19 14 = (v1 14) := hk14_v19.trans hq14_v15
                        have zq14_v19 := congrArg Int32.toInt hq14_v19
                        have hq15_v19 : v19 15 = (v1 15) := hk15_v19.trans hq15_v15
                        have zq15_v19 := congrArg Int32.toInt hq15_v19
                        have hq17_v19 : v19 17 = (v1 17) := hk17_v19.trans hq17_v15
                        have zq17_v19 := congrArg Int32.toInt hq17_v19
                        have hq18_v19 : v19 18 = (v1 18) := hk18_v19.trans hq18_v15
                        have zq18_v19 := congrArg Int32.toInt hq18_v19
                        have hq24_v19 : v19 24 = (v1 17) := hk24_v19.trans hq24_v15
                        have hq25_v19 : v19 25 = (v1 18) := hk25_v19.trans hq25_v15
                        have hq35_v19 : v19 35 = (v 35) := hk35_v19.trans hq35_v15
                        have zq35_v19 := congrArg Int32.toInt hq35_v19
                        have hq36_v19 : v19 36 = (v 36) := hk36_v19.trans hq36_v15
                        have zq36_v19 := congrArg Int32.toInt hq36_v19
                        have hq38_v19 : v19 38 = (v 38) := hk38_v19.trans hq38_v15
                        have hq39_v19 : v19 39 = (v 39) := hk39_v19.trans hq39_v15
                        refine lv_aload_n hx hb dX11_regiment_256 rfl (lv_at hl 1 rfl) ?_
                        refine va_get (D := (dC, dI)) (ci := 11) (v := .ref (r 60)) (C := RX11) (T := TX11) (N := 79) hx hb hts inB_11 hown hE.1 hP 0 rfl rfl 60 (by decide) (hts _ k_1380) (fun _ h9 => h9) rfl dX11_regiment_257 ?_
                        refine lv_bipush (v := 38) hx hb dX11_regiment_260 (by decide) ?_
                        refine lv_aload_n hx hb dX11_regiment_262 rfl (lv_at hl 1 rfl) ?_
                        refine va_get (D := (dC, dI)) (ci := 11) (v := .int (v19 23)) (C := RX11) (T := TX11) (N := 79) hx hb hts inB_11 hown hE.1 hP 0 rfl rfl 47 (by decide) (hts _ k_1367) (fun _ h9 => h9) rfl dX11_regiment_263 ?_
                        refine stI hx hb hE hP hD hS 25 rfl (vp_in_nI (n := 38) (by decide) (by decide)) rfl dX11_regiment_266 (fun H locs hP hD hS => ?_)
                        obtain ⟨f23, ef23, hP, hD⟩ : ∃ fz9, fz9 = upd2 f20 24 (upd (f20 24) (38 : Int32).toNatClampNeg (v19 23)) ∧ va_P (dC, dI) vwCl (YW cy y0 r v19 fz9 w21 g22) H ∧ va_D A (YW cy y0 r v19 fz9 w21 g22) := ⟨_, rfl, hP, hD⟩
                        have hCf23 : YC f23 := by rw [ef23]; exact ⟨hCf20.1, (wear_st hCf20.2.1 (by show 38 % 39 < 6 ∨ 12 ≤ 38 % 39 ∨ (-1 ≤ (v19 23).toInt ∧ (v19 23).toInt ≤ 5); omega)), hCf20.2.2.1, hCf20.2.2.2.1, hCf20.2.2.2.2.1, hCf20.2.2.2.2.2⟩
                        have hRf23 : progOK (f23 4) (f23 5) (v19 9).toInt.toNat := by rw [ef23]; exact hRf20
                        have hs2_f23 : f23 2 = (f20 2) := by rw [ef23]; exact rfl
                        have hs3_f23 : f23 3 = (f20 3) := by rw [ef23]; exact rfl
                        have hs4_f23 : f23 4 = (f20 4) := by rw [ef23]; exact rfl
                        have hs5_f23 : f23 5 = (f20 5) := by rw [ef23]; exact rfl
                        refine lv_aload_n hx hb dX11_regiment_267 rfl (lv_at hl 1 rfl) ?_
                        refine cbVv (n := 0) (rest := []) hx hb hml hown hts hE hP hD hS hA (sY_X11_keepAir_1 l dC dI cy y0 r  v19 f23 w21 g22 hIv19 hCf23 hRf23 ) k_1720 k_1722 k_69 k_114 k_1723 (by decide +kernel) ⟨Nat.le_of_ble_eq_true rfl, Nat.le_of_ble_eq_true rfl⟩ 0 11 rfl rfl (rfl) hl.1 rfl (Nat.le_of_ble_eq_true rfl) dX11_regiment_268 (fun u H locs hw hP hD hS => ?_)
                        obtain ⟨v24, f25, w26, g27⟩ := u
                        obtain ⟨hIv24, hCf25, hRf25, hk0_v24, hk1_v24, hk3_v24, hk4_v24, hk5_v24, hk8_v24, hk9_v24, hk10_v24, hk13_v24, hk14_v24, hk15_v24, hk17_v24, hk18_v24, hk24_v24, hk25_v24, hk35_v24, hk36_v24, hk38_v24, hk39_v24⟩ := hw
                        have hP : va_P (dC, dI) vwCl (YW cy y0 r v24 f25 w26 g27) H := hP
                        have hD : va_D A (YW cy y0 r v24 f25 w26 g27) := hD
                        have hUv24 : (v24 35).toInt + (v24 36).toInt ≤ 40 := hIv24.2
                        have hq0_v24 : v24 0 = (v1 0) := hk0_v24.trans hq0_v19
                        have zq0_v24 := congrArg Int32.toInt hq0_v24
                        have hq1_v24 : v24 1 = (v1 1) := hk1_v24.trans hq1_v19
                        have zq1_v24 := congrArg Int32.toInt hq1_v24
                        have hq3_v24 : v24 3 = (v1 3) := hk3_v24.trans hq3_v19
                        have zq3_v24 := congrArg Int32.toInt hq3_v24
                        have hq4_v24 : v24 4 = (v1 4) := hk4_v24.trans hq4_v19
                        have zq4_v24 := congrArg Int32.toInt hq4_v24
                        have hq5_v24 : v24 5 = (v1 5) := hk5_v24.trans hq5_v19
                        have zq5_v24 := congrArg Int32.toInt hq5_v24
                        have hq8_v24 : v24 8 = (v1 8) := hk8_v24.trans hq8_v19
                        have zq8_v24 := congrArg Int32.toInt hq8_v24
                        have hq9_v24 : v24 9 = 0 := hk9_v24.trans hq9_v19
                        have zq9_v24 : (v24 9).toInt = 0 := by rw [hq9_v24]; decide
                        have hq10_v24 : v24 10 = (v1 10) := hk10_v24.trans hq10_v19
                        have zq10_v24 := congrArg Int32.toInt hq10_v24
                        have hq13_v24 : v24 13 = (v1 13) := hk13_v24.trans hq13_v19
                        have zq13_v24 := congrArg Int32.toInt hq13_v24
                        have hq14_v24 : v24 14 = (v1 14) := hk14_v24.trans hq14_v19
                        have zq14_v24 := congrArg Int32.toInt hq14_v24
                        have hq15_v24 : v24 15 = (v1 15) := hk15_v24.trans hq15_v19
                        have zq15_v24 := congrArg Int32.toInt hq15_v24
                        have hq17_v24 : v24 17 = (v1 17) := hk17_v24.trans hq17_v19
                        have zq17_v24 := congrArg Int32.toInt hq17_v24
                        have hq18_v24 : v24 18 = (v1 18) := hk18_v24.trans hq18_v19
                        have zq18_v24 := congrArg Int32.toInt hq18_v24
                        have hq24_v24 : v24 24 = (v1 17) := hk24_v24.trans hq24_v19
                        have hq25_v24 : v24 25 = (v1 18) := hk25_v24.trans hq25_v19
                        have hq35_v24 : v24 35 = (v 35) := hk35_v24.trans hq35_v19
                        have zq35_v24 := congrArg Int32.toInt hq35_v24
                        have hq36_v24 : v24 36 = (v 36) := hk36_v24.trans hq36_v19
                        have zq36_v24 := congrArg Int32.toInt hq36_v24
                        have hq38_v24 : v24 38 = (v 38) := hk38_v24.trans hq38_v19
                        have hq39_v24 : v24 39 = (v 39) := hk39_v24.trans hq39_v19
                        refine lv_aload_n hx hb dX11_regiment_271 rfl (lv_at hl 1 rfl) ?_
                        refine lv_iconst (v := 0) hx hb dX11_regiment_272 (by decide) ?_
                        refine va_put (D := (dC, dI)) (ci := 11) (v := .int 0) (ty := tyX11 62) (C := RX11) (T := TX11) (N := 79) hx hb hts inB_11 tyX11 tyX11_ok nmX11 hown hE.1 hP hD hS 0 rfl rfl 62 (by decide) (hts _ k_1382) (fun _ h9 => h9) rfl (tyX11_ok 62 (by decide)) rfl rfl (Nat.le_of_ble_eq_true rfl) dX11_regiment_273 (fun H locs hP hD hS => ?_)
                        have hP : va_P (dC, dI) vwCl (YW cy y0 r (upd v24 35 0) f25 w26 g27) H := hP
                        have hD : va_D A (YW cy y0 r (upd v24 35 0) f25 w26 g27) := hD
                        refine lv_aload_n hx hb dX11_regiment_276 rfl (lv_at hl 1 rfl) ?_
                        refine lv_iconst (v := 0) hx hb dX11_regiment_277 (by decide) ?_
                        refine va_put (D := (dC, dI)) (ci := 11) (v := .int 0) (ty := tyX11 63) (C := RX11) (T := TX11) (N := 79) hx hb hts inB_11 tyX11 tyX11_ok nmX11 hown hE.1 hP hD hS 0 rfl rfl 63 (by decide) (hts _ k_1383) (fun _ h9 => h9) rfl (tyX11_ok 63 (by decide)) rfl rfl (Nat.le_of_ble_eq_true rfl) dX11_regiment_278 (fun H locs hP hD hS => ?_)
                        have hP : va_P (dC, dI) vwCl (YW cy y0 r (upd (upd v24 35 0) 36 0) f25 w26 g27) H := hP
                        have hD : va_D A (YW cy y0 r (upd (upd v24 35 0) 36 0) f25 w26 g27) := hD
                        refine lv_aload_n hx hb dX11_regiment_281 rfl (lv_at hl 1 rfl) ?_
                        refine lv_iconst (v := 0) hx hb dX11_regiment_282 (by decide) ?_
                        refine va_put (D := (dC, dI)) (ci := 11) (v := .int 0) (ty := tyX11 73) (C := RX11) (T := TX11) (N := 79) hx hb hts inB_11 tyX11 tyX11_ok nmX11 hown hE.1 hP hD hS 0 rfl rfl 73 (by decide) (hts _ k_1393) (fun _ h9 => h9) rfl (tyX11_ok 73 (by decide)) rfl rfl (Nat.le_of_ble_eq_true rfl) dX11_regiment_283 (fun H locs hP hD hS => ?_)
                        have hP : va_P (dC, dI) vwCl (YW cy y0 r (upd (upd (upd v24 35 0) 36 0) 38 0) f25 w26 g27) H := hP
                        have hD : va_D A (YW cy y0 r (upd (upd (upd v24 35 0) 36 0) 38 0) f25 w26 g27) := hD
                        refine lv_aload_n hx hb dX11_regiment_286 rfl (lv_at hl 1 rfl) ?_
                        refine lv_iconst (v := 0) hx hb dX11_regiment_287 (by decide) ?_
                        refine va_put (D := (dC, dI)) (ci := 11) (v := .int 0) (ty := tyX11 67) (C := RX11) (T := TX11) (N := 79) hx hb hts inB_11 tyX11 tyX11_ok nmX11 hown hE.1 hP hD hS 0 rfl rfl 67 (by decide) (hts _ k_1387) (fun _ h9 => h9) rfl (tyX11_ok 67 (by decide)) rfl rfl (Nat.le_of_ble_eq_true rfl) dX11_regiment_288 (fun H locs hP hD hS => ?_)
                        have hP : va_P (dC, dI) vwCl (YW cy y0 r (upd (upd (upd (upd v24 35 0) 36 0) 38 0) 37 0) f25 w26 g27) H := hP
                        have hD : va_D A (YW cy y0 r (upd (upd (upd (upd v24 35 0) 36 0) 38 0) 37 0) f25 w26 g27) := hD
                        refine lv_iconst (v := 0) hx hb dX11_regiment_291 (by decide) ?_
                        refine lv_istore_n (lv' := [(1, .int 0), (0, .ref y0)]) hx hb dX11_regiment_292 rfl hl (by decide) rfl (fun ls hl => ?_)
                        have lp28 : ∀ (n28 : Nat) (l1_28 : Int32) (v28 : Nat → Int32) (f28 : Nat → Nat → Int32) (w28 : Int64) (g28 : Nat → Int64), YI v28 → YC f28 → progOK (f28 4) (f28 5) (v28 9).toInt.toNat → v28 0 = (v1 0) → v28 1 = (v1 1) → v28 3 = (v1 3) → v28 4 = (v1 4) → v28 5 = (v1 5) → v28 8 = (v1 8) → v28 9 = 0 → v28 10 = (v1 10) → v28 13 = (v1 13) → v28 14 = (v1 14) → v28 15 = (v1 15) → v28 17 = (v1 17) → v28 18 = (v1 18) → v28 24 = (v1 17) → v28 25 = (v1 18) → v28 35 = 0 → v28 36 = 0 → v28 38 = 0 → v28 39 = (v 39) → ((0 : Int) ≤ l1_28.toInt ∧ l1_28.toInt ≤ 2147483647) → f28 2 = (f25 2) → f28 3 = (f25 3) → f28 4 = (f25 4) → f28 5 = (f25 5) → (2147483647 - l1_28.toInt).toNat < n28 → ∀ (H : Heap) (locs : List Loc) (ls : Array Slot), va_P (dC, dI) vwCl (YW cy y0 r v28 f28 w28 g28) H → va_D A (YW cy y0 r v28 f28 w28 g28) → va_S A s.heap H locs → lv_has ls 2 [(1, .int l1_28), (0, .ref y0)] → W p l e { frames := 9, cells := 0, slots := 0, locals := 232 } s m ([.ref y0] : List Value).toArray below meth c H locs 0 0 Q (F0 m 293 ls []) := by
                          intro n28
                          induction n28 with
                          | zero => intro l1_28 v28 f28 w28 g28 hIv28 hCf28 hRf28 hq0_v28 hq1_v28 hq3_v28 hq4_v28 hq5_v28 hq8_v28 hq9_v28 hq10_v28 hq13_v28 hq14_v28 hq15_v28 hq17_v28 hq18_v28 hq24_v28 hq25_v28 hq35_v28 hq36_v28 hq38_v28 hq39_v28 hr1_28 hs2_f28 hs3_f28 hs4_f28 hs5_f28 hm; exact absurd hm (Nat.not_lt_zero _)
                          | succ n28 ih28 =>
                            intro l1_28 v28 f28 w28 g28 hIv28 hCf28 hRf28 hq0_v28 hq1_v28 hq3_v28 hq4_v28 hq5_v28 hq8_v28 hq9_v28 hq10_v28 hq13_v28 hq14_v28 hq15_v28 hq17_v28 hq18_v28 hq24_v28 hq25_v28 hq35_v28 hq36_v28 hq38_v28 hq39_v28 hr1_28 hs2_f28 hs3_f28 hs4_f28 hs5_f28 hm28 H locs ls hP hD hS hl
                            have hUv28 : (v28 35).toInt + (v28 36).toInt ≤ 40 := hIv28.2
                            have zq0_v28 := congrArg Int32.toInt hq0_v28
                            have zq1_v28 := congrArg Int32.toInt hq1_v28
                            have zq3_v28 := congrArg Int32.toInt hq3_v28
                            have zq4_v28 := congrArg Int32.toInt hq4_v28
                            have zq5_v28 := congrArg Int32.toInt hq5_v28
                            have zq8_v28 := congrArg Int32.toInt hq8_v28
                            have zq9_v28 : (v28 9).toInt = 0 := by rw [hq9_v28]; decide
                            have zq10_v28 := congrArg Int32.toInt hq10_v28
                            have zq13_v28 := congrArg Int32.toInt hq13_v28
                            have zq14_v28 := congrArg Int32.toInt hq14_v28
                            have zq15_v28 := congrArg Int32.toInt hq15_v28
                            have zq17_v28 := congrArg Int32.toInt hq17_v28
                            have zq18_v28 := congrArg Int32.toInt hq18_v28
                            have zq35_v28 : (v28 35).toInt = 0 := by rw [hq35_v28]; decide
                            have zq36_v28 : (v28 36).toInt = 0 := by rw [hq36_v28]; decide
                            have zq38_v28 : (v28 38).toInt = 0 := by rw [hq38_v28]; decide
                            refine lv_iload_n hx hb dX11_regiment_293 rfl (lv_at hl 0 rfl) ?_
                            refine lv_iconst (v := 3) hx hb dX11_regiment_294 (by decide) ?_
                            refine lv_icmp_ge (tgt := 311) hx hb dX11_regiment_295 (by decide) (fun c29 => ?_) (fun c29 => ?_)
                            · skip
                              have zc29 : 3 ≤ l1_28.toInt := by rw [fa_le, show (3 : Int32).toInt = 3 from by decide] at c29; exact c29
                              refine lv_aload_n hx hb dX11_regiment_311 rfl (lv_at hl 1 rfl) ?_
                              refine va_get (D := (dC, dI)) (ci := 11) (v := .int (v28 24)) (C := RX11) (T := TX11) (N := 79) hx hb hts inB_11 hown hE.1 hP 0 rfl rfl 48 (by decide) (hts _ k_1368) (fun _ h9 => h9) rfl dX11_regiment_312 ?_
                              refine tI (y := (v1 17)) hq24_v28 ?_
                              have b17_v1 : 0 ≤ (v1 17).toInt ∧ (v1 17).toInt ≤ 6 := YIb.b hIv1.1 17 (by decide)
                              exact ret (v1 17) (v28, f28, w28, g28) _ _ _ _ _ _ rfl ⟨hIv28, hCf28, hRf28, hq39_v28, (by show (v28 0).toInt = 0; omega)⟩ hP hD hS dX11_regiment_315 (Nat.le_refl _) (Nat.le_refl _)
                            · skip
                              have zc29 : ¬ (3 ≤ l1_28.toInt) := by rw [fa_le, show (3 : Int32).toInt = 3 from by decide] at c29; exact c29
                              refine lv_aload_n hx hb dX11_regiment_298 rfl (lv_at hl 1 rfl) ?_
                              refine va_get (D := (dC, dI)) (ci := 11) (v := .ref (r 77)) (C := RX11) (T := TX11) (N := 79) hx hb hts inB_11 hown hE.1 hP 0 rfl rfl 77 (by decide) (hts _ k_1397) (fun _ h9 => h9) rfl dX11_regiment_299 ?_
                              refine lv_iload_n hx hb dX11_regiment_302 rfl (lv_at hl 0 rfl) ?_
                              refine lv_iconst (v := 0) hx hb dX11_regiment_303 (by decide) ?_
                              refine stZ hx hb hE hP hD hS 37 rfl (vp_in_iff.mpr ⟨by omega, by omega⟩) rfl dX11_regiment_304 (fun H locs hP hD hS => ?_)
                              obtain ⟨f30, ef30, hP, hD⟩ : ∃ fz9, fz9 = upd2 f28 36 (upd (f28 36) l1_28.toNatClampNeg (vp_nar .boolean 0)) ∧ va_P (dC, dI) vwCl (YW cy y0 r v28 fz9 w28 g28) H ∧ va_D A (YW cy y0 r v28 fz9 w28 g28) := ⟨_, rfl, hP, hD⟩
                              have hCf30 : YC f30 := by rw [ef30]; exact hCf28
                              have hRf30 : progOK (f30 4) (f30 5) (v28 9).toInt.toNat := by rw [ef30]; exact hRf28
                              have hs2_f30 : f30 2 = (f25 2) := by rw [ef30]; exact hs2_f28
                              have hs3_f30 : f30 3 = (f25 3) := by rw [ef30]; exact hs3_f28
                              have hs4_f30 : f30 4 = (f25 4) := by rw [ef30]; exact hs4_f28
                              have hs5_f30 : f30 5 = (f25 5) := by rw [ef30]; exact hs5_f28
                              obtain ⟨t31, et31⟩ : ∃ y : Int32, y = l1_28 + 1 := ⟨_, rfl⟩
                              have rg32 := fb_rng l1_28
                              have zt31 : t31.toInt = l1_28.toInt + 1 := by rw [et31]; exact add_i rfl (by decide) (by omega) (by omega)
                              refine lv_iinc (v := t31) (lv' := [(1, .int t31), (0, .ref y0)]) hx hb dX11_regiment_305 hl (k := 0) rfl (by rw [et31]; rfl) (by decide) rfl (fun ls hl => ?_)
                              refine lv_goto (tgt := 293) hx hb dX11_regiment_308 (by decide) ?_
                              have rg33 := fb_rng t31
                              exact ih28 t31 v28 f30 w28 g28 hIv28 hCf30 hRf30 hq0_v28 hq1_v28 hq3_v28 hq4_v28 hq5_v28 hq8_v28 hq9_v28 hq10_v28 hq13_v28 hq14_v28 hq15_v28 hq17_v28 hq18_v28 hq24_v28 hq25_v28 hq35_v28 hq36_v28 hq38_v28 hq39_v28 ⟨show (0 : Int) ≤ t31.toInt by omega, show t31.toInt ≤ (2147483647 : Int) by omega⟩ hs2_f30 hs3_f30 hs4_f30 hs5_f30 (by show (2147483647 - t31.toInt).toNat < n28; omega) _ _ _ hP hD hS (lv_sub hl [0, 1] rfl)
                        exact lp28 _ 0 (upd (upd (upd (upd v24 35 0) 36 0) 38 0) 37 0) f25 w26 g27 ⟨(YIb.upd (j := 37) (x := 0) (YIb.upd (j := 38) (x := 0) (YIb.upd (j := 36) (x := 0) (YIb.upd (j := 35) (x := 0) hIv24.1 (by decide) (by decide)) (by decide) (by decide)) (by decide) (by decide)) (by decide) (by decide)), (by have q9 := hIv24.2; have q0 : (0 : Int32).toInt = 0 := (by decide); show (0 : Int32).toInt + (0 : Int32).toInt ≤ 40; omega)⟩ hCf25 hRf25 hq0_v24 hq1_v24 hq3_v24 hq4_v24 hq5_v24 hq8_v24 hq9_v24 hq10_v24 hq13_v24 hq14_v24 hq15_v24 hq17_v24 hq18_v24 hq24_v24 hq25_v24 rfl rfl rfl hq39_v24 ⟨by decide, by decide⟩ rfl rfl rfl rfl (Nat.lt_succ_self _) _ _ _ hP hD hS (lv_sub hl [0, 1] rfl)
                      · skip
                        have zc16 : ¬ ((v1 18).toInt ≤ l1_15.toInt) := by rw [fa_le] at c16; exact c16
                        have rg34 := fb_rng l1_15
                        have rg35 := fb_rng (v1 18)
                        refine lv_aload_n hx hb dX11_regiment_198 rfl (lv_at hl 1 rfl) ?_
                        refine va_get (D := (dC, dI)) (ci := 11) (v := .ref (r 37)) (C := RX11) (T := TX11) (N := 79) hx hb hts inB_11 hown hE.1 hP 0 rfl rfl 37 (by decide) (hts _ k_1357) (fun _ h9 => h9) rfl dX11_regiment_199 ?_
                        refine lv_iload_n hx hb dX11_regiment_202 rfl (lv_at hl 0 rfl) ?_
                        refine lv_aload_n hx hb dX11_regiment_203 rfl (lv_at hl 1 rfl) ?_
                        refine va_get (D := (dC, dI)) (ci := 11) (v := .ref (r 30)) (C := RX11) (T := TX11) (N := 79) hx hb hts inB_11 hown hE.1 hP 0 rfl rfl 30 (by decide) (hts _ k_1350) (fun _ h9 => h9) rfl dX11_regiment_204 ?_
                        refine lv_iload_n hx hb dX11_regiment_207 rfl (lv_at hl 0 rfl) ?_
                        refine ldI hx hb hE hP 13 rfl (vp_in_iff.mpr ⟨by omega, by omega⟩) rfl rfl dX11_regiment_208 ?_
                        refine lv_topi (fun t36 et36 => ?_)
                        refine stI hx hb hE hP hD hS 20 rfl (vp_in_iff.mpr ⟨by omega, by omega⟩) rfl dX11_regiment_209 (fun H locs hP hD hS => ?_)
                        obtain ⟨f37, ef37, hP, hD⟩ : ∃ fz9, fz9 = upd2 f15 19 (upd (f15 19) l1_15.toNatClampNeg t36) ∧ va_P (dC, dI) vwCl (YW cy y0 r v15 fz9 w15 g15) H ∧ va_D A (YW cy y0 r v15 fz9 w15 g15) := ⟨_, rfl, hP, hD⟩
                        have hCf37 : YC f37 := by rw [ef37]; exact hCf15
                        have hRf37 : progOK (f37 4) (f37 5) (v15 9).toInt.toNat := by rw [ef37]; exact hRf15
                        have hs2_f37 : f37 2 = (f2 2) := by rw [ef37]; exact hs2_f15
                        have hs3_f37 : f37 3 = (f2 3) := by rw [ef37]; exact hs3_f15
                        have hs4_f37 : f37 4 = (f15 4) := by rw [ef37]; exact rfl
                        have hs5_f37 : f37 5 = (f15 5) := by rw [ef37]; exact rfl
                        refine lv_aload_n hx hb dX11_regiment_210 rfl (lv_at hl 1 rfl) ?_
                        refine va_get (D := (dC, dI)) (ci := 11) (v := .ref (r 38)) (C := RX11) (T := TX11) (N := 79) hx hb hts inB_11 hown hE.1 hP 0 rfl rfl 38 (by decide) (hts _ k_1358) (fun _ h9 => h9) rfl dX11_regiment_211 ?_
                        refine lv_iload_n hx hb dX11_regiment_214 rfl (lv_at hl 0 rfl) ?_
                        refine lv_aload_n hx hb dX11_regiment_215 rfl (lv_at hl 1 rfl) ?_
                        refine va_get (D := (dC, dI)) (ci := 11) (v := .ref (r 31)) (C := RX11) (T := TX11) (N := 79) hx hb hts inB_11 hown hE.1 hP 0 rfl rfl 31 (by decide) (hts _ k_1351) (fun _ h9 => h9) rfl dX11_regiment_216 ?_
                        refine lv_iload_n hx hb dX11_regiment_219 rfl (lv_at hl 0 rfl) ?_
                        refine ldI hx hb hE hP 14 rfl (vp_in_iff.mpr ⟨by omega, by omega⟩) rfl rfl dX11_regiment_220 ?_
                        refine lv_topi (fun t38 et38 => ?_)
                        refine stI hx hb hE hP hD hS 21 rfl (vp_in_iff.mpr ⟨by omega, by omega⟩) rfl dX11_regiment_221 (fun H locs hP hD hS => ?_)
                        obtain ⟨f39, ef39, hP, hD⟩ : ∃ fz9, fz9 = upd2 f37 20 (upd (f37 20) l1_15.toNatClampNeg t38) ∧ va_P (dC, dI) vwCl (YW cy y0 r v15 fz9 w15 g15) H ∧ va_D A (YW cy y0 r v15 fz9 w15 g15) := ⟨_, rfl, hP, hD⟩
                        have hCf39 : YC f39 := by rw [ef39]; exact hCf37
                        have hRf39 : progOK (f39 4) (f39 5) (v15 9).toInt.toNat := by rw [ef39]; exact hRf37
                        have hs2_f39 : f39 2 = (f2 2) := by rw [ef39]; exact hs2_f37
                        have hs3_f39 : f39 3 = (f2 3) := by rw [ef39]; exact hs3_f37
                        have hs4_f39 : f39 4 = (f15 4) := by rw [ef39]; exact hs4_f37
                        have hs5_f39 : f39 5 = (f15 5) := by rw [ef39]; exact hs5_f37
                        refine lv_aload_n hx hb dX11_regiment_222 rfl (lv_at hl 1 rfl) ?_
                        refine va_get (D := (dC, dI)) (ci := 11) (v := .ref (r 39)) (C := RX11) (T := TX11) (N := 79) hx hb hts inB_11 hown hE.1 hP 0 rfl rfl 39 (by decide) (hts _ k_1359) (fun _ h9 => h9) rfl dX11_regiment_223 ?_
                        refine lv_iload_n hx hb dX11_regiment_226 rfl (lv_at hl 0 rfl) ?_
                        refine lv_aload_n hx hb dX11_regiment_227 rfl (lv_at hl 1 rfl) ?_
                        refine va_get (D := (dC, dI)) (ci := 11) (v := .ref (r 32)) (C := RX11) (T := TX11) (N := 79) hx hb hts inB_11 hown hE.1 hP 0 rfl rfl 32 (by decide) (hts _ k_1352) (fun _ h9 => h9) rfl dX11_regiment_228 ?_
                        refine lv_iload_n hx hb dX11_regiment_231 rfl (lv_at hl 0 rfl) ?_
                        refine ldI hx hb hE hP 15 rfl (vp_in_iff.mpr ⟨by omega, by omega⟩) rfl rfl dX11_regiment_232 ?_
                        refine lv_topi (fun t40 et40 => ?_)
                        refine stI hx hb hE hP hD hS 22 rfl (vp_in_iff.mpr ⟨by omega, by omega⟩) rfl dX11_regiment_233 (fun H locs hP hD hS => ?_)
                        obtain ⟨f41, ef41, hP, hD⟩ : ∃ fz9, fz9 = upd2 f39 21 (upd (f39 21) l1_15.toNatClampNeg t40) ∧ va_P (dC, dI) vwCl (YW cy y0 r v15 fz9 w15 g15) H ∧ va_D A (YW cy y0 r v15 fz9 w15 g15) := ⟨_, rfl, hP, hD⟩
                        have hCf41 : YC f41 := by rw [ef41]; exact hCf39
                        have hRf41 : progOK (f41 4) (f41 5) (v15 9).toInt.toNat := by rw [ef41]; exact hRf39
                        have hs2_f41 : f41 2 = (f2 2) := by rw [ef41]; exact hs2_f39
                        have hs3_f41 : f41 3 = (f2 3) := by rw [ef41]; exact hs3_f39
                        have hs4_f41 : f41 4 = (f15 4) := by rw [ef41]; exact hs4_f39
                        have hs5_f41 : f41 5 = (f15 5) := by rw [ef41]; exact hs5_f39
                        refine lv_aload_n hx hb dX11_regiment_234 rfl (lv_at hl 1 rfl) ?_
                        refine va_get (D := (dC, dI)) (ci := 11) (v := .ref (r 40)) (C := RX11) (T := TX11) (N := 79) hx hb hts inB_11 hown hE.1 hP 0 rfl rfl 40 (by decide) (hts _ k_1360) (fun _ h9 => h9) rfl dX11_regiment_235 ?_
                        refine lv_iload_n hx hb dX11_regiment_238 rfl (lv_at hl 0 rfl) ?_
                        refine lv_aload_n hx hb dX11_regiment_239 rfl (lv_at hl 1 rfl) ?_
                        refine va_get (D := (dC, dI)) (ci := 11) (v := .ref (r 33)) (C := RX11) (T := TX11) (N := 79) hx hb hts inB_11 hown hE.1 hP 0 rfl rfl 33 (by decide) (hts _ k_1353) (fun _ h9 => h9) rfl dX11_regiment_240 ?_
                        refine lv_iload_n hx hb dX11_regiment_243 rfl (lv_at hl 0 rfl) ?_
                        refine ldI hx hb hE hP 16 rfl (vp_in_iff.mpr ⟨by omega, by omega⟩) rfl rfl dX11_regiment_244 ?_
                        refine lv_topi (fun t42 et42 => ?_)
                        refine stI hx hb hE hP hD hS 23 rfl (vp_in_iff.mpr ⟨by omega, by omega⟩) rfl dX11_regiment_245 (fun H locs hP hD hS => ?_)
                        obtain ⟨f43, ef43, hP, hD⟩ : ∃ fz9, fz9 = upd2 f41 22 (upd (f41 22) l1_15.toNatClampNeg t42) ∧ va_P (dC, dI) vwCl (YW cy y0 r v15 fz9 w15 g15) H ∧ va_D A (YW cy y0 r v15 fz9 w15 g15) := ⟨_, rfl, hP, hD⟩
                        have hCf43 : YC f43 := by rw [ef43]; exact hCf41
                        have hRf43 : progOK (f43 4) (f43 5) (v15 9).toInt.toNat := by rw [ef43]; exact hRf41
                        have hs2_f43 : f43 2 = (f2 2) := by rw [ef43]; exact hs2_f41
                        have hs3_f43 : f43 3 = (f2 3) := by rw [ef43]; exact hs3_f41
                        have hs4_f43 : f43 4 = (f15 4) := by rw [ef43]; exact hs4_f41
                        have hs5_f43 : f43 5 = (f15 5) := by rw [ef43]; exact hs5_f41
                        obtain ⟨t44, et44⟩ : ∃ y : Int32, y = l1_15 + 1 := ⟨_, rfl⟩
                        have zt44 : t44.toInt = l1_15.toInt + 1 := by rw [et44]; exact add_i rfl (by decide) (by omega) (by omega)
                        refine lv_iinc (v := t44) (lv' := [(1, .int t44), (0, .ref y0)]) hx hb dX11_regiment_246 hl (k := 0) rfl (by rw [et44]; rfl) (by decide) rfl (fun ls hl => ?_)
                        refine lv_goto (tgt := 190) hx hb dX11_regiment_249 (by decide) ?_
                        have rg45 := fb_rng t44
                        exact ih15 t44 v15 f43 w15 g15 hIv15 hCf43 hRf43 hq0_v15 hq1_v15 hq3_v15 hq4_v15 hq5_v15 hq8_v15 hq9_v15 hq10_v15 hq13_v15 hq14_v15 hq15_v15 hq17_v15 hq18_v15 hq24_v15 hq25_v15 hq35_v15 hq36_v15 hq38_v15 hq39_v15 ⟨show (0 : Int) ≤ t44.toInt by omega, show t44.toInt ≤ (2147483647 : Int) by omega⟩ hs2_f43 hs3_f43 (by show (2147483647 - t44.toInt).toNat < n15; omega) _ _ _ hP hD hS (lv_sub hl [0, 1] rfl)
                  exact lp15 _ 0 v11 f11 w11 g11 hIv11 hCf11 hRf11 hq0_v11 hq1_v11 hq3_v11 hq4_v11 hq5_v11 hq8_v11 hq9_v11 hq10_v11 hq13_v11 hq14_v11 hq15_v11 hq17_v11 hq18_v11 hq24_v11 hq25_v11 hq35_v11 hq36_v11 hq38_v11 hq39_v11 ⟨by decide, by decide⟩ hs2_f11 hs3_f11 (Nat.lt_succ_self _) _ _ _ hP hD hS (lv_sub hl [0, 1] rfl)
                · skip
                  have zc12 : ¬ ((v1 17).toInt ≤ l1_11.toInt) := by rw [fa_le] at c12; exact c12
                  have rg46 := fb_rng l1_11
                  have rg47 := fb_rng (v1 17)
                  refine lv_aload_n hx hb dX11_regiment_146 rfl (lv_at hl 1 rfl) ?_
                  refine va_get (D := (dC, dI)) (ci := 11) (v := .ref (r 34)) (C := RX11) (T := TX11) (N := 79) hx hb hts inB_11 hown hE.1 hP 0 rfl rfl 34 (by decide) (hts _ k_1354) (fun _ h9 => h9) rfl dX11_regiment_147 ?_
                  refine lv_iload_n hx hb dX11_regiment_150 rfl (lv_at hl 0 rfl) ?_
                  refine lv_aload_n hx hb dX11_regiment_151 rfl (lv_at hl 1 rfl) ?_
                  refine va_get (D := (dC, dI)) (ci := 11) (v := .ref (r 27)) (C := RX11) (T := TX11) (N := 79) hx hb hts inB_11 hown hE.1 hP 0 rfl rfl 27 (by decide) (hts _ k_1347) (fun _ h9 => h9) rfl dX11_regiment_152 ?_
                  refine lv_iload_n hx hb dX11_regiment_155 rfl (lv_at hl 0 rfl) ?_
                  refine ldI hx hb hE hP 10 rfl (vp_in_iff.mpr ⟨by omega, by omega⟩) rfl rfl dX11_regiment_156 ?_
                  refine lv_topi (fun t48 et48 => ?_)
                  refine stI hx hb hE hP hD hS 17 rfl (vp_in_iff.mpr ⟨by omega, by omega⟩) rfl dX11_regiment_157 (fun H locs hP hD hS => ?_)
                  obtain ⟨f49, ef49, hP, hD⟩ : ∃ fz9, fz9 = upd2 f11 16 (upd (f11 16) l1_11.toNatClampNeg t48) ∧ va_P (dC, dI) vwCl (YW cy y0 r v11 fz9 w11 g11) H ∧ va_D A (YW cy y0 r v11 fz9 w11 g11) := ⟨_, rfl, hP, hD⟩
                  have hCf49 : YC f49 := by rw [ef49]; exact hCf11
                  have hRf49 : progOK (f49 4) (f49 5) (v11 9).toInt.toNat := by rw [ef49]; exact hRf11
                  have hs2_f49 : f49 2 = (f2 2) := by rw [ef49]; exact hs2_f11
                  have hs3_f49 : f49 3 = (f2 3) := by rw [ef49]; exact hs3_f11
                  have hs4_f49 : f49 4 = (f11 4) := by rw [ef49]; exact rfl
                  have hs5_f49 : f49 5 = (f11 5) := by rw [ef49]; exact rfl
                  refine lv_aload_n hx hb dX11_regiment_158 rfl (lv_at hl 1 rfl) ?_
                  refine va_get (D := (dC, dI)) (ci := 11) (v := .ref (r 35)) (C := RX11) (T := TX11) (N := 79) hx hb hts inB_11 hown hE.1 hP 0 rfl rfl 35 (by decide) (hts _ k_1355) (fun _ h9 => h9) rfl dX11_regiment_159 ?_
                  refine lv_iload_n hx hb dX11_regiment_162 rfl (lv_at hl 0 rfl) ?_
                  refine lv_aload_n hx hb dX11_regiment_163 rfl (lv_at hl 1 rfl) ?_
                  refine va_get (D := (dC, dI)) (ci := 11) (v := .ref (r 28)) (C := RX11) (T := TX11) (N := 79) hx hb hts inB_11 hown hE.1 hP 0 rfl rfl 28 (by decide) (hts _ k_1348) (fun _ h9 => h9) rfl dX11_regiment_164 ?_
                  refine lv_iload_n hx hb dX11_regiment_167 rfl (lv_at hl 0 rfl) ?_
                  refine ldI hx hb hE hP 11 rfl (vp_in_iff.mpr ⟨by omega, by omega⟩) rfl rfl dX11_regiment_168 ?_
                  refine lv_topi (fun t50 et50 => ?_)
                  refine stI hx hb hE hP hD hS 18 rfl (vp_in_iff.mpr ⟨by omega, by omega⟩) rfl dX11_regiment_169 (fun H locs hP hD hS => ?_)
                  obtain ⟨f51, ef51, hP, hD⟩ : ∃ fz9, fz9 = upd2 f49 17 (upd (f49 17) l1_11.toNatClampNeg t50) ∧ va_P (dC, dI) vwCl (YW cy y0 r v11 fz9 w11 g11) H ∧ va_D A (YW cy y0 r v11 fz9 w11 g11) := ⟨_, rfl, hP, hD⟩
                  have hCf51 : YC f51 := by rw [ef51]; exact hCf49
                  have hRf51 : progOK (f51 4) (f51 5) (v11 9).toInt.toNat := by rw [ef51]; exact hRf49
                  have hs2_f51 : f51 2 = (f2 2) := by rw [ef51]; exact hs2_f49
                  have hs3_f51 : f51 3 = (f2 3) := by rw [ef51]; exact hs3_f49
                  have hs4_f51 : f51 4 = (f11 4) := by rw [ef51]; exact hs4_f49
                  have hs5_f51 : f51 5 = (f11 5) := by rw [ef51]; exact hs5_f49
                  refine lv_aload_n hx hb dX11_regiment_170 rfl (lv_at hl 1 rfl) ?_
                  refine va_get (D := (dC, dI)) (ci := 11) (v := .ref (r 36)) (C := RX11) (T := TX11) (N := 79) hx hb hts inB_11 hown hE.1 hP 0 rfl rfl 36 (by decide) (hts _ k_1356) (fun _ h9 => h9) rfl dX11_regiment_171 ?_
                  refine lv_iload_n hx hb dX11_regiment_174 rfl (lv_at hl 0 rfl) ?_
                  refine lv_aload_n hx hb dX11_regiment_175 rfl (lv_at hl 1 rfl) ?_
                  refine va_get (D := (dC, dI)) (ci := 11) (v := .ref (r 29)) (C := RX11) (T := TX11) (N := 79) hx hb hts inB_11 hown hE.1 hP 0 rfl rfl 29 (by decide) (hts _ k_1349) (fun _ h9 => h9) rfl dX11_regiment_176 ?_
                  refine lv_iload_n hx hb dX11_regiment_179 rfl (lv_at hl 0 rfl) ?_
                  refine ldI hx hb hE hP 12 rfl (vp_in_iff.mpr ⟨by omega, by omega⟩) rfl rfl dX11_regiment_180 ?_
                  refine lv_topi (fun t52 et52 => ?_)
                  refine stI hx hb hE hP hD hS 19 rfl (vp_in_iff.mpr ⟨by omega, by omega⟩) rfl dX11_regiment_181 (fun H locs hP hD hS => ?_)
                  obtain ⟨f53, ef53, hP, hD⟩ : ∃ fz9, fz9 = upd2 f51 18 (upd (f51 18) l1_11.toNatClampNeg t52) ∧ va_P (dC, dI) vwCl (YW cy y0 r v11 fz9 w11 g11) H ∧ va_D A (YW cy y0 r v11 fz9 w11 g11) := ⟨_, rfl, hP, hD⟩
                  have hCf53 : YC f53 := by rw [ef53]; exact hCf51
                  have hRf53 : progOK (f53 4) (f53 5) (v11 9).toInt.toNat := by rw [ef53]; exact hRf51
                  have hs2_f53 : f53 2 = (f2 2) := by rw [ef53]; exact hs2_f51
                  have hs3_f53 : f53 3 = (f2 3) := by rw [ef53]; exact hs3_f51
                  have hs4_f53 : f53 4 = (f11 4) := by rw [ef53]; exact hs4_f51
                  have hs5_f53 : f53 5 = (f11 5) := by rw [ef53]; exact hs5_f51
                  obtain ⟨t54, et54⟩ : ∃ y : Int32, y = l1_11 + 1 := ⟨_, rfl⟩
                  have zt54 : t54.toInt = l1_11.toInt + 1 := by rw [et54]; exact add_i rfl (by decide) (by omega) (by omega)
                  refine lv_iinc (v := t54) (lv' := [(1, .int t54), (0, .ref y0)]) hx hb dX11_regiment_182 hl (k := 0) rfl (by rw [et54]; rfl) (by decide) rfl (fun ls hl => ?_)
                  refine lv_goto (tgt := 138) hx hb dX11_regiment_185 (by decide) ?_
                  have rg55 := fb_rng t54
                  exact ih11 t54 v11 f53 w11 g11 hIv11 hCf53 hRf53 hq0_v11 hq1_v11 hq3_v11 hq4_v11 hq5_v11 hq8_v11 hq9_v11 hq10_v11 hq13_v11 hq14_v11 hq15_v11 hq17_v11 hq18_v11 hq24_v11 hq25_v11 hq35_v11 hq36_v11 hq38_v11 hq39_v11 ⟨show (0 : Int) ≤ t54.toInt by omega, show t54.toInt ≤ (2147483647 : Int) by omega⟩ hs2_f53 hs3_f53 (by show (2147483647 - t54.toInt).toNat < n11; omega) _ _ _ hP hD hS (lv_sub hl [0, 1] rfl)
            exact lp11 _ 0 v9 f9 w9 g9 hIv9 hCf9 hRf9 hq0_v9 hq1_v9 hq3_v9 hq4_v9 hq5_v9 hq8_v9 hq9_v9 hq10_v9 hq13_v9 hq14_v9 hq15_v9 hq17_v9 hq18_v9 hq24_v9 hq25_v9 hq35_v9 hq36_v9 hq38_v9 hq39_v9 ⟨by decide, by decide⟩ hs2_f9 hs3_f9 (Nat.lt_succ_self _) _ _ _ hP hD hS (lv_sub hl [0, 1] rfl)
          · skip
            have zc10 : ¬ (0 ≤ l1_9.toInt) := by rw [fa_le, show (0 : Int32).toInt = 0 from by decide] at c10; exact c10
            refine lv_aload_n hx hb dX11_regiment_106 rfl (lv_at hl 1 rfl) ?_
            refine va_get (D := (dC, dI)) (ci := 11) (v := .ref (r 13)) (C := RX11) (T := TX11) (N := 79) hx hb hts inB_11 hown hE.1 hP 0 rfl rfl 13 (by decide) (hts _ k_1333) (fun _ h9 => h9) rfl dX11_regiment_107 ?_
            refine lv_iload_n hx hb dX11_regiment_110 rfl (lv_at hl 0 rfl) ?_
            refine lv_aload_n hx hb dX11_regiment_111 rfl (lv_at hl 1 rfl) ?_
            refine va_get (D := (dC, dI)) (ci := 11) (v := .ref (r 11)) (C := RX11) (T := TX11) (N := 79) hx hb hts inB_11 hown hE.1 hP 0 rfl rfl 11 (by decide) (hts _ k_1331) (fun _ h9 => h9) rfl dX11_regiment_112 ?_
            refine lv_iload_n hx hb dX11_regiment_115 rfl (lv_at hl 0 rfl) ?_
            refine ldI hx hb hE hP 3 rfl (vp_in_iff.mpr ⟨by omega, by omega⟩) rfl rfl dX11_regiment_116 ?_
            refine lv_topi (fun t56 et56 => ?_)
            have hO2 : (f2 2) l1_9.toInt.toNat = t56 := by rw [et56, hs2_f9]; rfl
            refine stI hx hb hE hP hD hS 5 rfl (vp_in_iff.mpr ⟨by omega, by omega⟩) rfl dX11_regiment_117 (fun H locs hP hD hS => ?_)
            obtain ⟨f57, ef57, hP, hD⟩ : ∃ fz9, fz9 = upd2 f9 4 (upd (f9 4) l1_9.toNatClampNeg t56) ∧ va_P (dC, dI) vwCl (YW cy y0 r v9 fz9 w9 g9) H ∧ va_D A (YW cy y0 r v9 fz9 w9 g9) := ⟨_, rfl, hP, hD⟩
            have hCf57 : YC f57 := by rw [ef57]; exact hCf9
            have hs2_f57 : f57 2 = (f2 2) := by rw [ef57]; exact hs2_f9
            have hs3_f57 : f57 3 = (f2 3) := by rw [ef57]; exact hs3_f9
            have hs4_f57 : f57 4 = (upd (f9 4) (l1_9.toInt.toNat) t56) := by rw [ef57]; show upd (f9 4) (l1_9.toInt.toNat) t56 = _; rfl
            have hs5_f57 : f57 5 = (f9 5) := by rw [ef57]; exact rfl
            refine lv_aload_n hx hb dX11_regiment_118 rfl (lv_at hl 1 rfl) ?_
            refine va_get (D := (dC, dI)) (ci := 11) (v := .ref (r 14)) (C := RX11) (T := TX11) (N := 79) hx hb hts inB_11 hown hE.1 hP 0 rfl rfl 14 (by decide) (hts _ k_1334) (fun _ h9 => h9) rfl dX11_regiment_119 ?_
            refine lv_iload_n hx hb dX11_regiment_122 rfl (lv_at hl 0 rfl) ?_
            refine lv_aload_n hx hb dX11_regiment_123 rfl (lv_at hl 1 rfl) ?_
            refine va_get (D := (dC, dI)) (ci := 11) (v := .ref (r 12)) (C := RX11) (T := TX11) (N := 79) hx hb hts inB_11 hown hE.1 hP 0 rfl rfl 12 (by decide) (hts _ k_1332) (fun _ h9 => h9) rfl dX11_regiment_124 ?_
            refine lv_iload_n hx hb dX11_regiment_127 rfl (lv_at hl 0 rfl) ?_
            refine ldI hx hb hE hP 4 rfl (vp_in_iff.mpr ⟨by omega, by omega⟩) rfl rfl dX11_regiment_128 ?_
            refine lv_topi (fun t58 et58 => ?_)
            have hO3 : (f2 3) l1_9.toInt.toNat = t58 := by rw [et58, hs3_f57]; rfl
            refine stI hx hb hE hP hD hS 6 rfl (vp_in_iff.mpr ⟨by omega, by omega⟩) rfl dX11_regiment_129 (fun H locs hP hD hS => ?_)
            obtain ⟨f59, ef59, hP, hD⟩ : ∃ fz9, fz9 = upd2 f57 5 (upd (f57 5) l1_9.toNatClampNeg t58) ∧ va_P (dC, dI) vwCl (YW cy y0 r v9 fz9 w9 g9) H ∧ va_D A (YW cy y0 r v9 fz9 w9 g9) := ⟨_, rfl, hP, hD⟩
            have hCf59 : YC f59 := by rw [ef59]; exact hCf57
            have hs2_f59 : f59 2 = (f2 2) := by rw [ef59]; exact hs2_f57
            have hs3_f59 : f59 3 = (f2 3) := by rw [ef59]; exact hs3_f57
            have hs4_f59 : f59 4 = (upd (f9 4) (l1_9.toInt.toNat) t56) := by rw [ef59]; exact hs4_f57
            have hs5_f59 : f59 5 = (upd (f9 5) (l1_9.toInt.toNat) t58) := by rw [ef59]; show upd (f57 5) (l1_9.toInt.toNat) t58 = _; rw [hs5_f57]
            obtain ⟨t60, et60⟩ : ∃ y : Int32, y = l1_9 + 1 := ⟨_, rfl⟩
            have rg61 := fb_rng l1_9
            have zt60 : t60.toInt = l1_9.toInt + 1 := by rw [et60]; exact add_i rfl (by decide) (by omega) (by omega)
            refine lv_iinc (v := t60) (lv' := [(1, .int t60), (0, .ref y0)]) hx hb dX11_regiment_130 hl (k := 0) rfl (by rw [et60]; rfl) (by decide) rfl (fun ls hl => ?_)
            refine lv_goto (tgt := 98) hx hb dX11_regiment_133 (by decide) ?_
            have rg62 := fb_rng t60
            exact ih9 t60 v9 f59 w9 g9 hIv9 hCf59 hq0_v9 hq1_v9 hq3_v9 hq4_v9 hq5_v9 hq8_v9 hq9_v9 hq10_v9 hq13_v9 hq14_v9 hq15_v9 hq17_v9 hq18_v9 hq24_v9 hq25_v9 hq35_v9 hq36_v9 hq38_v9 hq39_v9 ⟨show (0 : Int) ≤ t60.toInt by omega, show t60.toInt ≤ (2147483647 : Int) by omega⟩ (by show progOK (f59 2) (f59 3) ((v9 9).toInt).toNat; rw [hs2_f59, hs3_f59]; exact prog_n hPG (by omega)) (by show ∀ j, j < (t60.toInt).toNat → (f59 4) j = (f59 2) j ∧ (f59 5) j = (f59 3) j; rw [hs2_f59, hs3_f59, hs4_f59, hs5_f59]; exact cp_step hCP hO2 hO3 (by omega)) hs2_f59 hs3_f59 (by show (2147483647 - t60.toInt).toNat < n9; omega) _ _ _ hP hD hS (lv_sub hl [0, 1] rfl)
      exact lp9 _ 0 (upd (upd (upd (upd (upd (upd (upd (upd (upd v1 24 (v1 17)) 25 (v1 18)) 26 (v1 19)) 27 (v1 20)) 28 (v1 21)) 29 (v1 22)) 12 (v1 11)) 16 (v1 15)) 9 0) f2 w3 g4 ⟨(YIb.upd (j := 9) (x := 0) (YIb.upd (j := 16) (x := (v1 15)) (YIb.upd (j := 12) (x := (v1 11)) (YIb.upd (j := 29) (x := (v1 22)) (YIb.upd (j := 28) (x := (v1 21)) (YIb.upd (j := 27) (x := (v1 20)) (YIb.upd (j := 26) (x := (v1 19)) (YIb.upd (j := 25) (x := (v1 18)) (YIb.upd (j := 24) (x := (v1 17)) hIv1.1 (show (0 : Int) ≤ (v1 17).toInt by omega) (show (v1 17).toInt ≤ (6 : Int) by omega)) (show (0 : Int) ≤ (v1 18).toInt by omega) (show (v1 18).toInt ≤ (6 : Int) by omega)) (rlo _) (rhi _)) (rlo _) (rhi _)) (rlo _) (rhi _)) (rlo _) (rhi _)) (rlo _) (rhi _)) (rlo _) (rhi _)) (by decide) (by decide)), hIv1.2⟩ hCf2 rfl rfl rfl rfl rfl rfl rfl rfl rfl rfl rfl rfl rfl rfl rfl hq35_v1 hq36_v1 hq38_v1 hq39_v1 ⟨by decide, by decide⟩ (by have q0 : (0 : Int32).toInt = 0 := (by decide); show progOK (f2 2) (f2 3) ((0 : Int32).toInt).toNat; first | exact prog_n (hPL (by omega) (by omega)) (by omega) | exact prog_0 (by decide)) (by have q0 : (0 : Int32).toInt = 0 := (by decide); show ∀ j, j < ((0 : Int32).toInt).toNat → (f2 4) j = (f2 2) j ∧ (f2 5) j = (f2 3) j; exact fun j hj => absurd hj (Nat.not_lt_zero _)) rfl rfl (Nat.lt_succ_self _) _ _ _ hP hD hS (lv_sub hl [0, 1] rfl)
    · skip
      have zc8 : ¬ ((v1 15).toInt = 0) := by rw [fa_eq, show (0 : Int32).toInt = 0 from by decide] at c8; exact c8
      refine lv_aload_n hx hb dX11_regiment_85 rfl (lv_at hl 0 rfl) ?_
      refine va_get (D := (dC, dI)) (ci := 11) (v := .int (v1 8)) (C := RX11) (T := TX11) (N := 79) hx hb hts inB_11 hown hE.1 hP 0 rfl rfl 17 (by decide) (hts _ k_1337) (fun _ h9 => h9) rfl dX11_regiment_86 ?_
      have b8_v1 : 0 ≤ (v1 8).toInt ∧ (v1 8).toInt ≤ 320 := YIb.b hIv1.1 8 (by decide)
      refine lv_goto (tgt := 93) hx hb dX11_regiment_89 (by decide) ?_
      refine va_put (D := (dC, dI)) (ci := 11) (v := .int (v1 8)) (ty := tyX11 18) (C := RX11) (T := TX11) (N := 79) hx hb hts inB_11 tyX11 tyX11_ok nmX11 hown hE.1 hP hD hS 0 rfl rfl 18 (by decide) (hts _ k_1338) (fun _ h9 => h9) rfl (tyX11_ok 18 (by decide)) rfl rfl (Nat.le_of_ble_eq_true rfl) dX11_regiment_93 (fun H locs hP hD hS => ?_)
      have hP : va_P (dC, dI) vwCl (YW cy y0 r (upd (upd (upd (upd (upd (upd (upd (upd (upd v1 24 (v1 17)) 25 (v1 18)) 26 (v1 19)) 27 (v1 20)) 28 (v1 21)) 29 (v1 22)) 12 (v1 11)) 16 (v1 15)) 9 (v1 8)) f2 w3 g4) H := hP
      have hD : va_D A (YW cy y0 r (upd (upd (upd (upd (upd (upd (upd (upd (upd v1 24 (v1 17)) 25 (v1 18)) 26 (v1 19)) 27 (v1 20)) 28 (v1 21)) 29 (v1 22)) 12 (v1 11)) 16 (v1 15)) 9 (v1 8)) f2 w3 g4) := hD
      refine lv_iconst (v := 0) hx hb dX11_regiment_96 (by decide) ?_
      refine lv_istore_n (lv' := [(1, .int 0), (0, .ref y0)]) hx hb dX11_regiment_97 rfl hl (by decide) rfl (fun ls hl => ?_)
      have lp63 : ∀ (n63 : Nat) (l1_63 : Int32) (v63 : Nat → Int32) (f63 : Nat → Nat → Int32) (w63 : Int64) (g63 : Nat → Int64), YI v63 → YC f63 → v63 0 = (v1 0) → v63 1 = (v1 1) → v63 3 = (v1 3) → v63 4 = (v1 4) → v63 5 = (v1 5) → v63 8 = (v1 8) → v63 9 = (v1 8) → v63 10 = (v1 10) → v63 13 = (v1 13) → v63 14 = (v1 14) → v63 15 = (v1 15) → v63 17 = (v1 17) → v63 18 = (v1 18) → v63 24 = (v1 17) → v63 25 = (v1 18) → v63 35 = (v 35) → v63 36 = (v 36) → v63 38 = (v 38) → v63 39 = (v 39) → ((0 : Int) ≤ l1_63.toInt ∧ l1_63.toInt ≤ 2147483647) → (progOK (f63 2) (f63 3) ((v63 9).toInt).toNat) → (∀ j, j < (l1_63.toInt).toNat → (f63 4) j = (f63 2) j ∧ (f63 5) j = (f63 3) j) → f63 2 = (f2 2) → f63 3 = (f2 3) → (2147483647 - l1_63.toInt).toNat < n63 → ∀ (H : Heap) (locs : List Loc) (ls : Array Slot), va_P (dC, dI) vwCl (YW cy y0 r v63 f63 w63 g63) H → va_D A (YW cy y0 r v63 f63 w63 g63) → va_S A s.heap H locs → lv_has ls 2 [(1, .int l1_63), (0, .ref y0)] → W p l e { frames := 9, cells := 0, slots := 0, locals := 232 } s m ([.ref y0] : List Value).toArray below meth c H locs 0 0 Q (F0 m 98 ls []) := by
        intro n63
        induction n63 with
        | zero => intro l1_63 v63 f63 w63 g63 hIv63 hCf63 hq0_v63 hq1_v63 hq3_v63 hq4_v63 hq5_v63 hq8_v63 hq9_v63 hq10_v63 hq13_v63 hq14_v63 hq15_v63 hq17_v63 hq18_v63 hq24_v63 hq25_v63 hq35_v63 hq36_v63 hq38_v63 hq39_v63 hr1_63 hx0_63 hx1_63 hs2_f63 hs3_f63 hm; exact absurd hm (Nat.not_lt_zero _)
        | succ n63 ih63 =>
          intro l1_63 v63 f63 w63 g63 hIv63 hCf63 hq0_v63 hq1_v63 hq3_v63 hq4_v63 hq5_v63 hq8_v63 hq9_v63 hq10_v63 hq13_v63 hq14_v63 hq15_v63 hq17_v63 hq18_v63 hq24_v63 hq25_v63 hq35_v63 hq36_v63 hq38_v63 hq39_v63 hr1_63 hx0_63 hx1_63 hs2_f63 hs3_f63 hm63 H locs ls hP hD hS hl
          have hUv63 : (v63 35).toInt + (v63 36).toInt ≤ 40 := hIv63.2
          have zq0_v63 := congrArg Int32.toInt hq0_v63
          have zq1_v63 := congrArg Int32.toInt hq1_v63
          have zq3_v63 := congrArg Int32.toInt hq3_v63
          have zq4_v63 := congrArg Int32.toInt hq4_v63
          have zq5_v63 := congrArg Int32.toInt hq5_v63
          have zq8_v63 := congrArg Int32.toInt hq8_v63
          have zq9_v63 := congrArg Int32.toInt hq9_v63
          have zq10_v63 := congrArg Int32.toInt hq10_v63
          have zq13_v63 := congrArg Int32.toInt hq13_v63
          have zq14_v63 := congrArg Int32.toInt hq14_v63
          have zq15_v63 := congrArg Int32.toInt hq15_v63
          have zq17_v63 := congrArg Int32.toInt hq17_v63
          have zq18_v63 := congrArg Int32.toInt hq18_v63
          have zq35_v63 := congrArg Int32.toInt hq35_v63
          have zq36_v63 := congrArg Int32.toInt hq36_v63
          have b9_v63 : 0 ≤ (v63 9).toInt ∧ (v63 9).toInt ≤ 320 := YIb.b hIv63.1 9 (by decide)
          have b8_v1 : 0 ≤ (v1 8).toInt ∧ (v1 8).toInt ≤ 320 := YIb.b hIv1.1 8 (by decide)
          rw [hs2_f63] at hx0_63
          rw [hs3_f63] at hx0_63
          rw [hs2_f63] at hx1_63
          rw [hs3_f63] at hx1_63
          have hPG := hx0_63
          have hCP := hx1_63
          refine lv_iload_n hx hb dX11_regiment_98 rfl (lv_at hl 0 rfl) ?_
          refine lv_aload_n hx hb dX11_regiment_99 rfl (lv_at hl 1 rfl) ?_
          refine va_get (D := (dC, dI)) (ci := 11) (v := .int (v63 9)) (C := RX11) (T := TX11) (N := 79) hx hb hts inB_11 hown hE.1 hP 0 rfl rfl 18 (by decide) (hts _ k_1338) (fun _ h9 => h9) rfl dX11_regiment_100 ?_
          refine tI (y := (v1 8)) hq9_v63 ?_
          refine lv_icmp_ge (tgt := 136) hx hb dX11_regiment_103 (by decide) (fun c64 => ?_) (fun c64 => ?_)
          · skip
            have zc64 : (v1 8).toInt ≤ l1_63.toInt := by rw [fa_le] at c64; exact c64
            have rg65 := fb_rng l1_63
            have rg66 := fb_rng (v1 8)
            have hRf63 : progOK (f63 4) (f63 5) (v63 9).toInt.toNat := cp_done hCP hPG (by omega)
            refine lv_iconst (v := 0) hx hb dX11_regiment_136 (by decide) ?_
            refine lv_istore_n (lv' := [(1, .int 0), (0, .ref y0)]) hx hb dX11_regiment_137 rfl hl (by decide) rfl (fun ls hl => ?_)
            have lp67 : ∀ (n67 : Nat) (l1_67 : Int32) (v67 : Nat → Int32) (f67 : Nat → Nat → Int32) (w67 : Int64) (g67 : Nat → Int64), YI v67 → YC f67 → progOK (f67 4) (f67 5) (v67 9).toInt.toNat → v67 0 = (v1 0) → v67 1 = (v1 1) → v67 3 = (v1 3) → v67 4 = (v1 4) → v67 5 = (v1 5) → v67 8 = (v1 8) → v67 9 = (v1 8) → v67 10 = (v1 10) → v67 13 = (v1 13) → v67 14 = (v1 14) → v67 15 = (v1 15) → v67 17 = (v1 17) → v67 18 = (v1 18) → v67 24 = (v1 17) → v67 25 = (v1 18) → v67 35 = (v 35) → v67 36 = (v 36) → v67 38 = (v 38) → v67 39 = (v 39) → ((0 : Int) ≤ l1_67.toInt ∧ l1_67.toInt ≤ 2147483647) → f67 2 = (f2 2) → f67 3 = (f2 3) → (2147483647 - l1_67.toInt).toNat < n67 → ∀ (H : Heap) (locs : List Loc) (ls : Array Slot), va_P (dC, dI) vwCl (YW cy y0 r v67 f67 w67 g67) H → va_D A (YW cy y0 r v67 f67 w67 g67) → va_S A s.heap H locs → lv_has ls 2 [(1, .int l1_67), (0, .ref y0)] → W p l e { frames := 9, cells := 0, slots := 0, locals := 232 } s m ([.ref y0] : List Value).toArray below meth c H locs 0 0 Q (F0 m 138 ls []) := by
              intro n67
              induction n67 with
              | zero => intro l1_67 v67 f67 w67 g67 hIv67 hCf67 hRf67 hq0_v67 hq1_v67 hq3_v67 hq4_v67 hq5_v67 hq8_v67 hq9_v67 hq10_v67 hq13_v67 hq14_v67 hq15_v67 hq17_v67 hq18_v67 hq24_v67 hq25_v67 hq35_v67 hq36_v67 hq38_v67 hq39_v67 hr1_67 hs2_f67 hs3_f67 hm; exact absurd hm (Nat.not_lt_zero _)
              | succ n67 ih67 =>
                intro l1_67 v67 f67 w67 g67 hIv67 hCf67 hRf67 hq0_v67 hq1_v67 hq3_v67 hq4_v67 hq5_v67 hq8_v67 hq9_v67 hq10_v67 hq13_v67 hq14_v67 hq15_v67 hq17_v67 hq18_v67 hq24_v67 hq25_v67 hq35_v67 hq36_v67 hq38_v67 hq39_v67 hr1_67 hs2_f67 hs3_f67 hm67 H locs ls hP hD hS hl
                have hUv67 : (v67 35).toInt + (v67 36).toInt ≤ 40 := hIv67.2
                have zq0_v67 := congrArg Int32.toInt hq0_v67
                have zq1_v67 := congrArg Int32.toInt hq1_v67
                have zq3_v67 := congrArg Int32.toInt hq3_v67
                have zq4_v67 := congrArg Int32.toInt hq4_v67
                have zq5_v67 := congrArg Int32.toInt hq5_v67
                have zq8_v67 := congrArg Int32.toInt hq8_v67
                have zq9_v67 := congrArg Int32.toInt hq9_v67
                have zq10_v67 := congrArg Int32.toInt hq10_v67
                have zq13_v67 := congrArg Int32.toInt hq13_v67
                have zq14_v67 := congrArg Int32.toInt hq14_v67
                have zq15_v67 := congrArg Int32.toInt hq15_v67
                have zq17_v67 := congrArg Int32.toInt hq17_v67
                have zq18_v67 := congrArg Int32.toInt hq18_v67
                have zq35_v67 := congrArg Int32.toInt hq35_v67
                have zq36_v67 := congrArg Int32.toInt hq36_v67
                refine lv_iload_n hx hb dX11_regiment_138 rfl (lv_at hl 0 rfl) ?_
                refine lv_aload_n hx hb dX11_regiment_139 rfl (lv_at hl 1 rfl) ?_
                refine va_get (D := (dC, dI)) (ci := 11) (v := .int (v67 24)) (C := RX11) (T := TX11) (N := 79) hx hb hts inB_11 hown hE.1 hP 0 rfl rfl 48 (by decide) (hts _ k_1368) (fun _ h9 => h9) rfl dX11_regiment_140 ?_
                refine tI (y := (v1 17)) hq24_v67 ?_
                have b17_v1 : 0 ≤ (v1 17).toInt ∧ (v1 17).toInt ≤ 6 := YIb.b hIv1.1 17 (by decide)
                refine lv_icmp_ge (tgt := 188) hx hb dX11_regiment_143 (by decide) (fun c68 => ?_) (fun c68 => ?_)
                · skip
                  have zc68 : (v1 17).toInt ≤ l1_67.toInt := by rw [fa_le] at c68; exact c68
                  have rg69 := fb_rng l1_67
                  have rg70 := fb_rng (v1 17)
                  refine lv_iconst (v := 0) hx hb dX11_regiment_188 (by decide) ?_
                  refine lv_istore_n (lv' := [(1, .int 0), (0, .ref y0)]) hx hb dX11_regiment_189 rfl hl (by decide) rfl (fun ls hl => ?_)
                  have lp71 : ∀ (n71 : Nat) (l1_71 : Int32) (v71 : Nat → Int32) (f71 : Nat → Nat → Int32) (w71 : Int64) (g71 : Nat → Int64), YI v71 → YC f71 → progOK (f71 4) (f71 5) (v71 9).toInt.toNat → v71 0 = (v1 0) → v71 1 = (v1 1) → v71 3 = (v1 3) → v71 4 = (v1 4) → v71 5 = (v1 5) → v71 8 = (v1 8) → v71 9 = (v1 8) → v71 10 = (v1 10) → v71 13 = (v1 13) → v71 14 = (v1 14) → v71 15 = (v1 15) → v71 17 = (v1 17) → v71 18 = (v1 18) → v71 24 = (v1 17) → v71 25 = (v1 18) → v71 35 = (v 35) → v71 36 = (v 36) → v71 38 = (v 38) → v71 39 = (v 39) → ((0 : Int) ≤ l1_71.toInt ∧ l1_71.toInt ≤ 2147483647) → f71 2 = (f2 2) → f71 3 = (f2 3) → (2147483647 - l1_71.toInt).toNat < n71 → ∀ (H : Heap) (locs : List Loc) (ls : Array Slot), va_P (dC, dI) vwCl (YW cy y0 r v71 f71 w71 g71) H → va_D A (YW cy y0 r v71 f71 w71 g71) → va_S A s.heap H locs → lv_has ls 2 [(1, .int l1_71), (0, .ref y0)] → W p l e { frames := 9, cells := 0, slots := 0, locals := 232 } s m ([.ref y0] : List Value).toArray below meth c H locs 0 0 Q (F0 m 190 ls []) := by
                    intro n71
                    induction n71 with
                    | zero => intro l1_71 v71 f71 w71 g71 hIv71 hCf71 hRf71 hq0_v71 hq1_v71 hq3_v71 hq4_v71 hq5_v71 hq8_v71 hq9_v71 hq10_v71 hq13_v71 hq14_v71 hq15_v71 hq17_v71 hq18_v71 hq24_v71 hq25_v71 hq35_v71 hq36_v71 hq38_v71 hq39_v71 hr1_71 hs2_f71 hs3_f71 hm; exact absurd hm (Nat.not_lt_zero _)
                    | succ n71 ih71 =>
                      intro l1_71 v71 f71 w71 g71 hIv71 hCf71 hRf71 hq0_v71 hq1_v71 hq3_v71 hq4_v71 hq5_v71 hq8_v71 hq9_v71 hq10_v71 hq13_v71 hq14_v71 hq15_v71 hq17_v71 hq18_v71 hq24_v71 hq25_v71 hq35_v71 hq36_v71 hq38_v71 hq39_v71 hr1_71 hs2_f71 hs3_f71 hm71 H locs ls hP hD hS hl
                      have hUv71 : (v71 35).toInt + (v71 36).toInt ≤ 40 := hIv71.2
                      have zq0_v71 := congrArg Int32.toInt hq0_v71
                      have zq1_v71 := congrArg Int32.toInt hq1_v71
                      have zq3_v71 := congrArg Int32.toInt hq3_v71
                      have zq4_v71 := congrArg Int32.toInt hq4_v71
                      have zq5_v71 := congrArg Int32.toInt hq5_v71
                      have zq8_v71 := congrArg Int32.toInt hq8_v71
                      have zq9_v71 := congrArg Int32.toInt hq9_v71
                      have zq10_v71 := congrArg Int32.toInt hq10_v71
                      have zq13_v71 := congrArg Int32.toInt hq13_v71
                      have zq14_v71 := congrArg Int32.toInt hq14_v71
                      have zq15_v71 := congrArg Int32.toInt hq15_v71
                      have zq17_v71 := congrArg Int32.toInt hq17_v71
                      have zq18_v71 := congrArg Int32.toInt hq18_v71
                      have zq35_v71 := congrArg Int32.toInt hq35_v71
                      have zq36_v71 := congrArg Int32.toInt hq36_v71
                      refine lv_iload_n hx hb dX11_regiment_190 rfl (lv_at hl 0 rfl) ?_
                      refine lv_aload_n hx hb dX11_regiment_191 rfl (lv_at hl 1 rfl) ?_
                      refine va_get (D := (dC, dI)) (ci := 11) (v := .int (v71 25)) (C := RX11) (T := TX11) (N := 79) hx hb hts inB_11 hown hE.1 hP 0 rfl rfl 49 (by decide) (hts _ k_1369) (fun _ h9 => h9) rfl dX11_regiment_192 ?_
                      refine tI (y := (v1 18)) hq25_v71 ?_
                      have b18_v1 : 0 ≤ (v1 18).toInt ∧ (v1 18).toInt ≤ 6 := YIb.b hIv1.1 18 (by decide)
                      refine lv_icmp_ge (tgt := 252) hx hb dX11_regiment_195 (by decide) (fun c72 => ?_) (fun c72 => ?_)
                      · skip
                        have zc72 : (v1 18).toInt ≤ l1_71.toInt := by rw [fa_le] at c72; exact c72
                        have rg73 := fb_rng l1_71
                        have rg74 := fb_rng (v1 18)
                        refine lv_aload_n hx hb dX11_regiment_252 rfl (lv_at hl 1 rfl) ?_
                        refine cbVv (n := 0) (rest := []) hx hb hml hown hts hE hP hD hS hA (sY_X11_begin_1 l dC dI cy y0 r  v71 f71 w71 g71 hIv71 hCf71 hRf71 ) k_1716 k_1718 k_68 k_114 k_1719 (by decide +kernel) ⟨Nat.le_of_ble_eq_true rfl, Nat.le_of_ble_eq_true rfl⟩ 0 11 rfl rfl (rfl) hl.1 rfl (Nat.le_of_ble_eq_true rfl) dX11_regiment_253 (fun u H locs hw hP hD hS => ?_)
                        obtain ⟨v75, f76, w77, g78⟩ := u
                        obtain ⟨hIv75, hCf76, hRf76, hk0_v75, hk1_v75, hk3_v75, hk4_v75, hk5_v75, hk8_v75, hk9_v75, hk10_v75, hk13_v75, hk14_v75, hk15_v75, hk17_v75, hk18_v75, hk24_v75, hk25_v75, hk35_v75, hk36_v75, hk38_v75, hk39_v75⟩ := hw
                        have hP : va_P (dC, dI) vwCl (YW cy y0 r v75 f76 w77 g78) H := hP
                        have hD : va_D A (YW cy y0 r v75 f76 w77 g78) := hD
                        have hUv75 : (v75 35).toInt + (v75 36).toInt ≤ 40 := hIv75.2
                        have hq0_v75 : v75 0 = (v1 0) := hk0_v75.trans hq0_v71
                        have zq0_v75 := congrArg Int32.toInt hq0_v75
                        have hq1_v75 : v75 1 = (v1 1) := hk1_v75.trans hq1_v71
                        have zq1_v75 := congrArg Int32.toInt hq1_v75
                        have hq3_v75 : v75 3 = (v1 3) := hk3_v75.trans hq3_v71
                        have zq3_v75 := congrArg Int32.toInt hq3_v75
                        have hq4_v75 : v75 4 = (v1 4) := hk4_v75.trans hq4_v71
                        have zq4_v75 := congrArg Int32.toInt hq4_v75
                        have hq5_v75 : v75 5 = (v1 5) := hk5_v75.trans hq5_v71
                        have zq5_v75 := congrArg Int32.toInt hq5_v75
                        have hq8_v75 : v75 8 = (v1 8) := hk8_v75.trans hq8_v71
                        have zq8_v75 := congrArg Int32.toInt hq8_v75
                        have hq9_v75 : v75 9 = (v1 8) := hk9_v75.trans hq9_v71
                        have zq9_v75 := congrArg Int32.toInt hq9_v75
                        have hq10_v75 : v75 10 = (v1 10) := hk10_v75.trans hq10_v71
                        have zq10_v75 := congrArg Int32.toInt hq10_v75
                        have hq13_v75 : v75 13 = (v1 13) := hk13_v75.trans hq13_v71
                        have zq13_v75 := congrArg Int32.toInt hq13_v75
                        have hq14_v75 : v75 14 = (v1 14) := hk14_v75.trans hq14_v71
                        have zq14_v75 := congrArg Int32.toInt hq14_v75
                        have hq15_v75 : v75 15 = (v1 15) := hk15_v75.trans hq15_v71
                        have zq15_v75 := congrArg Int32.toInt hq15_v75
                        have hq17_v75 : v75 17 = (v1 17) := hk17_v75.trans hq17_v71
                        have zq17_v75 := congrArg Int32.toInt hq17_v75
                        have hq18_v75 : v75 18 = (v1 18) := hk18_v75.trans hq18_v71
                        have zq18_v75 := congrArg Int32.toInt hq18_v75
                        have hq24_v75 : v75 24 = (v1 17) := hk24_v75.trans hq24_v71
                        have hq25_v75 : v75 25 = (v1 18) := hk25_v75.trans hq25_v71
                        have hq35_v75 : v75 35 = (v 35) := hk35_v75.trans hq35_v71
                        have zq35_v75 := congrArg Int32.toInt hq35_v75
                        have hq36_v75 : v75 36 = (v 36) := hk36_v75.trans hq36_v71
                        have zq36_v75 := congrArg Int32.toInt hq36_v75
                        have hq38_v75 : v75 38 = (v 38) := hk38_v75.trans hq38_v71
                        have hq39_v75 : v75 39 = (v 39) := hk39_v75.trans hq39_v71
                        refine lv_aload_n hx hb dX11_regiment_256 rfl (lv_at hl 1 rfl) ?_
                        refine va_get (D := (dC, dI)) (ci := 11) (v := .ref (r 60)) (C := RX11) (T := TX11) (N := 79) hx hb hts inB_11 hown hE.1 hP 0 rfl rfl 60 (by decide) (hts _ k_1380) (fun _ h9 => h9) rfl dX11_regiment_257 ?_
                        refine lv_bipush (v := 38) hx hb dX11_regiment_260 (by decide) ?_
                        refine lv_aload_n hx hb dX11_regiment_262 rfl (lv_at hl 1 rfl) ?_
                        refine va_get (D := (dC, dI)) (ci := 11) (v := .int (v75 23)) (C := RX11) (T := TX11) (N := 79) hx hb hts inB_11 hown hE.1 hP 0 rfl rfl 47 (by decide) (hts _ k_1367) (fun _ h9 => h9) rfl dX11_regiment_263 ?_
                        refine stI hx hb hE hP hD hS 25 rfl (vp_in_nI (n := 38) (by decide) (by decide)) rfl dX11_regiment_266 (fun H locs hP hD hS => ?_)
                        obtain ⟨f79, ef79, hP, hD⟩ : ∃ fz9, fz9 = upd2 f76 24 (upd (f76 24) (38 : Int32).toNatClampNeg (v75 23)) ∧ va_P (dC, dI) vwCl (YW cy y0 r v75 fz9 w77 g78) H ∧ va_D A (YW cy y0 r v75 fz9 w77 g78) := ⟨_, rfl, hP, hD⟩
                        have hCf79 : YC f79 := by rw [ef79]; exact ⟨hCf76.1, (wear_st hCf76.2.1 (by show 38 % 39 < 6 ∨ 12 ≤ 38 % 39 ∨ (-1 ≤ (v75 23).toInt ∧ (v75 23).toInt ≤ 5); omega)), hCf76.2.2.1, hCf76.2.2.2.1, hCf76.2.2.2.2.1, hCf76.2.2.2.2.2⟩
                        have hRf79 : progOK (f79 4) (f79 5) (v75 9).toInt.toNat := by rw [ef79]; exact hRf76
                        have hs2_f79 : f79 2 = (f76 2) := by rw [ef79]; exact rfl
                        have hs3_f79 : f79 3 = (f76 3) := by rw [ef79]; exact rfl
                        have hs4_f79 : f79 4 = (f76 4) := by rw [ef79]; exact rfl
                        have hs5_f79 : f79 5 = (f76 5) := by rw [ef79]; exact rfl
                        refine lv_aload_n hx hb dX11_regiment_267 rfl (lv_at hl 1 rfl) ?_
                        refine cbVv (n := 0) (rest := []) hx hb hml hown hts hE hP hD hS hA (sY_X11_keepAir_1 l dC dI cy y0 r  v75 f79 w77 g78 hIv75 hCf79 hRf79 ) k_1720 k_1722 k_69 k_114 k_1723 (by decide +kernel) ⟨Nat.le_of_ble_eq_true rfl, Nat.le_of_ble_eq_true rfl⟩ 0 11 rfl rfl (rfl) hl.1 rfl (Nat.le_of_ble_eq_true rfl) dX11_regiment_268 (fun u H locs hw hP hD hS => ?_)
                        obtain ⟨v80, f81, w82, g83⟩ := u
                        obtain ⟨hIv80, hCf81, hRf81, hk0_v80, hk1_v80, hk3_v80, hk4_v80, hk5_v80, hk8_v80, hk9_v80, hk10_v80, hk13_v80, hk14_v80, hk15_v80, hk17_v80, hk18_v80, hk24_v80, hk25_v80, hk35_v80, hk36_v80, hk38_v80, hk39_v80⟩ := hw
                        have hP : va_P (dC, dI) vwCl (YW cy y0 r v80 f81 w82 g83) H := hP
                        have hD : va_D A (YW cy y0 r v80 f81 w82 g83) := hD
                        have hUv80 : (v80 35).toInt + (v80 36).toInt ≤ 40 := hIv80.2
                        have hq0_v80 : v80 0 = (v1 0) := hk0_v80.trans hq0_v75
                        have zq0_v80 := congrArg Int32.toInt hq0_v80
                        have hq1_v80 : v80 1 = (v1 1) := hk1_v80.trans hq1_v75
                        have zq1_v80 := congrArg Int32.toInt hq1_v80
                        have hq3_v80 : v80 3 = (v1 3) := hk3_v80.trans hq3_v75
                        have zq3_v80 := congrArg Int32.toInt hq3_v80
                        have hq4_v80 : v80 4 = (v1 4) := hk4_v80.trans hq4_v75
                        have zq4_v80 := congrArg Int32.toInt hq4_v80
                        have hq5_v80 : v80 5 = (v1 5) := hk5_v80.trans hq5_v75
                        have zq5_v80 := congrArg Int32.toInt hq5_v80
                        have hq8_v80 : v80 8 = (v1 8) := hk8_v80.trans hq8_v75
                        have zq8_v80 := congrArg Int32.toInt hq8_v80
                        have hq9_v80 : v80 9 = (v1 8) := hk9_v80.trans hq9_v75
                        have zq9_v80 := congrArg Int32.toInt hq9_v80
                        have hq10_v80 : v80 10 = (v1 10) := hk10_v80.trans hq10_v75
                        have zq10_v80 := congrArg Int32.toInt hq10_v80
                        have hq13_v80 : v80 13 = (v1 13) := hk13_v80.trans hq13_v75
                        have zq13_v80 := congrArg Int32.toInt hq13_v80
                        have hq14_v80 : v80 14 = (v1 14) := hk14_v80.trans hq14_v75
                        have zq14_v80 := congrArg Int32.toInt hq14_v80
                        have hq15_v80 : v80 15 = (v1 15) := hk15_v80.trans hq15_v75
                        have zq15_v80 := congrArg Int32.toInt hq15_v80
                        have hq17_v80 : v80 17 = (v1 17) := hk17_v80.trans hq17_v75
                        have zq17_v80 := congrArg Int32.toInt hq17_v80
                        have hq18_v80 : v80 18 = (v1 18) := hk18_v80.trans hq18_v75
                        have zq18_v80 := congrArg Int32.toInt hq18_v80
                        have hq24_v80 : v80 24 = (v1 17) := hk24_v80.trans hq24_v75
                        have hq25_v80 : v80 25 = (v1 18) := hk25_v80.trans hq25_v75
                        have hq35_v80 : v80 35 = (v 35) := hk35_v80.trans hq35_v75
                        have zq35_v80 := congrArg Int32.toInt hq35_v80
                        have hq36_v80 : v80 36 = (v 36) := hk36_v80.trans hq36_v75
                        have zq36_v80 := congrArg Int32.toInt hq36_v80
                        have hq38_v80 : v80 38 = (v 38) := hk38_v80.trans hq38_v75
                        have hq39_v80 : v80 39 = (v 39) := hk39_v80.trans hq39_v75
                        refine lv_aload_n hx hb dX11_regiment_271 rfl (lv_at hl 1 rfl) ?_
                        refine lv_iconst (v := 0) hx hb dX11_regiment_272 (by decide) ?_
                        refine va_put (D := (dC, dI)) (ci := 11) (v := .int 0) (ty := tyX11 62) (C := RX11) (T := TX11) (N := 79) hx hb hts inB_11 tyX11 tyX11_ok nmX11 hown hE.1 hP hD hS 0 rfl rfl 62 (by decide) (hts _ k_1382) (fun _ h9 => h9) rfl (tyX11_ok 62 (by decide)) rfl rfl (Nat.le_of_ble_eq_true rfl) dX11_regiment_273 (fun H locs hP hD hS => ?_)
                        have hP : va_P (dC, dI) vwCl (YW cy y0 r (upd v80 35 0) f81 w82 g83) H := hP
                        have hD : va_D A (YW cy y0 r (upd v80 35 0) f81 w82 g83) := hD
                        refine lv_aload_n hx hb dX11_regiment_276 rfl (lv_at hl 1 rfl) ?_
                        refine lv_iconst (v := 0) hx hb dX11_regiment_277 (by decide) ?_
                        refine va_put (D := (dC, dI)) (ci := 11) (v := .int 0) (ty := tyX11 63) (C := RX11) (T := TX11) (N := 79) hx hb hts inB_11 tyX11 tyX11_ok nmX11 hown hE.1 hP hD hS 0 rfl rfl 63 (by decide) (hts _ k_1383) (fun _ h9 => h9) rfl (tyX11_ok 63 (by decide)) rfl rfl (Nat.le_of_ble_eq_true rfl) dX11_regiment_278 (fun H locs hP hD hS => ?_)
                        have hP : va_P (dC, dI) vwCl (YW cy y0 r (upd (upd v80 35 0) 36 0) f81 w82 g83) H := hP
                        have hD : va_D A (YW cy y0 r (upd (upd v80 35 0) 36 0) f81 w82 g83) := hD
                        refine lv_aload_n hx hb dX11_regiment_281 rfl (lv_at hl 1 rfl) ?_
                        refine lv_iconst (v := 0) hx hb dX11_regiment_282 (by decide) ?_
                        refine va_put (D := (dC, dI)) (ci := 11) (v := .int 0) (ty := tyX11 73) (C := RX11) (T := TX11) (N := 79) hx hb hts inB_11 tyX11 tyX11_ok nmX11 hown hE.1 hP hD hS 0 rfl rfl 73 (by decide) (hts _ k_1393) (fun _ h9 => h9) rfl (tyX11_ok 73 (by decide)) rfl rfl (Nat.le_of_ble_eq_true rfl) dX11_regiment_283 (fun H locs hP hD hS => ?_)
                        have hP : va_P (dC, dI) vwCl (YW cy y0 r (upd (upd (upd v80 35 0) 36 0) 38 0) f81 w82 g83) H := hP
                        have hD : va_D A (YW cy y0 r (upd (upd (upd v80 35 0) 36 0) 38 0) f81 w82 g83) := hD
                        refine lv_aload_n hx hb dX11_regiment_286 rfl (lv_at hl 1 rfl) ?_
                        refine lv_iconst (v := 0) hx hb dX11_regiment_287 (by decide) ?_
                        refine va_put (D := (dC, dI)) (ci := 11) (v := .int 0) (ty := tyX11 67) (C := RX11) (T := TX11) (N := 79) hx hb hts inB_11 tyX11 tyX11_ok nmX11 hown hE.1 hP hD hS 0 rfl rfl 67 (by decide) (hts _ k_1387) (fun _ h9 => h9) rfl (tyX11_ok 67 (by decide)) rfl rfl (Nat.le_of_ble_eq_true rfl) dX11_regiment_288 (fun H locs hP hD hS => ?_)
                        have hP : va_P (dC, dI) vwCl (YW cy y0 r (upd (upd (upd (upd v80 35 0) 36 0) 38 0) 37 0) f81 w82 g83) H := hP
                        have hD : va_D A (YW cy y0 r (upd (upd (upd (upd v80 35 0) 36 0) 38 0) 37 0) f81 w82 g83) := hD
                        refine lv_iconst (v := 0) hx hb dX11_regiment_291 (by decide) ?_
                        refine lv_istore_n (lv' := [(1, .int 0), (0, .ref y0)]) hx hb dX11_regiment_292 rfl hl (by decide) rfl (fun ls hl => ?_)
                        have lp84 : ∀ (n84 : Nat) (l1_84 : Int32) (v84 : Nat → Int32) (f84 : Nat → Nat → Int32) (w84 : Int64) (g84 : Nat → Int64), YI v84 → YC f84 → progOK (f84 4) (f84 5) (v84 9).toInt.toNat → v84 0 = (v1 0) → v84 1 = (v1 1) → v84 3 = (v1 3) → v84 4 = (v1 4) → v84 5 = (v1 5) → v84 8 = (v1 8) → v84 9 = (v1 8) → v84 10 = (v1 10) → v84 13 = (v1 13) → v84 14 = (v1 14) → v84 15 = (v1 15) → v84 17 = (v1 17) → v84 18 = (v1 18) → v84 24 = (v1 17) → v84 25 = (v1 18) → v84 35 = 0 → v84 36 = 0 → v84 38 = 0 → v84 39 = (v 39) → ((0 : Int) ≤ l1_84.toInt ∧ l1_84.toInt ≤ 2147483647) → f84 2 = (f81 2) → f84 3 = (f81 3) → f84 4 = (f81 4) → f84 5 = (f81 5) → (2147483647 - l1_84.toInt).toNat < n84 → ∀ (H : Heap) (locs : List Loc) (ls : Array Slot), va_P (dC, dI) vwCl (YW cy y0 r v84 f84 w84 g84) H → va_D A (YW cy y0 r v84 f84 w84 g84) → va_S A s.heap H locs → lv_has ls 2 [(1, .int l1_84), (0, .ref y0)] → W p l e { frames := 9, cells := 0, slots := 0, locals := 232 } s m ([.ref y0] : List Value).toArray below meth c H locs 0 0 Q (F0 m 293 ls []) := by
                          intro n84
                          induction n84 with
                          | zero => intro l1_84 v84 f84 w84 g84 hIv84 hCf84 hRf84 hq0_v84 hq1_v84 hq3_v84 hq4_v84 hq5_v84 hq8_v84 hq9_v84 hq10_v84 hq13_v84 hq14_v84 hq15_v84 hq17_v84 hq18_v84 hq24_v84 hq25_v84 hq35_v84 hq36_v84 hq38_v84 hq39_v84 hr1_84 hs2_f84 hs3_f84 hs4_f84 hs5_f84 hm; exact absurd hm (Nat.not_lt_zero _)
                          | succ n84 ih84 =>
                            intro l1_84 v84 f84 w84 g84 hIv84 hCf84 hRf84 hq0_v84 hq1_v84 hq3_v84 hq4_v84 hq5_v84 hq8_v84 hq9_v84 hq10_v84 hq13_v84 hq14_v84 hq15_v84 hq17_v84 hq18_v84 hq24_v84 hq25_v84 hq35_v84 hq36_v84 hq38_v84 hq39_v84 hr1_84 hs2_f84 hs3_f84 hs4_f84 hs5_f84 hm84 H locs ls hP hD hS hl
                            have hUv84 : (v84 35).toInt + (v84 36).toInt ≤ 40 := hIv84.2
                            have zq0_v84 := congrArg Int32.toInt hq0_v84
                            have zq1_v84 := congrArg Int32.toInt hq1_v84
                            have zq3_v84 := congrArg Int32.toInt hq3_v84
                            have zq4_v84 := congrArg Int32.toInt hq4_v84
                            have zq5_v84 := congrArg Int32.toInt hq5_v84
                            have zq8_v84 := congrArg Int32.toInt hq8_v84
                            have zq9_v84 := congrArg Int32.toInt hq9_v84
                            have zq10_v84 := congrArg Int32.toInt hq10_v84
                            have zq13_v84 := congrArg Int32.toInt hq13_v84
                            have zq14_v84 := congrArg Int32.toInt hq14_v84
                            have zq15_v84 := congrArg Int32.toInt hq15_v84
                            have zq17_v84 := congrArg Int32.toInt hq17_v84
                            have zq18_v84 := congrArg Int32.toInt hq18_v84
                            have zq35_v84 : (v84 35).toInt = 0 := by rw [hq35_v84]; decide
                            have zq36_v84 : (v84 36).toInt = 0 := by rw [hq36_v84]; decide
                            have zq38_v84 : (v84 38).toInt = 0 := by rw [hq38_v84]; decide
                            refine lv_iload_n hx hb dX11_regiment_293 rfl (lv_at hl 0 rfl) ?_
                            refine lv_iconst (v := 3) hx hb dX11_regiment_294 (by decide) ?_
                            refine lv_icmp_ge (tgt := 311) hx hb dX11_regiment_295 (by decide) (fun c85 => ?_) (fun c85 => ?_)
                            · skip
                              have zc85 : 3 ≤ l1_84.toInt := by rw [fa_le, show (3 : Int32).toInt = 3 from by decide] at c85; exact c85
                              refine lv_aload_n hx hb dX11_regiment_311 rfl (lv_at hl 1 rfl) ?_
                              refine va_get (D := (dC, dI)) (ci := 11) (v := .int (v84 24)) (C := RX11) (T := TX11) (N := 79) hx hb hts inB_11 hown hE.1 hP 0 rfl rfl 48 (by decide) (hts _ k_1368) (fun _ h9 => h9) rfl dX11_regiment_312 ?_
                              refine tI (y := (v1 17)) hq24_v84 ?_
                              have b17_v1 : 0 ≤ (v1 17).toInt ∧ (v1 17).toInt ≤ 6 := YIb.b hIv1.1 17 (by decide)
                              exact ret (v1 17) (v84, f84, w84, g84) _ _ _ _ _ _ rfl ⟨hIv84, hCf84, hRf84, hq39_v84, (by show (v84 0).toInt = 0; omega)⟩ hP hD hS dX11_regiment_315 (Nat.le_refl _) (Nat.le_refl _)
                            · skip
                              have zc85 : ¬ (3 ≤ l1_84.toInt) := by rw [fa_le, show (3 : Int32).toInt = 3 from by decide] at c85; exact c85
                              refine lv_aload_n hx hb dX11_regiment_298 rfl (lv_at hl 1 rfl) ?_
                              refine va_get (D := (dC, dI)) (ci := 11) (v := .ref (r 77)) (C := RX11) (T := TX11) (N := 79) hx hb hts inB_11 hown hE.1 hP 0 rfl rfl 77 (by decide) (hts _ k_1397) (fun _ h9 => h9) rfl dX11_regiment_299 ?_
                              refine lv_iload_n hx hb dX11_regiment_302 rfl (lv_at hl 0 rfl) ?_
                              refine lv_iconst (v := 0) hx hb dX11_regiment_303 (by decide) ?_
                              refine stZ hx hb hE hP hD hS 37 rfl (vp_in_iff.mpr ⟨by omega, by omega⟩) rfl dX11_regiment_304 (fun H locs hP hD hS => ?_)
                              obtain ⟨f86, ef86, hP, hD⟩ : ∃ fz9, fz9 = upd2 f84 36 (upd (f84 36) l1_84.toNatClampNeg (vp_nar .boolean 0)) ∧ va_P (dC, dI) vwCl (YW cy y0 r v84 fz9 w84 g84) H ∧ va_D A (YW cy y0 r v84 fz9 w84 g84) := ⟨_, rfl, hP, hD⟩
                              have hCf86 : YC f86 := by rw [ef86]; exact hCf84
                              have hRf86 : progOK (f86 4) (f86 5) (v84 9).toInt.toNat := by rw [ef86]; exact hRf84
                              have hs2_f86 : f86 2 = (f81 2) := by rw [ef86]; exact hs2_f84
                              have hs3_f86 : f86 3 = (f81 3) := by rw [ef86]; exact hs3_f84
                              have hs4_f86 : f86 4 = (f81 4) := by rw [ef86]; exact hs4_f84
                              have hs5_f86 : f86 5 = (f81 5) := by rw [ef86]; exact hs5_f84
                              obtain ⟨t87, et87⟩ : ∃ y : Int32, y = l1_84 + 1 := ⟨_, rfl⟩
                              have rg88 := fb_rng l1_84
                              have zt87 : t87.toInt = l1_84.toInt + 1 := by rw [et87]; exact add_i rfl (by decide) (by omega) (by omega)
                              refine lv_iinc (v := t87) (lv' := [(1, .int t87), (0, .ref y0)]) hx hb dX11_regiment_305 hl (k := 0) rfl (by rw [et87]; rfl) (by decide) rfl (fun ls hl => ?_)
                              refine lv_goto (tgt := 293) hx hb dX11_regiment_308 (by decide) ?_
                              have rg89 := fb_rng t87
                              exact ih84 t87 v84 f86 w84 g84 hIv84 hCf86 hRf86 hq0_v84 hq1_v84 hq3_v84 hq4_v84 hq5_v84 hq8_v84 hq9_v84 hq10_v84 hq13_v84 hq14_v84 hq15_v84 hq17_v84 hq18_v84 hq24_v84 hq25_v84 hq35_v84 hq36_v84 hq38_v84 hq39_v84 ⟨show (0 : Int) ≤ t87.toInt by omega, show t87.toInt ≤ (2147483647 : Int) by omega⟩ hs2_f86 hs3_f86 hs4_f86 hs5_f86 (by show (2147483647 - t87.toInt).toNat < n84; omega) _ _ _ hP hD hS (lv_sub hl [0, 1] rfl)
                        exact lp84 _ 0 (upd (upd (upd (upd v80 35 0) 36 0) 38 0) 37 0) f81 w82 g83 ⟨(YIb.upd (j := 37) (x := 0) (YIb.upd (j := 38) (x := 0) (YIb.upd (j := 36) (x := 0) (YIb.upd (j := 35) (x := 0) hIv80.1 (by decide) (by decide)) (by decide) (by decide)) (by decide) (by decide)) (by decide) (by decide)), (by have q9 := hIv80.2; have q0 : (0 : Int32).toInt = 0 := (by decide); show (0 : Int32).toInt + (0 : Int32).toInt ≤ 40; omega)⟩ hCf81 hRf81 hq0_v80 hq1_v80 hq3_v80 hq4_v80 hq5_v80 hq8_v80 hq9_v80 hq10_v80 hq13_v80 hq14_v80 hq15_v80 hq17_v80 hq18_v80 hq24_v80 hq25_v80 rfl rfl rfl hq39_v80 ⟨by decide, by decide⟩ rfl rfl rfl rfl (Nat.lt_succ_self _) _ _ _ hP hD hS (lv_sub hl [0, 1] rfl)
                      · skip
                        have zc72 : ¬ ((v1 18).toInt ≤ l1_71.toInt) := by rw [fa_le] at c72; exact c72
                        have rg90 := fb_rng l1_71
                        have rg91 := fb_rng (v1 18)
                        refine lv_aload_n hx hb dX11_regiment_198 rfl (lv_at hl 1 rfl) ?_
                        refine va_get (D := (dC, dI)) (ci := 11) (v := .ref (r 37)) (C := RX11) (T := TX11) (N := 79) hx hb hts inB_11 hown hE.1 hP 0 rfl rfl 37 (by decide) (hts _ k_1357) (fun _ h9 => h9) rfl dX11_regiment_199 ?_
                        refine lv_iload_n hx hb dX11_regiment_202 rfl (lv_at hl 0 rfl) ?_
                        refine lv_aload_n hx hb dX11_regiment_203 rfl (lv_at hl 1 rfl) ?_
                        refine va_get (D := (dC, dI)) (ci := 11) (v := .ref (r 30)) (C := RX11) (T := TX11) (N := 79) hx hb hts inB_11 hown hE.1 hP 0 rfl rfl 30 (by decide) (hts _ k_1350) (fun _ h9 => h9) rfl dX11_regiment_204 ?_
                        refine lv_iload_n hx hb dX11_regiment_207 rfl (lv_at hl 0 rfl) ?_
                        refine ldI hx hb hE hP 13 rfl (vp_in_iff.mpr ⟨by omega, by omega⟩) rfl rfl dX11_regiment_208 ?_
                        refine lv_topi (fun t92 et92 => ?_)
                        refine stI hx hb hE hP hD hS 20 rfl (vp_in_iff.mpr ⟨by omega, by omega⟩) rfl dX11_regiment_209 (fun H locs hP hD hS => ?_)
                        obtain ⟨f93, ef93, hP, hD⟩ : ∃ fz9, fz9 = upd2 f71 19 (upd (f71 19) l1_71.toNatClampNeg t92) ∧ va_P (dC, dI) vwCl (YW cy y0 r v71 fz9 w71 g71) H ∧ va_D A (YW cy y0 r v71 fz9 w71 g71) := ⟨_, rfl, hP, hD⟩
                        have hCf93 : YC f93 := by rw [ef93]; exact hCf71
                        have hRf93 : progOK (f93 4) (f93 5) (v71 9).toInt.toNat := by rw [ef93]; exact hRf71
                        have hs2_f93 : f93 2 = (f2 2) := by rw [ef93]; exact hs2_f71
                        have hs3_f93 : f93 3 = (f2 3) := by rw [ef93]; exact hs3_f71
                        have hs4_f93 : f93 4 = (f71 4) := by rw [ef93]; exact rfl
                        have hs5_f93 : f93 5 = (f71 5) := by rw [ef93]; exact rfl
                        refine lv_aload_n hx hb dX11_regiment_210 rfl (lv_at hl 1 rfl) ?_
                        refine va_get (D := (dC, dI)) (ci := 11) (v := .ref (r 38)) (C := RX11) (T := TX11) (N := 79) hx hb hts inB_11 hown hE.1 hP 0 rfl rfl 38 (by decide) (hts _ k_1358) (fun _ h9 => h9) rfl dX11_regiment_211 ?_
                        refine lv_iload_n hx hb dX11_regiment_214 rfl (lv_at hl 0 rfl) ?_
                        refine lv_aload_n hx hb dX11_regiment_215 rfl (lv_at hl 1 rfl) ?_
                        refine va_get (D := (dC, dI)) (ci := 11) (v := .ref (r 31)) (C := RX11) (T := TX11) (N := 79) hx hb hts inB_11 hown hE.1 hP 0 rfl rfl 31 (by decide) (hts _ k_1351) (fun _ h9 => h9) rfl dX11_regiment_216 ?_
                        refine lv_iload_n hx hb dX11_regiment_219 rfl (lv_at hl 0 rfl) ?_
                        refine ldI hx hb hE hP 14 rfl (vp_in_iff.mpr ⟨by omega, by omega⟩) rfl rfl dX11_regiment_220 ?_
                        refine lv_topi (fun t94 et94 => ?_)
                        refine stI hx hb hE hP hD hS 21 rfl (vp_in_iff.mpr ⟨by omega, by omega⟩) rfl dX11_regiment_221 (fun H locs hP hD hS => ?_)
                        obtain ⟨f95, ef95, hP, hD⟩ : ∃ fz9, fz9 = upd2 f93 20 (upd (f93 20) l1_71.toNatClampNeg t94) ∧ va_P (dC, dI) vwCl (YW cy y0 r v71 fz9 w71 g71) H ∧ va_D A (YW cy y0 r v71 fz9 w71 g71) := ⟨_, rfl, hP, hD⟩
                        have hCf95 : YC f95 := by rw [ef95]; exact hCf93
                        have hRf95 : progOK (f95 4) (f95 5) (v71 9).toInt.toNat := by rw [ef95]; exact hRf93
                        have hs2_f95 : f95 2 = (f2 2) := by rw [ef95]; exact hs2_f93
                        have hs3_f95 : f95 3 = (f2 3) := by rw [ef95]; exact hs3_f93
                        have hs4_f95 : f95 4 = (f71 4) := by rw [ef95]; exact hs4_f93
                        have hs5_f95 : f95 5 = (f71 5) := by rw [ef95]; exact hs5_f93
                        refine lv_aload_n hx hb dX11_regiment_222 rfl (lv_at hl 1 rfl) ?_
                        refine va_get (D := (dC, dI)) (ci := 11) (v := .ref (r 39)) (C := RX11) (T := TX11) (N := 79) hx hb hts inB_11 hown hE.1 hP 0 rfl rfl 39 (by decide) (hts _ k_1359) (fun _ h9 => h9) rfl dX11_regiment_223 ?_
                        refine lv_iload_n hx hb dX11_regiment_226 rfl (lv_at hl 0 rfl) ?_
                        refine lv_aload_n hx hb dX11_regiment_227 rfl (lv_at hl 1 rfl) ?_
                        refine va_get (D := (dC, dI)) (ci := 11) (v := .ref (r 32)) (C := RX11) (T := TX11) (N := 79) hx hb hts inB_11 hown hE.1 hP 0 rfl rfl 32 (by decide) (hts _ k_1352) (fun _ h9 => h9) rfl dX11_regiment_228 ?_
                        refine lv_iload_n hx hb dX11_regiment_231 rfl (lv_at hl 0 rfl) ?_
                        refine ldI hx hb hE hP 15 rfl (vp_in_iff.mpr ⟨by omega, by omega⟩) rfl rfl dX11_regiment_232 ?_
                        refine lv_topi (fun t96 et96 => ?_)
                        refine stI hx hb hE hP hD hS 22 rfl (vp_in_iff.mpr ⟨by omega, by omega⟩) rfl dX11_regiment_233 (fun H locs hP hD hS => ?_)
                        obtain ⟨f97, ef97, hP, hD⟩ : ∃ fz9, fz9 = upd2 f95 21 (upd (f95 21) l1_71.toNatClampNeg t96) ∧ va_P (dC, dI) vwCl (YW cy y0 r v71 fz9 w71 g71) H ∧ va_D A (YW cy y0 r v71 fz9 w71 g71) := ⟨_, rfl, hP, hD⟩
                        have hCf97 : YC f97 := by rw [ef97]; exact hCf95
                        have hRf97 : progOK (f97 4) (f97 5) (v71 9).toInt.toNat := by rw [ef97]; exact hRf95
                        have hs2_f97 : f97 2 = (f2 2) := by rw [ef97]; exact hs2_f95
                        have hs3_f97 : f97 3 = (f2 3) := by rw [ef97]; exact hs3_f95
                        have hs4_f97 : f97 4 = (f71 4) := by rw [ef97]; exact hs4_f95
                        have hs5_f97 : f97 5 = (f71 5) := by rw [ef97]; exact hs5_f95
                        refine lv_aload_n hx hb dX11_regiment_234 rfl (lv_at hl 1 rfl) ?_
                        refine va_get (D := (dC, dI)) (ci := 11) (v := .ref (r 40)) (C := RX11) (T := TX11) (N := 79) hx hb hts inB_11 hown hE.1 hP 0 rfl rfl 40 (by decide) (hts _ k_1360) (fun _ h9 => h9) rfl dX11_regiment_235 ?_
                        refine lv_iload_n hx hb dX11_regiment_238 rfl (lv_at hl 0 rfl) ?_
                        refine lv_aload_n hx hb dX11_regiment_239 rfl (lv_at hl 1 rfl) ?_
                        refine va_get (D := (dC, dI)) (ci := 11) (v := .ref (r 33)) (C := RX11) (T := TX11) (N := 79) hx hb hts inB_11 hown hE.1 hP 0 rfl rfl 33 (by decide) (hts _ k_1353) (fun _ h9 => h9) rfl dX11_regiment_240 ?_
                        refine lv_iload_n hx hb dX11_regiment_243 rfl (lv_at hl 0 rfl) ?_
                        refine ldI hx hb hE hP 16 rfl (vp_in_iff.mpr ⟨by omega, by omega⟩) rfl rfl dX11_regiment_244 ?_
                        refine lv_topi (fun t98 et98 => ?_)
                        refine stI hx hb hE hP hD hS 23 rfl (vp_in_iff.mpr ⟨by omega, by omega⟩) rfl dX11_regiment_245 (fun H locs hP hD hS => ?_)
                        obtain ⟨f99, ef99, hP, hD⟩ : ∃ fz9, fz9 = upd2 f97 22 (upd (f97 22) l1_71.toNatClampNeg t98) ∧ va_P (dC, dI) vwCl (YW cy y0 r v71 fz9 w71 g71) H ∧ va_D A (YW cy y0 r v71 fz9 w71 g71) := ⟨_, rfl, hP, hD⟩
                        have hCf99 : YC f99 := by rw [ef99]; exact hCf97
                        have hRf99 : progOK (f99 4) (f99 5) (v71 9).toInt.toNat := by rw [ef99]; exact hRf97
                        have hs2_f99 : f99 2 = (f2 2) := by rw [ef99]; exact hs2_f97
                        have hs3_f99 : f99 3 = (f2 3) := by rw [ef99]; exact hs3_f97
                        have hs4_f99 : f99 4 = (f71 4) := by rw [ef99]; exact hs4_f97
                        have hs5_f99 : f99 5 = (f71 5) := by rw [ef99]; exact hs5_f97
                        obtain ⟨t100, et100⟩ : ∃ y : Int32, y = l1_71 + 1 := ⟨_, rfl⟩
                        have zt100 : t100.toInt = l1_71.toInt + 1 := by rw [et100]; exact add_i rfl (by decide) (by omega) (by omega)
                        refine lv_iinc (v := t100) (lv' := [(1, .int t100), (0, .ref y0)]) hx hb dX11_regiment_246 hl (k := 0) rfl (by rw [et100]; rfl) (by decide) rfl (fun ls hl => ?_)
                        refine lv_goto (tgt := 190) hx hb dX11_regiment_249 (by decide) ?_
                        have rg101 := fb_rng t100
                        exact ih71 t100 v71 f99 w71 g71 hIv71 hCf99 hRf99 hq0_v71 hq1_v71 hq3_v71 hq4_v71 hq5_v71 hq8_v71 hq9_v71 hq10_v71 hq13_v71 hq14_v71 hq15_v71 hq17_v71 hq18_v71 hq24_v71 hq25_v71 hq35_v71 hq36_v71 hq38_v71 hq39_v71 ⟨show (0 : Int) ≤ t100.toInt by omega, show t100.toInt ≤ (2147483647 : Int) by omega⟩ hs2_f99 hs3_f99 (by show (2147483647 - t100.toInt).toNat < n71; omega) _ _ _ hP hD hS (lv_sub hl [0, 1] rfl)
                  exact lp71 _ 0 v67 f67 w67 g67 hIv67 hCf67 hRf67 hq0_v67 hq1_v67 hq3_v67 hq4_v67 hq5_v67 hq8_v67 hq9_v67 hq10_v67 hq13_v67 hq14_v67 hq15_v67 hq17_v67 hq18_v67 hq24_v67 hq25_v67 hq35_v67 hq36_v67 hq38_v67 hq39_v67 ⟨by decide, by decide⟩ hs2_f67 hs3_f67 (Nat.lt_succ_self _) _ _ _ hP hD hS (lv_sub hl [0, 1] rfl)
                · skip
                  have zc68 : ¬ ((v1 17).toInt ≤ l1_67.toInt) := by rw [fa_le] at c68; exact c68
                  have rg102 := fb_rng l1_67
                  have rg103 := fb_rng (v1 17)
                  refine lv_aload_n hx hb dX11_regiment_146 rfl (lv_at hl 1 rfl) ?_
                  refine va_get (D := (dC, dI)) (ci := 11) (v := .ref (r 34)) (C := RX11) (T := TX11) (N := 79) hx hb hts inB_11 hown hE.1 hP 0 rfl rfl 34 (by decide) (hts _ k_1354) (fun _ h9 => h9) rfl dX11_regiment_147 ?_
                  refine lv_iload_n hx hb dX11_regiment_150 rfl (lv_at hl 0 rfl) ?_
                  refine lv_aload_n hx hb dX11_regiment_151 rfl (lv_at hl 1 rfl) ?_
                  refine va_get (D := (dC, dI)) (ci := 11) (v := .ref (r 27)) (C := RX11) (T := TX11) (N := 79) hx hb hts inB_11 hown hE.1 hP 0 rfl rfl 27 (by decide) (hts _ k_1347) (fun _ h9 => h9) rfl dX11_regiment_152 ?_
                  refine lv_iload_n hx hb dX11_regiment_155 rfl (lv_at hl 0 rfl) ?_
                  refine ldI hx hb hE hP 10 rfl (vp_in_iff.mpr ⟨by omega, by omega⟩) rfl rfl dX11_regiment_156 ?_
                  refine lv_topi (fun t104 et104 => ?_)
                  refine stI hx hb hE hP hD hS 17 rfl (vp_in_iff.mpr ⟨by omega, by omega⟩) rfl dX11_regiment_157 (fun H locs hP hD hS => ?_)
                  obtain ⟨f105, ef105, hP, hD⟩ : ∃ fz9, fz9 = upd2 f67 16 (upd (f67 16) l1_67.toNatClampNeg t104) ∧ va_P (dC, dI) vwCl (YW cy y0 r v67 fz9 w67 g67) H ∧ va_D A (YW cy y0 r v67 fz9 w67 g67) := ⟨_, rfl, hP, hD⟩
                  have hCf105 : YC f105 := by rw [ef105]; exact hCf67
                  have hRf105 : progOK (f105 4) (f105 5) (v67 9).toInt.toNat := by rw [ef105]; exact hRf67
                  have hs2_f105 : f105 2 = (f2 2) := by rw [ef105]; exact hs2_f67
                  have hs3_f105 : f105 3 = (f2 3) := by rw [ef105]; exact hs3_f67
                  have hs4_f105 : f105 4 = (f67 4) := by rw [ef105]; exact rfl
                  have hs5_f105 : f105 5 = (f67 5) := by rw [ef105]; exact rfl
                  refine lv_aload_n hx hb dX11_regiment_158 rfl (lv_at hl 1 rfl) ?_
                  refine va_get (D := (dC, dI)) (ci := 11) (v := .ref (r 35)) (C := RX11) (T := TX11) (N := 79) hx hb hts inB_11 hown hE.1 hP 0 rfl rfl 35 (by decide) (hts _ k_1355) (fun _ h9 => h9) rfl dX11_regiment_159 ?_
                  refine lv_iload_n hx hb dX11_regiment_162 rfl (lv_at hl 0 rfl) ?_
                  refine lv_aload_n hx hb dX11_regiment_163 rfl (lv_at hl 1 rfl) ?_
                  refine va_get (D := (dC, dI)) (ci := 11) (v := .ref (r 28)) (C := RX11) (T := TX11) (N := 79) hx hb hts inB_11 hown hE.1 hP 0 rfl rfl 28 (by decide) (hts _ k_1348) (fun _ h9 => h9) rfl dX11_regiment_164 ?_
                  refine lv_iload_n hx hb dX11_regiment_167 rfl (lv_at hl 0 rfl) ?_
                  refine ldI hx hb hE hP 11 rfl (vp_in_iff.mpr ⟨by omega, by omega⟩) rfl rfl dX11_regiment_168 ?_
                  refine lv_topi (fun t106 et106 => ?_)
                  refine stI hx hb hE hP hD hS 18 rfl (vp_in_iff.mpr ⟨by omega, by omega⟩) rfl dX11_regiment_169 (fun H locs hP hD hS => ?_)
                  obtain ⟨f107, ef107, hP, hD⟩ : ∃ fz9, fz9 = upd2 f105 17 (upd (f105 17) l1_67.toNatClampNeg t106) ∧ va_P (dC, dI) vwCl (YW cy y0 r v67 fz9 w67 g67) H ∧ va_D A (YW cy y0 r v67 fz9 w67 g67) := ⟨_, rfl, hP, hD⟩
                  have hCf107 : YC f107 := by rw [ef107]; exact hCf105
                  have hRf107 : progOK (f107 4) (f107 5) (v67 9).toInt.toNat := by rw [ef107]; exact hRf105
                  have hs2_f107 : f107 2 = (f2 2) := by rw [ef107]; exact hs2_f105
                  have hs3_f107 : f107 3 = (f2 3) := by rw [ef107]; exact hs3_f105
                  have hs4_f107 : f107 4 = (f67 4) := by rw [ef107]; exact hs4_f105
                  have hs5_f107 : f107 5 = (f67 5) := by rw [ef107]; exact hs5_f105
                  refine lv_aload_n hx hb dX11_regiment_170 rfl (lv_at hl 1 rfl) ?_
                  refine va_get (D := (dC, dI)) (ci := 11) (v := .ref (r 36)) (C := RX11) (T := TX11) (N := 79) hx hb hts inB_11 hown hE.1 hP 0 rfl rfl 36 (by decide) (hts _ k_1356) (fun _ h9 => h9) rfl dX11_regiment_171 ?_
                  refine lv_iload_n hx hb dX11_regiment_174 rfl (lv_at hl 0 rfl) ?_
                  refine lv_aload_n hx hb dX11_regiment_175 rfl (lv_at hl 1 rfl) ?_
                  refine va_get (D := (dC, dI)) (ci := 11) (v := .ref (r 29)) (C := RX11) (T := TX11) (N := 79) hx hb hts inB_11 hown hE.1 hP 0 rfl rfl 29 (by decide) (hts _ k_1349) (fun _ h9 => h9) rfl dX11_regiment_176 ?_
                  refine lv_iload_n hx hb dX11_regiment_179 rfl (lv_at hl 0 rfl) ?_
                  refine ldI hx hb hE hP 12 rfl (vp_in_iff.mpr ⟨by omega, by omega⟩) rfl rfl dX11_regiment_180 ?_
                  refine lv_topi (fun t108 et108 => ?_)
                  refine stI hx hb hE hP hD hS 19 rfl (vp_in_iff.mpr ⟨by omega, by omega⟩) rfl dX11_regiment_181 (fun H locs hP hD hS => ?_)
                  obtain ⟨f109, ef109, hP, hD⟩ : ∃ fz9, fz9 = upd2 f107 18 (upd (f107 18) l1_67.toNatClampNeg t108) ∧ va_P (dC, dI) vwCl (YW cy y0 r v67 fz9 w67 g67) H ∧ va_D A (YW cy y0 r v67 fz9 w67 g67) := ⟨_, rfl, hP, hD⟩
                  have hCf109 : YC f109 := by rw [ef109]; exact hCf107
                  have hRf109 : progOK (f109 4) (f109 5) (v67 9).toInt.toNat := by rw [ef109]; exact hRf107
                  have hs2_f109 : f109 2 = (f2 2) := by rw [ef109]; exact hs2_f107
                  have hs3_f109 : f109 3 = (f2 3) := by rw [ef109]; exact hs3_f107
                  have hs4_f109 : f109 4 = (f67 4) := by rw [ef109]; exact hs4_f107
                  have hs5_f109 : f109 5 = (f67 5) := by rw [ef109]; exact hs5_f107
                  obtain ⟨t110, et110⟩ : ∃ y : Int32, y = l1_67 + 1 := ⟨_, rfl⟩
                  have zt110 : t110.toInt = l1_67.toInt + 1 := by rw [et110]; exact add_i rfl (by decide) (by omega) (by omega)
                  refine lv_iinc (v := t110) (lv' := [(1, .int t110), (0, .ref y0)]) hx hb dX11_regiment_182 hl (k := 0) rfl (by rw [et110]; rfl) (by decide) rfl (fun ls hl => ?_)
                  refine lv_goto (tgt := 138) hx hb dX11_regiment_185 (by decide) ?_
                  have rg111 := fb_rng t110
                  exact ih67 t110 v67 f109 w67 g67 hIv67 hCf109 hRf109 hq0_v67 hq1_v67 hq3_v67 hq4_v67 hq5_v67 hq8_v67 hq9_v67 hq10_v67 hq13_v67 hq14_v67 hq15_v67 hq17_v67 hq18_v67 hq24_v67 hq25_v67 hq35_v67 hq36_v67 hq38_v67 hq39_v67 ⟨show (0 : Int) ≤ t110.toInt by omega, show t110.toInt ≤ (2147483647 : Int) by omega⟩ hs2_f109 hs3_f109 (by show (2147483647 - t110.toInt).toNat < n67; omega) _ _ _ hP hD hS (lv_sub hl [0, 1] rfl)
            exact lp67 _ 0 v63 f63 w63 g63 hIv63 hCf63 hRf63 hq0_v63 hq1_v63 hq3_v63 hq4_v63 hq5_v63 hq8_v63 hq9_v63 hq10_v63 hq13_v63 hq14_v63 hq15_v63 hq17_v63 hq18_v63 hq24_v63 hq25_v63 hq35_v63 hq36_v63 hq38_v63 hq39_v63 ⟨by decide, by decide⟩ hs2_f63 hs3_f63 (Nat.lt_succ_self _) _ _ _ hP hD hS (lv_sub hl [0, 1] rfl)
          · skip
            have zc64 : ¬ ((v1 8).toInt ≤ l1_63.toInt) := by rw [fa_le] at c64; exact c64
            have rg112 := fb_rng l1_63
            have rg113 := fb_rng (v1 8)
            refine lv_aload_n hx hb dX11_regiment_106 rfl (lv_at hl 1 rfl) ?_
            refine va_get (D := (dC, dI)) (ci := 11) (v := .ref (r 13)) (C := RX11) (T := TX11) (N := 79) hx hb hts inB_11 hown hE.1 hP 0 rfl rfl 13 (by decide) (hts _ k_1333) (fun _ h9 => h9) rfl dX11_regiment_107 ?_
            refine lv_iload_n hx hb dX11_regiment_110 rfl (lv_at hl 0 rfl) ?_
            refine lv_aload_n hx hb dX11_regiment_111 rfl (lv_at hl 1 rfl) ?_
            refine va_get (D := (dC, dI)) (ci := 11) (v := .ref (r 11)) (C := RX11) (T := TX11) (N := 79) hx hb hts inB_11 hown hE.1 hP 0 rfl rfl 11 (by decide) (hts _ k_1331) (fun _ h9 => h9) rfl dX11_regiment_112 ?_
            refine lv_iload_n hx hb dX11_regiment_115 rfl (lv_at hl 0 rfl) ?_
            refine ldI hx hb hE hP 3 rfl (vp_in_iff.mpr ⟨by omega, by omega⟩) rfl rfl dX11_regiment_116 ?_
            refine lv_topi (fun t114 et114 => ?_)
            have hO2 : (f2 2) l1_63.toInt.toNat = t114 := by rw [et114, hs2_f63]; rfl
            refine stI hx hb hE hP hD hS 5 rfl (vp_in_iff.mpr ⟨by omega, by omega⟩) rfl dX11_regiment_117 (fun H locs hP hD hS => ?_)
            obtain ⟨f115, ef115, hP, hD⟩ : ∃ fz9, fz9 = upd2 f63 4 (upd (f63 4) l1_63.toNatClampNeg t114) ∧ va_P (dC, dI) vwCl (YW cy y0 r v63 fz9 w63 g63) H ∧ va_D A (YW cy y0 r v63 fz9 w63 g63) := ⟨_, rfl, hP, hD⟩
            have hCf115 : YC f115 := by rw [ef115]; exact hCf63
            have hs2_f115 : f115 2 = (f2 2) := by rw [ef115]; exact hs2_f63
            have hs3_f115 : f115 3 = (f2 3) := by rw [ef115]; exact hs3_f63
            have hs4_f115 : f115 4 = (upd (f63 4) (l1_63.toInt.toNat) t114) := by rw [ef115]; show upd (f63 4) (l1_63.toInt.toNat) t114 = _; rfl
            have hs5_f115 : f115 5 = (f63 5) := by rw [ef115]; exact rfl
            refine lv_aload_n hx hb dX11_regiment_118 rfl (lv_at hl 1 rfl) ?_
            refine va_get (D := (dC, dI)) (ci := 11) (v := .ref (r 14)) (C := RX11) (T := TX11) (N := 79) hx hb hts inB_11 hown hE.1 hP 0 rfl rfl 14 (by decide) (hts _ k_1334) (fun _ h9 => h9) rfl dX11_regiment_119 ?_
            refine lv_iload_n hx hb dX11_regiment_122 rfl (lv_at hl 0 rfl) ?_
            refine lv_aload_n hx hb dX11_regiment_123 rfl (lv_at hl 1 rfl) ?_
            refine va_get (D := (dC, dI)) (ci := 11) (v := .ref (r 12)) (C := RX11) (T := TX11) (N := 79) hx hb hts inB_11 hown hE.1 hP 0 rfl rfl 12 (by decide) (hts _ k_1332) (fun _ h9 => h9) rfl dX11_regiment_124 ?_
            refine lv_iload_n hx hb dX11_regiment_127 rfl (lv_at hl 0 rfl) ?_
            refine ldI hx hb hE hP 4 rfl (vp_in_iff.mpr ⟨by omega, by omega⟩) rfl rfl dX11_regiment_128 ?_
            refine lv_topi (fun t116 et116 => ?_)
            have hO3 : (f2 3) l1_63.toInt.toNat = t116 := by rw [et116, hs3_f115]; rfl
            refine stI hx hb hE hP hD hS 6 rfl (vp_in_iff.mpr ⟨by omega, by omega⟩) rfl dX11_regiment_129 (fun H locs hP hD hS => ?_)
            obtain ⟨f117, ef117, hP, hD⟩ : ∃ fz9, fz9 = upd2 f115 5 (upd (f115 5) l1_63.toNatClampNeg t116) ∧ va_P (dC, dI) vwCl (YW cy y0 r v63 fz9 w63 g63) H ∧ va_D A (YW cy y0 r v63 fz9 w63 g63) := ⟨_, rfl, hP, hD⟩
            have hCf117 : YC f117 := by rw [ef117]; exact hCf115
            have hs2_f117 : f117 2 = (f2 2) := by rw [ef117]; exact hs2_f115
            have hs3_f117 : f117 3 = (f2 3) := by rw [ef117]; exact hs3_f115
            have hs4_f117 : f117 4 = (upd (f63 4) (l1_63.toInt.toNat) t114) := by rw [ef117]; exact hs4_f115
            have hs5_f117 : f117 5 = (upd (f63 5) (l1_63.toInt.toNat) t116) := by rw [ef117]; show upd (f115 5) (l1_63.toInt.toNat) t116 = _; rw [hs5_f115]
            obtain ⟨t118, et118⟩ : ∃ y : Int32, y = l1_63 + 1 := ⟨_, rfl⟩
            have zt118 : t118.toInt = l1_63.toInt + 1 := by rw [et118]; exact add_i rfl (by decide) (by omega) (by omega)
            refine lv_iinc (v := t118) (lv' := [(1, .int t118), (0, .ref y0)]) hx hb dX11_regiment_130 hl (k := 0) rfl (by rw [et118]; rfl) (by decide) rfl (fun ls hl => ?_)
            refine lv_goto (tgt := 98) hx hb dX11_regiment_133 (by decide) ?_
            have rg119 := fb_rng t118
            exact ih63 t118 v63 f117 w63 g63 hIv63 hCf117 hq0_v63 hq1_v63 hq3_v63 hq4_v63 hq5_v63 hq8_v63 hq9_v63 hq10_v63 hq13_v63 hq14_v63 hq15_v63 hq17_v63 hq18_v63 hq24_v63 hq25_v63 hq35_v63 hq36_v63 hq38_v63 hq39_v63 ⟨show (0 : Int) ≤ t118.toInt by omega, show t118.toInt ≤ (2147483647 : Int) by omega⟩ (by show progOK (f117 2) (f117 3) ((v63 9).toInt).toNat; rw [hs2_f117, hs3_f117]; exact prog_n hPG (by omega)) (by show ∀ j, j < (t118.toInt).toNat → (f117 4) j = (f117 2) j ∧ (f117 5) j = (f117 3) j; rw [hs2_f117, hs3_f117, hs4_f117, hs5_f117]; exact cp_step hCP hO2 hO3 (by omega)) hs2_f117 hs3_f117 (by show (2147483647 - t118.toInt).toNat < n63; omega) _ _ _ hP hD hS (lv_sub hl [0, 1] rfl)
      exact lp63 _ 0 (upd (upd (upd (upd (upd (upd (upd (upd (upd v1 24 (v1 17)) 25 (v1 18)) 26 (v1 19)) 27 (v1 20)) 28 (v1 21)) 29 (v1 22)) 12 (v1 11)) 16 (v1 15)) 9 (v1 8)) f2 w3 g4 ⟨(YIb.upd (j := 9) (x := (v1 8)) (YIb.upd (j := 16) (x := (v1 15)) (YIb.upd (j := 12) (x := (v1 11)) (YIb.upd (j := 29) (x := (v1 22)) (YIb.upd (j := 28) (x := (v1 21)) (YIb.upd (j := 27) (x := (v1 20)) (YIb.upd (j := 26) (x := (v1 19)) (YIb.upd (j := 25) (x := (v1 18)) (YIb.upd (j := 24) (x := (v1 17)) hIv1.1 (show (0 : Int) ≤ (v1 17).toInt by omega) (show (v1 17).toInt ≤ (6 : Int) by omega)) (show (0 : Int) ≤ (v1 18).toInt by omega) (show (v1 18).toInt ≤ (6 : Int) by omega)) (rlo _) (rhi _)) (rlo _) (rhi _)) (rlo _) (rhi _)) (rlo _) (rhi _)) (rlo _) (rhi _)) (rlo _) (rhi _)) (show (0 : Int) ≤ (v1 8).toInt by omega) (show (v1 8).toInt ≤ (320 : Int) by omega)), hIv1.2⟩ hCf2 rfl rfl rfl rfl rfl rfl rfl rfl rfl rfl rfl rfl rfl rfl rfl hq35_v1 hq36_v1 hq38_v1 hq39_v1 ⟨by decide, by decide⟩ (by show progOK (f2 2) (f2 3) ((v1 8).toInt).toNat; first | exact prog_n (hPL (by omega) (by omega)) (by omega) | exact prog_0 (by decide)) (by show ∀ j, j < ((0 : Int32).toInt).toNat → (f2 4) j = (f2 2) j ∧ (f2 5) j = (f2 3) j; exact fun j hj => absurd hj (Nat.not_lt_zero _)) rfl rfl (Nat.lt_succ_self _) _ _ _ hP hD hS (lv_sub hl [0, 1] rfl)
  · skip
    have zc7 : ¬ ((v1 1).toInt ≤ 0) := by rw [fa_le, show (0 : Int32).toInt = 0 from by decide] at c7; exact c7
    refine lv_iconst (v := (-1)) hx hb dX11_regiment_11 (by decide) ?_
    exact ret (-1) (v1, f2, w3, g4) _ _ _ _ _ _ rfl ⟨hIv1, hCf2, hRf2, hk39_v1, (by show (v1 0).toInt = 0; omega)⟩ hP hD hS dX11_regiment_12 (Nat.le_refl _) (Nat.le_refl _)
