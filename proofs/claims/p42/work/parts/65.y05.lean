set_option maxHeartbeats 4000000 in
set_option maxRecDepth 100000 in
theorem sY_X11_readAll_1 (l : Launch) (dC : Nat → ClassId) (dI : Nat → Nat → Nat) (cy : Nat → ClassId) (y0 : Nat) (r : Nat → Nat)  (v : Nat → Int32) (f : Nat → Nat → Int32) (w : Int64) (g : Nat → Int64) (hIv : YI v) (hCf : YC f) (hRf : progOK (f 4) (f 5) (v 9).toInt.toNat)  : ctV l (dC, dI) cy yX11_readAll cX11_readAll 1 8 212 0 0 ((Nat → Int32) × (Nat → Nat → Int32) × (Int64) × (Nat → Int64)) [.ref y0] (YW cy y0 r v f w g) (fun u => YI u.1 ∧ YC u.2.1 ∧ progOK (u.2.1 4) (u.2.1 5) (u.1 9).toInt.toNat ∧ u.1 9 = v 9 ∧ u.1 24 = v 24 ∧ u.1 25 = v 25 ∧ u.1 35 = v 35 ∧ u.1 36 = v 36 ∧ u.1 38 = v 38 ∧ u.1 39 = v 39 ∧ ((u.1 1).toInt = 0 → ¬ (u.1 15).toInt = 0 → progOK (u.2.1 2) (u.2.1 3) ((u.1 8).toInt).toNat)) (fun u => YW cy y0 r u.1 u.2.1 u.2.2.1 u.2.2.2) := by
  refine ctV_of (by decide) (Nat.le_of_ble_eq_true rfl) (fun p e s m below meth c A ls Q hx hb hml hts hown hnm hE hP hD hA hl ret => ?_)
  have hUv : (v 35).toInt + (v 36).toInt ≤ 40 := hIv.2
  have b0_v : (0 : Int) ≤ (v 0).toInt ∧ (v 0).toInt ≤ 1600 := YIb.b hIv.1 0 (by decide)
  have b1_v : (0 : Int) ≤ (v 1).toInt ∧ (v 1).toInt ≤ 4 := YIb.b hIv.1 1 (by decide)
  have b3_v : (0 : Int) ≤ (v 3).toInt ∧ (v 3).toInt ≤ 1600 := YIb.b hIv.1 3 (by decide)
  have b4_v : (0 : Int) ≤ (v 4).toInt ∧ (v 4).toInt ≤ 1600 := YIb.b hIv.1 4 (by decide)
  have b8_v : (0 : Int) ≤ (v 8).toInt ∧ (v 8).toInt ≤ 320 := YIb.b hIv.1 8 (by decide)
  have b9_v : (0 : Int) ≤ (v 9).toInt ∧ (v 9).toInt ≤ 320 := YIb.b hIv.1 9 (by decide)
  have b10_v : (0 : Int) ≤ (v 10).toInt ∧ (v 10).toInt ≤ 160 := YIb.b hIv.1 10 (by decide)
  have b13_v : (0 : Int) ≤ (v 13).toInt ∧ (v 13).toInt ≤ 31 := YIb.b hIv.1 13 (by decide)
  have b14_v : (0 : Int) ≤ (v 14).toInt ∧ (v 14).toInt ≤ 8 := YIb.b hIv.1 14 (by decide)
  have b17_v : (0 : Int) ≤ (v 17).toInt ∧ (v 17).toInt ≤ 6 := YIb.b hIv.1 17 (by decide)
  have b18_v : (0 : Int) ≤ (v 18).toInt ∧ (v 18).toInt ≤ 6 := YIb.b hIv.1 18 (by decide)
  have b24_v : (0 : Int) ≤ (v 24).toInt ∧ (v 24).toInt ≤ 6 := YIb.b hIv.1 24 (by decide)
  have b25_v : (0 : Int) ≤ (v 25).toInt ∧ (v 25).toInt ≤ 6 := YIb.b hIv.1 25 (by decide)
  have b35_v : (0 : Int) ≤ (v 35).toInt ∧ (v 35).toInt ≤ 40 := YIb.b hIv.1 35 (by decide)
  have b36_v : (0 : Int) ≤ (v 36).toInt ∧ (v 36).toInt ≤ 40 := YIb.b hIv.1 36 (by decide)
  have b37_v : (0 : Int) ≤ (v 37).toInt ∧ (v 37).toInt ≤ 6 := YIb.b hIv.1 37 (by decide)
  have b38_v : (0 : Int) ≤ (v 38).toInt ∧ (v 38).toInt ≤ 30 := YIb.b hIv.1 38 (by decide)
  have b39_v : (0 : Int) ≤ (v 39).toInt ∧ (v 39).toInt ≤ 100000 := YIb.b hIv.1 39 (by decide)
  have hown : s.vm.findClass RX11 = some m.cls := hown
  have hS : va_S A s.heap s.heap [] := va_S.rf
  have hl : lv_has ls 1 [(0, .ref y0)] := hl
  refine lv_aload_n hx hb dX11_readAll_0 rfl (lv_at hl 0 rfl) ?_
  refine lv_aload_n hx hb dX11_readAll_1 rfl (lv_at hl 0 rfl) ?_
  refine va_get (D := (dC, dI)) (ci := 11) (v := .int (v 0)) (C := RX11) (T := TX11) (N := 79) hx hb hts inB_11 hown hE.1 hP 0 rfl rfl 1 (by decide) (hts _ k_1321) (fun _ h9 => h9) rfl dX11_readAll_2 ?_
  have b0_v : 0 ≤ (v 0).toInt ∧ (v 0).toInt ≤ 1600 := YIb.b hIv.1 0 (by decide)
  refine va_put (D := (dC, dI)) (ci := 11) (v := .int (v 0)) (ty := tyX11 5) (C := RX11) (T := TX11) (N := 79) hx hb hts inB_11 tyX11 tyX11_ok nmX11 hown hE.1 hP hD hS 0 rfl rfl 5 (by decide) (hts _ k_1325) (fun _ h9 => h9) rfl (tyX11_ok 5 (by decide)) rfl rfl (Nat.le_of_ble_eq_true rfl) dX11_readAll_5 (fun H locs hP hD hS => ?_)
  have hP : va_P (dC, dI) vwCl (YW cy y0 r (upd v 4 (v 0)) f w g) H := hP
  have hD : va_D A (YW cy y0 r (upd v 4 (v 0)) f w g) := hD
  refine lv_aload_n hx hb dX11_readAll_8 rfl (lv_at hl 0 rfl) ?_
  refine lv_iconst (v := 0) hx hb dX11_readAll_9 (by decide) ?_
  refine va_put (D := (dC, dI)) (ci := 11) (v := .int 0) (ty := tyX11 1) (C := RX11) (T := TX11) (N := 79) hx hb hts inB_11 tyX11 tyX11_ok nmX11 hown hE.1 hP hD hS 0 rfl rfl 1 (by decide) (hts _ k_1321) (fun _ h9 => h9) rfl (tyX11_ok 1 (by decide)) rfl rfl (Nat.le_of_ble_eq_true rfl) dX11_readAll_10 (fun H locs hP hD hS => ?_)
  have hP : va_P (dC, dI) vwCl (YW cy y0 r (upd (upd v 4 (v 0)) 0 0) f w g) H := hP
  have hD : va_D A (YW cy y0 r (upd (upd v 4 (v 0)) 0 0) f w g) := hD
  refine lv_aload_n hx hb dX11_readAll_13 rfl (lv_at hl 0 rfl) ?_
  refine lv_iconst (v := 0) hx hb dX11_readAll_14 (by decide) ?_
  refine va_put (D := (dC, dI)) (ci := 11) (v := .int 0) (ty := tyX11 4) (C := RX11) (T := TX11) (N := 79) hx hb hts inB_11 tyX11 tyX11_ok nmX11 hown hE.1 hP hD hS 0 rfl rfl 4 (by decide) (hts _ k_1324) (fun _ h9 => h9) rfl (tyX11_ok 4 (by decide)) rfl rfl (Nat.le_of_ble_eq_true rfl) dX11_readAll_15 (fun H locs hP hD hS => ?_)
  have hP : va_P (dC, dI) vwCl (YW cy y0 r (upd (upd (upd v 4 (v 0)) 0 0) 3 0) f w g) H := hP
  have hD : va_D A (YW cy y0 r (upd (upd (upd v 4 (v 0)) 0 0) 3 0) f w g) := hD
  refine lv_aload_n hx hb dX11_readAll_18 rfl (lv_at hl 0 rfl) ?_
  refine lv_iconst (v := 0) hx hb dX11_readAll_19 (by decide) ?_
  refine va_put (D := (dC, dI)) (ci := 11) (v := .int 0) (ty := tyX11 2) (C := RX11) (T := TX11) (N := 79) hx hb hts inB_11 tyX11 tyX11_ok nmX11 hown hE.1 hP hD hS 0 rfl rfl 2 (by decide) (hts _ k_1322) (fun _ h9 => h9) rfl (tyX11_ok 2 (by decide)) rfl rfl (Nat.le_of_ble_eq_true rfl) dX11_readAll_20 (fun H locs hP hD hS => ?_)
  have hP : va_P (dC, dI) vwCl (YW cy y0 r (upd (upd (upd (upd v 4 (v 0)) 0 0) 3 0) 1 0) f w g) H := hP
  have hD : va_D A (YW cy y0 r (upd (upd (upd (upd v 4 (v 0)) 0 0) 3 0) 1 0) f w g) := hD
  refine lv_aload_n hx hb dX11_readAll_23 rfl (lv_at hl 0 rfl) ?_
  refine lv_iconst (v := (-1)) hx hb dX11_readAll_24 (by decide) ?_
  refine va_put (D := (dC, dI)) (ci := 11) (v := .int (-1)) (ty := tyX11 3) (C := RX11) (T := TX11) (N := 79) hx hb hts inB_11 tyX11 tyX11_ok nmX11 hown hE.1 hP hD hS 0 rfl rfl 3 (by decide) (hts _ k_1323) (fun _ h9 => h9) rfl (tyX11_ok 3 (by decide)) rfl rfl (Nat.le_of_ble_eq_true rfl) dX11_readAll_25 (fun H locs hP hD hS => ?_)
  have hP : va_P (dC, dI) vwCl (YW cy y0 r (upd (upd (upd (upd (upd v 4 (v 0)) 0 0) 3 0) 1 0) 2 (-1)) f w g) H := hP
  have hD : va_D A (YW cy y0 r (upd (upd (upd (upd (upd v 4 (v 0)) 0 0) 3 0) 1 0) 2 (-1)) f w g) := hD
  refine lv_aload_n hx hb dX11_readAll_28 rfl (lv_at hl 0 rfl) ?_
  refine lv_iconst (v := 0) hx hb dX11_readAll_29 (by decide) ?_
  refine va_put (D := (dC, dI)) (ci := 11) (v := .int 0) (ty := tyX11 41) (C := RX11) (T := TX11) (N := 79) hx hb hts inB_11 tyX11 tyX11_ok nmX11 hown hE.1 hP hD hS 0 rfl rfl 41 (by decide) (hts _ k_1361) (fun _ h9 => h9) rfl (tyX11_ok 41 (by decide)) rfl rfl (Nat.le_of_ble_eq_true rfl) dX11_readAll_30 (fun H locs hP hD hS => ?_)
  have hP : va_P (dC, dI) vwCl (YW cy y0 r (upd (upd (upd (upd (upd (upd v 4 (v 0)) 0 0) 3 0) 1 0) 2 (-1)) 17 0) f w g) H := hP
  have hD : va_D A (YW cy y0 r (upd (upd (upd (upd (upd (upd v 4 (v 0)) 0 0) 3 0) 1 0) 2 (-1)) 17 0) f w g) := hD
  refine lv_aload_n hx hb dX11_readAll_33 rfl (lv_at hl 0 rfl) ?_
  refine lv_iconst (v := 0) hx hb dX11_readAll_34 (by decide) ?_
  refine va_put (D := (dC, dI)) (ci := 11) (v := .int 0) (ty := tyX11 42) (C := RX11) (T := TX11) (N := 79) hx hb hts inB_11 tyX11 tyX11_ok nmX11 hown hE.1 hP hD hS 0 rfl rfl 42 (by decide) (hts _ k_1362) (fun _ h9 => h9) rfl (tyX11_ok 42 (by decide)) rfl rfl (Nat.le_of_ble_eq_true rfl) dX11_readAll_35 (fun H locs hP hD hS => ?_)
  have hP : va_P (dC, dI) vwCl (YW cy y0 r (upd (upd (upd (upd (upd (upd (upd v 4 (v 0)) 0 0) 3 0) 1 0) 2 (-1)) 17 0) 18 0) f w g) H := hP
  have hD : va_D A (YW cy y0 r (upd (upd (upd (upd (upd (upd (upd v 4 (v 0)) 0 0) 3 0) 1 0) 2 (-1)) 17 0) 18 0) f w g) := hD
  refine lv_aload_n hx hb dX11_readAll_38 rfl (lv_at hl 0 rfl) ?_
  refine lv_bipush (v := 10) hx hb dX11_readAll_39 (by decide) ?_
  refine va_put (D := (dC, dI)) (ci := 11) (v := .int 10) (ty := tyX11 43) (C := RX11) (T := TX11) (N := 79) hx hb hts inB_11 tyX11 tyX11_ok nmX11 hown hE.1 hP hD hS 0 rfl rfl 43 (by decide) (hts _ k_1363) (fun _ h9 => h9) rfl (tyX11_ok 43 (by decide)) rfl rfl (Nat.le_of_ble_eq_true rfl) dX11_readAll_41 (fun H locs hP hD hS => ?_)
  have hP : va_P (dC, dI) vwCl (YW cy y0 r (upd (upd (upd (upd (upd (upd (upd (upd v 4 (v 0)) 0 0) 3 0) 1 0) 2 (-1)) 17 0) 18 0) 19 10) f w g) H := hP
  have hD : va_D A (YW cy y0 r (upd (upd (upd (upd (upd (upd (upd (upd v 4 (v 0)) 0 0) 3 0) 1 0) 2 (-1)) 17 0) 18 0) 19 10) f w g) := hD
  refine lv_aload_n hx hb dX11_readAll_44 rfl (lv_at hl 0 rfl) ?_
  refine lv_sipush (v := 150) hx hb dX11_readAll_45 (by decide) ?_
  refine va_put (D := (dC, dI)) (ci := 11) (v := .int 150) (ty := tyX11 44) (C := RX11) (T := TX11) (N := 79) hx hb hts inB_11 tyX11 tyX11_ok nmX11 hown hE.1 hP hD hS 0 rfl rfl 44 (by decide) (hts _ k_1364) (fun _ h9 => h9) rfl (tyX11_ok 44 (by decide)) rfl rfl (Nat.le_of_ble_eq_true rfl) dX11_readAll_48 (fun H locs hP hD hS => ?_)
  have hP : va_P (dC, dI) vwCl (YW cy y0 r (upd (upd (upd (upd (upd (upd (upd (upd (upd v 4 (v 0)) 0 0) 3 0) 1 0) 2 (-1)) 17 0) 18 0) 19 10) 20 150) f w g) H := hP
  have hD : va_D A (YW cy y0 r (upd (upd (upd (upd (upd (upd (upd (upd (upd v 4 (v 0)) 0 0) 3 0) 1 0) 2 (-1)) 17 0) 18 0) 19 10) 20 150) f w g) := hD
  refine lv_aload_n hx hb dX11_readAll_51 rfl (lv_at hl 0 rfl) ?_
  refine lv_iconst (v := 2) hx hb dX11_readAll_52 (by decide) ?_
  refine va_put (D := (dC, dI)) (ci := 11) (v := .int 2) (ty := tyX11 45) (C := RX11) (T := TX11) (N := 79) hx hb hts inB_11 tyX11 tyX11_ok nmX11 hown hE.1 hP hD hS 0 rfl rfl 45 (by decide) (hts _ k_1365) (fun _ h9 => h9) rfl (tyX11_ok 45 (by decide)) rfl rfl (Nat.le_of_ble_eq_true rfl) dX11_readAll_53 (fun H locs hP hD hS => ?_)
  have hP : va_P (dC, dI) vwCl (YW cy y0 r (upd (upd (upd (upd (upd (upd (upd (upd (upd (upd v 4 (v 0)) 0 0) 3 0) 1 0) 2 (-1)) 17 0) 18 0) 19 10) 20 150) 21 2) f w g) H := hP
  have hD : va_D A (YW cy y0 r (upd (upd (upd (upd (upd (upd (upd (upd (upd (upd v 4 (v 0)) 0 0) 3 0) 1 0) 2 (-1)) 17 0) 18 0) 19 10) 20 150) 21 2) f w g) := hD
  refine lv_aload_n hx hb dX11_readAll_56 rfl (lv_at hl 0 rfl) ?_
  refine lv_iconst (v := 0) hx hb dX11_readAll_57 (by decide) ?_
  refine va_put (D := (dC, dI)) (ci := 11) (v := .int 0) (ty := tyX11 46) (C := RX11) (T := TX11) (N := 79) hx hb hts inB_11 tyX11 tyX11_ok nmX11 hown hE.1 hP hD hS 0 rfl rfl 46 (by decide) (hts _ k_1366) (fun _ h9 => h9) rfl (tyX11_ok 46 (by decide)) rfl rfl (Nat.le_of_ble_eq_true rfl) dX11_readAll_58 (fun H locs hP hD hS => ?_)
  have hP : va_P (dC, dI) vwCl (YW cy y0 r (upd (upd (upd (upd (upd (upd (upd (upd (upd (upd (upd v 4 (v 0)) 0 0) 3 0) 1 0) 2 (-1)) 17 0) 18 0) 19 10) 20 150) 21 2) 22 0) f w g) H := hP
  have hD : va_D A (YW cy y0 r (upd (upd (upd (upd (upd (upd (upd (upd (upd (upd (upd v 4 (v 0)) 0 0) 3 0) 1 0) 2 (-1)) 17 0) 18 0) 19 10) 20 150) 21 2) 22 0) f w g) := hD
  refine lv_aload_n hx hb dX11_readAll_61 rfl (lv_at hl 0 rfl) ?_
  refine lv_iconst (v := 0) hx hb dX11_readAll_62 (by decide) ?_
  refine va_put (D := (dC, dI)) (ci := 11) (v := .int 0) (ty := tyX11 47) (C := RX11) (T := TX11) (N := 79) hx hb hts inB_11 tyX11 tyX11_ok nmX11 hown hE.1 hP hD hS 0 rfl rfl 47 (by decide) (hts _ k_1367) (fun _ h9 => h9) rfl (tyX11_ok 47 (by decide)) rfl rfl (Nat.le_of_ble_eq_true rfl) dX11_readAll_63 (fun H locs hP hD hS => ?_)
  have hP : va_P (dC, dI) vwCl (YW cy y0 r (upd (upd (upd (upd (upd (upd (upd (upd (upd (upd (upd (upd v 4 (v 0)) 0 0) 3 0) 1 0) 2 (-1)) 17 0) 18 0) 19 10) 20 150) 21 2) 22 0) 23 0) f w g) H := hP
  have hD : va_D A (YW cy y0 r (upd (upd (upd (upd (upd (upd (upd (upd (upd (upd (upd (upd v 4 (v 0)) 0 0) 3 0) 1 0) 2 (-1)) 17 0) 18 0) 19 10) 20 150) 21 2) 22 0) 23 0) f w g) := hD
  refine lv_aload_n hx hb dX11_readAll_66 rfl (lv_at hl 0 rfl) ?_
  refine lv_iconst (v := 0) hx hb dX11_readAll_67 (by decide) ?_
  refine va_put (D := (dC, dI)) (ci := 11) (v := .int 0) (ty := tyX11 54) (C := RX11) (T := TX11) (N := 79) hx hb hts inB_11 tyX11 tyX11_ok nmX11 hown hE.1 hP hD hS 0 rfl rfl 54 (by decide) (hts _ k_1374) (fun _ h9 => h9) rfl (tyX11_ok 54 (by decide)) rfl rfl (Nat.le_of_ble_eq_true rfl) dX11_readAll_68 (fun H locs hP hD hS => ?_)
  have hP : va_P (dC, dI) vwCl (YW cy y0 r (upd (upd (upd (upd (upd (upd (upd (upd (upd (upd (upd (upd (upd v 4 (v 0)) 0 0) 3 0) 1 0) 2 (-1)) 17 0) 18 0) 19 10) 20 150) 21 2) 22 0) 23 0) 30 0) f w g) H := hP
  have hD : va_D A (YW cy y0 r (upd (upd (upd (upd (upd (upd (upd (upd (upd (upd (upd (upd (upd v 4 (v 0)) 0 0) 3 0) 1 0) 2 (-1)) 17 0) 18 0) 19 10) 20 150) 21 2) 22 0) 23 0) 30 0) f w g) := hD
  refine lv_aload_n hx hb dX11_readAll_71 rfl (lv_at hl 0 rfl) ?_
  refine lv_iconst (v := 0) hx hb dX11_readAll_72 (by decide) ?_
  refine va_put (D := (dC, dI)) (ci := 11) (v := .int 0) (ty := tyX11 55) (C := RX11) (T := TX11) (N := 79) hx hb hts inB_11 tyX11 tyX11_ok nmX11 hown hE.1 hP hD hS 0 rfl rfl 55 (by decide) (hts _ k_1375) (fun _ h9 => h9) rfl (tyX11_ok 55 (by decide)) rfl rfl (Nat.le_of_ble_eq_true rfl) dX11_readAll_73 (fun H locs hP hD hS => ?_)
  have hP : va_P (dC, dI) vwCl (YW cy y0 r (upd (upd (upd (upd (upd (upd (upd (upd (upd (upd (upd (upd (upd (upd v 4 (v 0)) 0 0) 3 0) 1 0) 2 (-1)) 17 0) 18 0) 19 10) 20 150) 21 2) 22 0) 23 0) 30 0) 31 0) f w g) H := hP
  have hD : va_D A (YW cy y0 r (upd (upd (upd (upd (upd (upd (upd (upd (upd (upd (upd (upd (upd (upd v 4 (v 0)) 0 0) 3 0) 1 0) 2 (-1)) 17 0) 18 0) 19 10) 20 150) 21 2) 22 0) 23 0) 30 0) 31 0) f w g) := hD
  refine lv_aload_n hx hb dX11_readAll_76 rfl (lv_at hl 0 rfl) ?_
  refine lv_iconst (v := 0) hx hb dX11_readAll_77 (by decide) ?_
  refine va_put (D := (dC, dI)) (ci := 11) (v := .int 0) (ty := tyX11 56) (C := RX11) (T := TX11) (N := 79) hx hb hts inB_11 tyX11 tyX11_ok nmX11 hown hE.1 hP hD hS 0 rfl rfl 56 (by decide) (hts _ k_1376) (fun _ h9 => h9) rfl (tyX11_ok 56 (by decide)) rfl rfl (Nat.le_of_ble_eq_true rfl) dX11_readAll_78 (fun H locs hP hD hS => ?_)
  have hP : va_P (dC, dI) vwCl (YW cy y0 r (upd (upd (upd (upd (upd (upd (upd (upd (upd (upd (upd (upd (upd (upd (upd v 4 (v 0)) 0 0) 3 0) 1 0) 2 (-1)) 17 0) 18 0) 19 10) 20 150) 21 2) 22 0) 23 0) 30 0) 31 0) 32 0) f w g) H := hP
  have hD : va_D A (YW cy y0 r (upd (upd (upd (upd (upd (upd (upd (upd (upd (upd (upd (upd (upd (upd (upd v 4 (v 0)) 0 0) 3 0) 1 0) 2 (-1)) 17 0) 18 0) 19 10) 20 150) 21 2) 22 0) 23 0) 30 0) 31 0) 32 0) f w g) := hD
  refine lv_aload_n hx hb dX11_readAll_81 rfl (lv_at hl 0 rfl) ?_
  refine lv_iconst (v := 0) hx hb dX11_readAll_82 (by decide) ?_
  refine va_put (D := (dC, dI)) (ci := 11) (v := .int 0) (ty := tyX11 57) (C := RX11) (T := TX11) (N := 79) hx hb hts inB_11 tyX11 tyX11_ok nmX11 hown hE.1 hP hD hS 0 rfl rfl 57 (by decide) (hts _ k_1377) (fun _ h9 => h9) rfl (tyX11_ok 57 (by decide)) rfl rfl (Nat.le_of_ble_eq_true rfl) dX11_readAll_83 (fun H locs hP hD hS => ?_)
  have hP : va_P (dC, dI) vwCl (YW cy y0 r (upd (upd (upd (upd (upd (upd (upd (upd (upd (upd (upd (upd (upd (upd (upd (upd v 4 (v 0)) 0 0) 3 0) 1 0) 2 (-1)) 17 0) 18 0) 19 10) 20 150) 21 2) 22 0) 23 0) 30 0) 31 0) 32 0) 33 0) f w g) H := hP
  have hD : va_D A (YW cy y0 r (upd (upd (upd (upd (upd (upd (upd (upd (upd (upd (upd (upd (upd (upd (upd (upd v 4 (v 0)) 0 0) 3 0) 1 0) 2 (-1)) 17 0) 18 0) 19 10) 20 150) 21 2) 22 0) 23 0) 30 0) 31 0) 32 0) 33 0) f w g) := hD
  refine lv_aload_n hx hb dX11_readAll_86 rfl (lv_at hl 0 rfl) ?_
  refine lv_iconst (v := 0) hx hb dX11_readAll_87 (by decide) ?_
  refine va_put (D := (dC, dI)) (ci := 11) (v := .int 0) (ty := tyX11 58) (C := RX11) (T := TX11) (N := 79) hx hb hts inB_11 tyX11 tyX11_ok nmX11 hown hE.1 hP hD hS 0 rfl rfl 58 (by decide) (hts _ k_1378) (fun _ h9 => h9) rfl (tyX11_ok 58 (by decide)) rfl rfl (Nat.le_of_ble_eq_true rfl) dX11_readAll_88 (fun H locs hP hD hS => ?_)
  have hP : va_P (dC, dI) vwCl (YW cy y0 r (upd (upd (upd (upd (upd (upd (upd (upd (upd (upd (upd (upd (upd (upd (upd (upd (upd v 4 (v 0)) 0 0) 3 0) 1 0) 2 (-1)) 17 0) 18 0) 19 10) 20 150) 21 2) 22 0) 23 0) 30 0) 31 0) 32 0) 33 0) 34 0) f w g) H := hP
  have hD : va_D A (YW cy y0 r (upd (upd (upd (upd (upd (upd (upd (upd (upd (upd (upd (upd (upd (upd (upd (upd (upd v 4 (v 0)) 0 0) 3 0) 1 0) 2 (-1)) 17 0) 18 0) 19 10) 20 150) 21 2) 22 0) 23 0) 30 0) 31 0) 32 0) 33 0) 34 0) f w g) := hD
  refine lv_aload_n hx hb dX11_readAll_91 rfl (lv_at hl 0 rfl) ?_
  refine lv_iconst (v := 0) hx hb dX11_readAll_92 (by decide) ?_
  refine va_put (D := (dC, dI)) (ci := 11) (v := .int 0) (ty := tyX11 24) (C := RX11) (T := TX11) (N := 79) hx hb hts inB_11 tyX11 tyX11_ok nmX11 hown hE.1 hP hD hS 0 rfl rfl 24 (by decide) (hts _ k_1344) (fun _ h9 => h9) rfl (tyX11_ok 24 (by decide)) rfl rfl (Nat.le_of_ble_eq_true rfl) dX11_readAll_93 (fun H locs hP hD hS => ?_)
  have hP : va_P (dC, dI) vwCl (YW cy y0 r (upd (upd (upd (upd (upd (upd (upd (upd (upd (upd (upd (upd (upd (upd (upd (upd (upd (upd v 4 (v 0)) 0 0) 3 0) 1 0) 2 (-1)) 17 0) 18 0) 19 10) 20 150) 21 2) 22 0) 23 0) 30 0) 31 0) 32 0) 33 0) 34 0) 15 0) f w g) H := hP
  have hD : va_D A (YW cy y0 r (upd (upd (upd (upd (upd (upd (upd (upd (upd (upd (upd (upd (upd (upd (upd (upd (upd (upd v 4 (v 0)) 0 0) 3 0) 1 0) 2 (-1)) 17 0) 18 0) 19 10) 20 150) 21 2) 22 0) 23 0) 30 0) 31 0) 32 0) 33 0) 34 0) 15 0) f w g) := hD
  refine lv_aload_n hx hb dX11_readAll_96 rfl (lv_at hl 0 rfl) ?_
  refine lv_iconst (v := 0) hx hb dX11_readAll_97 (by decide) ?_
  refine va_put (D := (dC, dI)) (ci := 11) (v := .int 0) (ty := tyX11 20) (C := RX11) (T := TX11) (N := 79) hx hb hts inB_11 tyX11 tyX11_ok nmX11 hown hE.1 hP hD hS 0 rfl rfl 20 (by decide) (hts _ k_1340) (fun _ h9 => h9) rfl (tyX11_ok 20 (by decide)) rfl rfl (Nat.le_of_ble_eq_true rfl) dX11_readAll_98 (fun H locs hP hD hS => ?_)
  have hP : va_P (dC, dI) vwCl (YW cy y0 r (upd (upd (upd (upd (upd (upd (upd (upd (upd (upd (upd (upd (upd (upd (upd (upd (upd (upd (upd v 4 (v 0)) 0 0) 3 0) 1 0) 2 (-1)) 17 0) 18 0) 19 10) 20 150) 21 2) 22 0) 23 0) 30 0) 31 0) 32 0) 33 0) 34 0) 15 0) 11 0) f w g) H := hP
  have hD : va_D A (YW cy y0 r (upd (upd (upd (upd (upd (upd (upd (upd (upd (upd (upd (upd (upd (upd (upd (upd (upd (upd (upd v 4 (v 0)) 0 0) 3 0) 1 0) 2 (-1)) 17 0) 18 0) 19 10) 20 150) 21 2) 22 0) 23 0) 30 0) 31 0) 32 0) 33 0) 34 0) 15 0) 11 0) f w g) := hD
  refine lv_aload_n hx hb dX11_readAll_101 rfl (lv_at hl 0 rfl) ?_
  refine cbVv (n := 0) (rest := []) hx hb hml hown hts hE hP hD hS hA (sY_X11_token_1 l dC dI cy y0 r  (upd (upd (upd (upd (upd (upd (upd (upd (upd (upd (upd (upd (upd (upd (upd (upd (upd (upd (upd v 4 (v 0)) 0 0) 3 0) 1 0) 2 (-1)) 17 0) 18 0) 19 10) 20 150) 21 2) 22 0) 23 0) 30 0) 31 0) 32 0) 33 0) 34 0) 15 0) 11 0) f w g ⟨(YIb.upd (j := 11) (x := 0) (YIb.upd (j := 15) (x := 0) (YIb.upd (j := 34) (x := 0) (YIb.upd (j := 33) (x := 0) (YIb.upd (j := 32) (x := 0) (YIb.upd (j := 31) (x := 0) (YIb.upd (j := 30) (x := 0) (YIb.upd (j := 23) (x := 0) (YIb.upd (j := 22) (x := 0) (YIb.upd (j := 21) (x := 2) (YIb.upd (j := 20) (x := 150) (YIb.upd (j := 19) (x := 10) (YIb.upd (j := 18) (x := 0) (YIb.upd (j := 17) (x := 0) (YIb.upd (j := 2) (x := (-1)) (YIb.upd (j := 1) (x := 0) (YIb.upd (j := 3) (x := 0) (YIb.upd (j := 0) (x := 0) (YIb.upd (j := 4) (x := (v 0)) hIv.1 (show (0 : Int) ≤ (v 0).toInt by omega) (show (v 0).toInt ≤ (1600 : Int) by omega)) (by decide) (by decide)) (by decide) (by decide)) (by decide) (by decide)) (rlo _) (rhi _)) (by decide) (by decide)) (by decide) (by decide)) (rlo _) (rhi _)) (rlo _) (rhi _)) (rlo _) (rhi _)) (rlo _) (rhi _)) (rlo _) (rhi _)) (rlo _) (rhi _)) (rlo _) (rhi _)) (rlo _) (rhi _)) (rlo _) (rhi _)) (rlo _) (rhi _)) (rlo _) (rhi _)) (rlo _) (rhi _)), hIv.2⟩ hCf hRf ) k_1579 k_1581 k_42 k_114 k_1582 (by decide +kernel) ⟨Nat.le_of_ble_eq_true rfl, Nat.le_of_ble_eq_true rfl⟩ 0 11 rfl rfl (rfl) hl.1 rfl (Nat.le_of_ble_eq_true rfl) dX11_readAll_102 (fun u H locs hw hP hD hS => ?_)
  obtain ⟨v1, f2, w3, g4⟩ := u
  obtain ⟨hIv1, hCf2, hRf2, hk0_v1, hk1_v1, hk4_v1, hk8_v1, hk9_v1, hk10_v1, hk13_v1, hk14_v1, hk15_v1, hk17_v1, hk18_v1, hk24_v1, hk25_v1, hk35_v1, hk36_v1, hk38_v1, hk39_v1, pv5, pv6, kq7, kq8, kq9⟩ := hw
  have hP : va_P (dC, dI) vwCl (YW cy y0 r v1 f2 w3 g4) H := hP
  have hD : va_D A (YW cy y0 r v1 f2 w3 g4) := hD
  have b3_v1 : 0 ≤ (v1 3).toInt ∧ (v1 3).toInt ≤ 1600 := YIb.b hIv1.1 3 (by decide)
  have pv5 : (0 : Int32).toInt ≤ (v1 3).toInt := pv5
  have pv6 : (v1 5).toInt = (v 5).toInt ∨ (0 : Int32).toInt < (v1 3).toInt ∨ ¬ (v1 5).toInt = 59 := pv6
  have hs2_f2 : f2 2 = (f 2) := kq7
  have hs3_f2 : f2 3 = (f 3) := kq8
  have hs6_f2 : f2 6 = (f 6) := kq9
  have hUv1 : (v1 35).toInt + (v1 36).toInt ≤ 40 := hIv1.2
  have hq0_v1 : v1 0 = 0 := hk0_v1
  have zq0_v1 : (v1 0).toInt = 0 := by rw [hq0_v1]; decide
  have hq1_v1 : v1 1 = 0 := hk1_v1
  have zq1_v1 : (v1 1).toInt = 0 := by rw [hq1_v1]; decide
  have hq4_v1 : v1 4 = (v 0) := hk4_v1
  have zq4_v1 := congrArg Int32.toInt hq4_v1
  have hq8_v1 : v1 8 = (v 8) := hk8_v1
  have zq8_v1 := congrArg Int32.toInt hq8_v1
  have hq9_v1 : v1 9 = (v 9) := hk9_v1
  have zq9_v1 := congrArg Int32.toInt hq9_v1
  have hq10_v1 : v1 10 = (v 10) := hk10_v1
  have zq10_v1 := congrArg Int32.toInt hq10_v1
  have hq13_v1 : v1 13 = (v 13) := hk13_v1
  have zq13_v1 := congrArg Int32.toInt hq13_v1
  have hq14_v1 : v1 14 = (v 14) := hk14_v1
  have zq14_v1 := congrArg Int32.toInt hq14_v1
  have hq15_v1 : v1 15 = 0 := hk15_v1
  have zq15_v1 : (v1 15).toInt = 0 := by rw [hq15_v1]; decide
  have hq17_v1 : v1 17 = 0 := hk17_v1
  have zq17_v1 : (v1 17).toInt = 0 := by rw [hq17_v1]; decide
  have hq18_v1 : v1 18 = 0 := hk18_v1
  have zq18_v1 : (v1 18).toInt = 0 := by rw [hq18_v1]; decide
  have hq24_v1 : v1 24 = (v 24) := hk24_v1
  have hq25_v1 : v1 25 = (v 25) := hk25_v1
  have hq35_v1 : v1 35 = (v 35) := hk35_v1
  have zq35_v1 := congrArg Int32.toInt hq35_v1
  have hq36_v1 : v1 36 = (v 36) := hk36_v1
  have zq36_v1 := congrArg Int32.toInt hq36_v1
  have hq38_v1 : v1 38 = (v 38) := hk38_v1
  have hq39_v1 : v1 39 = (v 39) := hk39_v1
  have lp10 : ∀ (n10 : Nat)  (v10 : Nat → Int32) (f10 : Nat → Nat → Int32) (w10 : Int64) (g10 : Nat → Int64), YI v10 → YC f10 → progOK (f10 4) (f10 5) (v10 9).toInt.toNat → v10 0 = 0 → v10 4 = (v 0) → v10 9 = (v 9) → v10 24 = (v 24) → v10 25 = (v 25) → v10 35 = (v 35) → v10 36 = (v 36) → v10 38 = (v 38) → v10 39 = (v 39) → ((v10 1).toInt = 0 → ¬ (v10 15).toInt = 0 → progOK (f10 2) (f10 3) ((v10 8).toInt).toNat) → (2 * (1600 - (v10 3).toInt) + (1 - min (v10 1).toInt 1)).toNat < n10 → ∀ (H : Heap) (locs : List Loc) (ls : Array Slot), va_P (dC, dI) vwCl (YW cy y0 r v10 f10 w10 g10) H → va_D A (YW cy y0 r v10 f10 w10 g10) → va_S A s.heap H locs → lv_has ls 1 [(0, .ref y0)] → W p l e { frames := 8, cells := 0, slots := 0, locals := 212 } s m ([.ref y0] : List Value).toArray below meth c H locs 0 0 Q (F0 m 105 ls []) := by
    intro n10
    induction n10 with
    | zero => intro  v10 f10 w10 g10 hIv10 hCf10 hRf10 hq0_v10 hq4_v10 hq9_v10 hq24_v10 hq25_v10 hq35_v10 hq36_v10 hq38_v10 hq39_v10 hx0_10 hm; exact absurd hm (Nat.not_lt_zero _)
    | succ n10 ih10 =>
      intro  v10 f10 w10 g10 hIv10 hCf10 hRf10 hq0_v10 hq4_v10 hq9_v10 hq24_v10 hq25_v10 hq35_v10 hq36_v10 hq38_v10 hq39_v10 hx0_10 hm10 H locs ls hP hD hS hl
      have hUv10 : (v10 35).toInt + (v10 36).toInt ≤ 40 := hIv10.2
      have zq0_v10 : (v10 0).toInt = 0 := by rw [hq0_v10]; decide
      have zq4_v10 := congrArg Int32.toInt hq4_v10
      have zq9_v10 := congrArg Int32.toInt hq9_v10
      have zq35_v10 := congrArg Int32.toInt hq35_v10
      have zq36_v10 := congrArg Int32.toInt hq36_v10
      have b1_v10 : 0 ≤ (v10 1).toInt ∧ (v10 1).toInt ≤ 4 := YIb.b hIv10.1 1 (by decide)
      have b8_v10 : 0 ≤ (v10 8).toInt ∧ (v10 8).toInt ≤ 320 := YIb.b hIv10.1 8 (by decide)
      have hPL := hx0_10
      refine lv_aload_n hx hb dX11_readAll_105 rfl (lv_at hl 0 rfl) ?_
      refine va_get (D := (dC, dI)) (ci := 11) (v := .int (v10 1)) (C := RX11) (T := TX11) (N := 79) hx hb hts inB_11 hown hE.1 hP 0 rfl rfl 2 (by decide) (hts _ k_1322) (fun _ h9 => h9) rfl dX11_readAll_106 ?_
      refine lv_if_ne (tgt := 126) hx hb dX11_readAll_109 (by decide) (fun c11 => ?_) (fun c11 => ?_)
      · skip
        have zc11 : ¬ ((v10 1).toInt = 0) := by rw [fa_eq, show (0 : Int32).toInt = 0 from by decide] at c11; exact c11
        exact ret (v10, f10, w10, g10) _ _ _ _ _ _ ⟨hIv10, hCf10, hRf10, hq9_v10, hq24_v10, hq25_v10, hq35_v10, hq36_v10, hq38_v10, hq39_v10, (by show (v10 1).toInt = 0 → ¬ (v10 15).toInt = 0 → progOK (f10 2) (f10 3) ((v10 8).toInt).toNat; exact hPL)⟩ hP hD hS dX11_readAll_126 (Nat.le_refl _) (Nat.le_refl _)
      · skip
        have zc11 : (v10 1).toInt = 0 := by rw [fa_eq, show (0 : Int32).toInt = 0 from by decide] at c11; exact c11
        refine lv_aload_n hx hb dX11_readAll_112 rfl (lv_at hl 0 rfl) ?_
        refine va_get (D := (dC, dI)) (ci := 11) (v := .int (v10 5)) (C := RX11) (T := TX11) (N := 79) hx hb hts inB_11 hown hE.1 hP 0 rfl rfl 6 (by decide) (hts _ k_1326) (fun _ h9 => h9) rfl dX11_readAll_113 ?_
        refine lv_if_eq (tgt := 126) hx hb dX11_readAll_116 (by decide) (fun c12 => ?_) (fun c12 => ?_)
        · skip
          have zc12 : (v10 5).toInt = 0 := by rw [fa_eq, show (0 : Int32).toInt = 0 from by decide] at c12; exact c12
          exact ret (v10, f10, w10, g10) _ _ _ _ _ _ ⟨hIv10, hCf10, hRf10, hq9_v10, hq24_v10, hq25_v10, hq35_v10, hq36_v10, hq38_v10, hq39_v10, (by show (v10 1).toInt = 0 → ¬ (v10 15).toInt = 0 → progOK (f10 2) (f10 3) ((v10 8).toInt).toNat; exact hPL)⟩ hP hD hS dX11_readAll_126 (Nat.le_refl _) (Nat.le_refl _)
        · skip
          have zc12 : ¬ ((v10 5).toInt = 0) := by rw [fa_eq, show (0 : Int32).toInt = 0 from by decide] at c12; exact c12
          refine lv_aload_n hx hb dX11_readAll_119 rfl (lv_at hl 0 rfl) ?_
          refine cbVv (n := 0) (rest := []) hx hb hml hown hts hE hP hD hS hA (sY_X11_readLine_1 l dC dI cy y0 r  v10 f10 w10 g10 hIv10 hCf10 hRf10 (by show (v10 1).toInt = 0; omega) (by show ¬ (v10 15).toInt = 0 → progOK (f10 2) (f10 3) ((v10 8).toInt).toNat; exact hPL (by omega))) k_1596 k_1598 k_44 k_114 k_1599 (by decide +kernel) ⟨Nat.le_of_ble_eq_true rfl, Nat.le_of_ble_eq_true rfl⟩ 0 11 rfl rfl (rfl) hl.1 rfl (Nat.le_of_ble_eq_true rfl) dX11_readAll_120 (fun u H locs hw hP hD hS => ?_)
          obtain ⟨v13, f14, w15, g16⟩ := u
          obtain ⟨hIv13, hCf14, hRf14, hk0_v13, hk4_v13, hk9_v13, hk24_v13, hk25_v13, hk35_v13, hk36_v13, hk38_v13, hk39_v13, pv17, pv18, pg19⟩ := hw
          have hP : va_P (dC, dI) vwCl (YW cy y0 r v13 f14 w15 g16) H := hP
          have hD : va_D A (YW cy y0 r v13 f14 w15 g16) := hD
          have b1_v13 : 0 ≤ (v13 1).toInt ∧ (v13 1).toInt ≤ 4 := YIb.b hIv13.1 1 (by decide)
          have b3_v13 : 0 ≤ (v13 3).toInt ∧ (v13 3).toInt ≤ 1600 := YIb.b hIv13.1 3 (by decide)
          have b8_v13 : 0 ≤ (v13 8).toInt ∧ (v13 8).toInt ≤ 320 := YIb.b hIv13.1 8 (by decide)
          have pv17 : 0 < (v13 1).toInt ∨ (v10 3).toInt < (v13 3).toInt := pv17
          have pv18 : (v10 3).toInt ≤ (v13 3).toInt := pv18
          have pg19 : (v13 1).toInt = 0 → ¬ (v13 15).toInt = 0 → progOK (f14 2) (f14 3) ((v13 8).toInt).toNat := pg19
          have hUv13 : (v13 35).toInt + (v13 36).toInt ≤ 40 := hIv13.2
          have hq0_v13 : v13 0 = 0 := hk0_v13.trans hq0_v10
          have zq0_v13 : (v13 0).toInt = 0 := by rw [hq0_v13]; decide
          have hq4_v13 : v13 4 = (v 0) := hk4_v13.trans hq4_v10
          have zq4_v13 := congrArg Int32.toInt hq4_v13
          have hq9_v13 : v13 9 = (v 9) := hk9_v13.trans hq9_v10
          have zq9_v13 := congrArg Int32.toInt hq9_v13
          have hq24_v13 : v13 24 = (v 24) := hk24_v13.trans hq24_v10
          have hq25_v13 : v13 25 = (v 25) := hk25_v13.trans hq25_v10
          have hq35_v13 : v13 35 = (v 35) := hk35_v13.trans hq35_v10
          have zq35_v13 := congrArg Int32.toInt hq35_v13
          have hq36_v13 : v13 36 = (v 36) := hk36_v13.trans hq36_v10
          have zq36_v13 := congrArg Int32.toInt hq36_v13
          have hq38_v13 : v13 38 = (v 38) := hk38_v13.trans hq38_v10
          have hq39_v13 : v13 39 = (v 39) := hk39_v13.trans hq39_v10
          have hPL := pg19
          refine lv_goto (tgt := 105) hx hb dX11_readAll_123 (by decide) ?_
          exact ih10  v13 f14 w15 g16 hIv13 hCf14 hRf14 hq0_v13 hq4_v13 hq9_v13 hq24_v13 hq25_v13 hq35_v13 hq36_v13 hq38_v13 hq39_v13 (by show (v13 1).toInt = 0 → ¬ (v13 15).toInt = 0 → progOK (f14 2) (f14 3) ((v13 8).toInt).toNat; exact hPL) (by show (2 * (1600 - (v13 3).toInt) + (1 - min (v13 1).toInt 1)).toNat < n10; omega) _ _ _ hP hD hS (lv_sub hl [0] rfl)
  exact lp10 _  v1 f2 w3 g4 hIv1 hCf2 hRf2 hq0_v1 hq4_v1 hq9_v1 hq24_v1 hq25_v1 hq35_v1 hq36_v1 hq38_v1 hq39_v1 (by show (v1 1).toInt = 0 → ¬ (v1 15).toInt = 0 → progOK (f2 2) (f2 3) ((v1 8).toInt).toNat; rw [hs2_f2, hs3_f2]; intro hz8 hz9; exfalso; omega) (Nat.lt_succ_self _) _ _ _ hP hD hS (lv_sub hl [0] rfl)
set_option maxHeartbeats 4000000 in
set_option maxRecDepth 100000 in
theorem sY_X11_begin_1 (l : Launch) (dC : Nat → ClassId) (dI : Nat → Nat → Nat) (cy : Nat → ClassId) (y0 : Nat) (r : Nat → Nat)  (v : Nat → Int32) (f : Nat → Nat → Int32) (w : Int64) (g : Nat → Int64) (hIv : YI v) (hCf : YC f) (hRf : progOK (f 4) (f 5) (v 9).toInt.toNat)  : ctV l (dC, dI) cy yX11_begin cX11_begin 2 1 60 0 0 ((Nat → Int32) × (Nat → Nat → Int32) × (Int64) × (Nat → Int64)) [.ref y0] (YW cy y0 r v f w g) (fun u => YI u.1 ∧ YC u.2.1 ∧ progOK (u.2.1 4) (u.2.1 5) (u.1 9).toInt.toNat ∧ u.1 0 = v 0 ∧ u.1 1 = v 1 ∧ u.1 3 = v 3 ∧ u.1 4 = v 4 ∧ u.1 5 = v 5 ∧ u.1 8 = v 8 ∧ u.1 9 = v 9 ∧ u.1 10 = v 10 ∧ u.1 13 = v 13 ∧ u.1 14 = v 14 ∧ u.1 15 = v 15 ∧ u.1 17 = v 17 ∧ u.1 18 = v 18 ∧ u.1 24 = v 24 ∧ u.1 25 = v 25 ∧ u.1 35 = v 35 ∧ u.1 36 = v 36 ∧ u.1 38 = v 38 ∧ u.1 39 = v 39) (fun u => YW cy y0 r u.1 u.2.1 u.2.2.1 u.2.2.2) := by
  refine ctV_of (by decide) (Nat.le_of_ble_eq_true rfl) (fun p e s m below meth c A ls Q hx hb hml hts hown hnm hE hP hD hA hl ret => ?_)
  have hUv : (v 35).toInt + (v 36).toInt ≤ 40 := hIv.2
  have hown : s.vm.findClass RX11 = some m.cls := hown
  have hS : va_S A s.heap s.heap [] := va_S.rf
  have hl : lv_has ls 2 [(0, .ref y0)] := hl
  refine lv_iconst (v := 0) hx hb dX11_begin_0 (by decide) ?_
  refine lv_istore_n (lv' := [(1, .int 0), (0, .ref y0)]) hx hb dX11_begin_1 rfl hl (by decide) rfl (fun ls hl => ?_)
  have lp1 : ∀ (n1 : Nat) (l1_1 : Int32) (v1 : Nat → Int32) (f1 : Nat → Nat → Int32) (w1 : Int64) (g1 : Nat → Int64), YI v1 → YC f1 → progOK (f1 4) (f1 5) (v1 9).toInt.toNat → v1 0 = (v 0) → v1 1 = (v 1) → v1 3 = (v 3) → v1 4 = (v 4) → v1 5 = (v 5) → v1 8 = (v 8) → v1 9 = (v 9) → v1 10 = (v 10) → v1 13 = (v 13) → v1 14 = (v 14) → v1 15 = (v 15) → v1 17 = (v 17) → v1 18 = (v 18) → v1 24 = (v 24) → v1 25 = (v 25) → v1 35 = (v 35) → v1 36 = (v 36) → v1 38 = (v 38) → v1 39 = (v 39) → ((0 : Int) ≤ l1_1.toInt ∧ l1_1.toInt ≤ 2147483647) → (2147483647 - l1_1.toInt).toNat < n1 → ∀ (H : Heap) (locs : List Loc) (ls : Array Slot), va_P (dC, dI) vwCl (YW cy y0 r v1 f1 w1 g1) H → va_D A (YW cy y0 r v1 f1 w1 g1) → va_S A s.heap H locs → lv_has ls 2 [(1, .int l1_1), (0, .ref y0)] → W p l e { frames := 1, cells := 0, slots := 0, locals := 60 } s m ([.ref y0] : List Value).toArray below meth c H locs 0 0 Q (F0 m 2 ls []) := by
    intro n1
    induction n1 with
    | zero => intro l1_1 v1 f1 w1 g1 hIv1 hCf1 hRf1 hq0_v1 hq1_v1 hq3_v1 hq4_v1 hq5_v1 hq8_v1 hq9_v1 hq10_v1 hq13_v1 hq14_v1 hq15_v1 hq17_v1 hq18_v1 hq24_v1 hq25_v1 hq35_v1 hq36_v1 hq38_v1 hq39_v1 hr1_1 hm; exact absurd hm (Nat.not_lt_zero _)
    | succ n1 ih1 =>
      intro l1_1 v1 f1 w1 g1 hIv1 hCf1 hRf1 hq0_v1 hq1_v1 hq3_v1 hq4_v1 hq5_v1 hq8_v1 hq9_v1 hq10_v1 hq13_v1 hq14_v1 hq15_v1 hq17_v1 hq18_v1 hq24_v1 hq25_v1 hq35_v1 hq36_v1 hq38_v1 hq39_v1 hr1_1 hm1 H locs ls hP hD hS hl
      have hUv1 : (v1 35).toInt + (v1 36).toInt ≤ 40 := hIv1.2
      have zq3_v1 := congrArg Int32.toInt hq3_v1
      have zq4_v1 := congrArg Int32.toInt hq4_v1
      have zq5_v1 := congrArg Int32.toInt hq5_v1
      have zq9_v1 := congrArg Int32.toInt hq9_v1
      have zq35_v1 := congrArg Int32.toInt hq35_v1
      have zq36_v1 := congrArg Int32.toInt hq36_v1
      refine lv_iload_n hx hb dX11_begin_2 rfl (lv_at hl 0 rfl) ?_
      refine lv_bipush (v := 39) hx hb dX11_begin_3 (by decide) ?_
      refine lv_icmp_ge (tgt := 21) hx hb dX11_begin_5 (by decide) (fun c2 => ?_) (fun c2 => ?_)
      · skip
        have zc2 : 39 ≤ l1_1.toInt := by rw [fa_le, show (39 : Int32).toInt = 39 from by decide] at c2; exact c2
        refine lv_iconst (v := 0) hx hb dX11_begin_21 (by decide) ?_
        refine lv_istore_n (lv' := [(1, .int 0), (0, .ref y0)]) hx hb dX11_begin_22 rfl hl (by decide) rfl (fun ls hl => ?_)
        have lp3 : ∀ (n3 : Nat) (l1_3 : Int32) (v3 : Nat → Int32) (f3 : Nat → Nat → Int32) (w3 : Int64) (g3 : Nat → Int64), YI v3 → YC f3 → progOK (f3 4) (f3 5) (v3 9).toInt.toNat → v3 0 = (v 0) → v3 1 = (v 1) → v3 3 = (v 3) → v3 4 = (v 4) → v3 5 = (v 5) → v3 8 = (v 8) → v3 9 = (v 9) → v3 10 = (v 10) → v3 13 = (v 13) → v3 14 = (v 14) → v3 15 = (v 15) → v3 17 = (v 17) → v3 18 = (v 18) → v3 24 = (v 24) → v3 25 = (v 25) → v3 35 = (v 35) → v3 36 = (v 36) → v3 38 = (v 38) → v3 39 = (v 39) → ((0 : Int) ≤ l1_3.toInt ∧ l1_3.toInt ≤ 2147483647) → (2147483647 - l1_3.toInt).toNat < n3 → ∀ (H : Heap) (locs : List Loc) (ls : Array Slot), va_P (dC, dI) vwCl (YW cy y0 r v3 f3 w3 g3) H → va_D A (YW cy y0 r v3 f3 w3 g3) → va_S A s.heap H locs → lv_has ls 2 [(1, .int l1_3), (0, .ref y0)] → W p l e { frames := 1, cells := 0, slots := 0, locals := 60 } s m ([.ref y0] : List Value).toArray below meth c H locs 0 0 Q (F0 m 23 ls []) := by
          intro n3
          induction n3 with
          | zero => intro l1_3 v3 f3 w3 g3 hIv3 hCf3 hRf3 hq0_v3 hq1_v3 hq3_v3 hq4_v3 hq5_v3 hq8_v3 hq9_v3 hq10_v3 hq13_v3 hq14_v3 hq15_v3 hq17_v3 hq18_v3 hq24_v3 hq25_v3 hq35_v3 hq36_v3 hq38_v3 hq39_v3 hr1_3 hm; exact absurd hm (Nat.not_lt_zero _)
          | succ n3 ih3 =>
            intro l1_3 v3 f3 w3 g3 hIv3 hCf3 hRf3 hq0_v3 hq1_v3 hq3_v3 hq4_v3 hq5_v3 hq8_v3 hq9_v3 hq10_v3 hq13_v3 hq14_v3 hq15_v3 hq17_v3 hq18_v3 hq24_v3 hq25_v3 hq35_v3 hq36_v3 hq38_v3 hq39_v3 hr1_3 hm3 H locs ls hP hD hS hl
            have hUv3 : (v3 35).toInt + (v3 36).toInt ≤ 40 := hIv3.2
            have zq3_v3 := congrArg Int32.toInt hq3_v3
            have zq4_v3 := congrArg Int32.toInt hq4_v3
            have zq5_v3 := congrArg Int32.toInt hq5_v3
            have zq9_v3 := congrArg Int32.toInt hq9_v3
            have zq35_v3 := congrArg Int32.toInt hq35_v3
            have zq36_v3 := congrArg Int32.toInt hq36_v3
            refine lv_iload_n hx hb dX11_begin_23 rfl (lv_at hl 0 rfl) ?_
            refine lv_aload_n hx hb dX11_begin_24 rfl (lv_at hl 1 rfl) ?_
            refine va_get (D := (dC, dI)) (ci := 11) (v := .int (v3 24)) (C := RX11) (T := TX11) (N := 79) hx hb hts inB_11 hown hE.1 hP 0 rfl rfl 48 (by decide) (hts _ k_1368) (fun _ h9 => h9) rfl dX11_begin_25 ?_
            refine tI (y := (v 24)) hq24_v3 ?_
            have b24_v : 0 ≤ (v 24).toInt ∧ (v 24).toInt ≤ 6 := YIb.b hIv.1 24 (by decide)
            refine lv_icmp_ge (tgt := 59) hx hb dX11_begin_28 (by decide) (fun c4 => ?_) (fun c4 => ?_)
            · skip
              have zc4 : (v 24).toInt ≤ l1_3.toInt := by rw [fa_le] at c4; exact c4
              have rg5 := fb_rng l1_3
              have rg6 := fb_rng (v 24)
              refine lv_iconst (v := 0) hx hb dX11_begin_59 (by decide) ?_
              refine lv_istore_n (lv' := [(1, .int 0), (0, .ref y0)]) hx hb dX11_begin_60 rfl hl (by decide) rfl (fun ls hl => ?_)
              have lp7 : ∀ (n7 : Nat) (l1_7 : Int32) (v7 : Nat → Int32) (f7 : Nat → Nat → Int32) (w7 : Int64) (g7 : Nat → Int64), YI v7 → YC f7 → progOK (f7 4) (f7 5) (v7 9).toInt.toNat → v7 0 = (v 0) → v7 1 = (v 1) → v7 3 = (v 3) → v7 4 = (v 4) → v7 5 = (v 5) → v7 8 = (v 8) → v7 9 = (v 9) → v7 10 = (v 10) → v7 13 = (v 13) → v7 14 = (v 14) → v7 15 = (v 15) → v7 17 = (v 17) → v7 18 = (v 18) → v7 24 = (v 24) → v7 25 = (v 25) → v7 35 = (v 35) → v7 36 = (v 36) → v7 38 = (v 38) → v7 39 = (v 39) → ((0 : Int) ≤ l1_7.toInt ∧ l1_7.toInt ≤ 2147483647) → (2147483647 - l1_7.toInt).toNat < n7 → ∀ (H : Heap) (locs : List Loc) (ls : Array Slot), va_P (dC, dI) vwCl (YW cy y0 r v7 f7 w7 g7) H → va_D A (YW cy y0 r v7 f7 w7 g7) → va_S A s.heap H locs → lv_has ls 2 [(1, .int l1_7), (0, .ref y0)] → W p l e { frames := 1, cells := 0, slots := 0, locals := 60 } s m ([.ref y0] : List Value).toArray below meth c H locs 0 0 Q (F0 m 61 ls []) := by
                intro n7
                induction n7 with
                | zero => intro l1_7 v7 f7 w7 g7 hIv7 hCf7 hRf7 hq0_v7 hq1_v7 hq3_v7 hq4_v7 hq5_v7 hq8_v7 hq9_v7 hq10_v7 hq13_v7 hq14_v7 hq15_v7 hq17_v7 hq18_v7 hq24_v7 hq25_v7 hq35_v7 hq36_v7 hq38_v7 hq39_v7 hr1_7 hm; exact absurd hm (Nat.not_lt_zero _)
                | succ n7 ih7 =>
                  intro l1_7 v7 f7 w7 g7 hIv7 hCf7 hRf7 hq0_v7 hq1_v7 hq3_v7 hq4_v7 hq5_v7 hq8_v7 hq9_v7 hq10_v7 hq13_v7 hq14_v7 hq15_v7 hq17_v7 hq18_v7 hq24_v7 hq25_v7 hq35_v7 hq36_v7 hq38_v7 hq39_v7 hr1_7 hm7 H locs ls hP hD hS hl
                  have hUv7 : (v7 35).toInt + (v7 36).toInt ≤ 40 := hIv7.2
                  have zq3_v7 := congrArg Int32.toInt hq3_v7
                  have zq4_v7 := congrArg Int32.toInt hq4_v7
                  have zq5_v7 := congrArg Int32.toInt hq5_v7
                  have zq9_v7 := congrArg Int32.toInt hq9_v7
                  have zq35_v7 := congrArg Int32.toInt hq35_v7
                  have zq36_v7 := congrArg Int32.toInt hq36_v7
                  refine lv_iload_n hx hb dX11_begin_61 rfl (lv_at hl 0 rfl) ?_
                  refine lv_aload_n hx hb dX11_begin_62 rfl (lv_at hl 1 rfl) ?_
                  refine va_get (D := (dC, dI)) (ci := 11) (v := .int (v7 25)) (C := RX11) (T := TX11) (N := 79) hx hb hts inB_11 hown hE.1 hP 0 rfl rfl 49 (by decide) (hts _ k_1369) (fun _ h9 => h9) rfl dX11_begin_63 ?_
                  refine tI (y := (v 25)) hq25_v7 ?_
                  have b25_v : 0 ≤ (v 25).toInt ∧ (v 25).toInt ≤ 6 := YIb.b hIv.1 25 (by decide)
                  refine lv_icmp_ge (tgt := 135) hx hb dX11_begin_66 (by decide) (fun c8 => ?_) (fun c8 => ?_)
                  · skip
                    have zc8 : (v 25).toInt ≤ l1_7.toInt := by rw [fa_le] at c8; exact c8
                    have rg9 := fb_rng l1_7
                    have rg10 := fb_rng (v 25)
                    exact ret (v7, f7, w7, g7) _ _ _ _ _ _ ⟨hIv7, hCf7, hRf7, hq0_v7, hq1_v7, hq3_v7, hq4_v7, hq5_v7, hq8_v7, hq9_v7, hq10_v7, hq13_v7, hq14_v7, hq15_v7, hq17_v7, hq18_v7, hq24_v7, hq25_v7, hq35_v7, hq36_v7, hq38_v7, hq39_v7⟩ hP hD hS dX11_begin_135 (Nat.le_refl _) (Nat.le_refl _)
                  · skip
                    have zc8 : ¬ ((v 25).toInt ≤ l1_7.toInt) := by rw [fa_le] at c8; exact c8
                    have rg11 := fb_rng l1_7
                    have rg12 := fb_rng (v 25)
                    refine lv_aload_n hx hb dX11_begin_69 rfl (lv_at hl 1 rfl) ?_
                    refine va_get (D := (dC, dI)) (ci := 11) (v := .ref (r 60)) (C := RX11) (T := TX11) (N := 79) hx hb hts inB_11 hown hE.1 hP 0 rfl rfl 60 (by decide) (hts _ k_1380) (fun _ h9 => h9) rfl dX11_begin_70 ?_
                    refine lv_bipush (v := 12) hx hb dX11_begin_73 (by decide) ?_
                    refine lv_iload_n hx hb dX11_begin_75 rfl (lv_at hl 0 rfl) ?_
                    refine lv_iadd hx hb dX11_begin_76 ?_
                    refine lv_topi (fun t13 et13 => ?_)
                    have zt13 : t13.toInt = 12 + l1_7.toInt := by rw [et13]; exact add_i (by decide) rfl (by omega) (by omega)
                    refine lv_aload_n hx hb dX11_begin_77 rfl (lv_at hl 1 rfl) ?_
                    refine va_get (D := (dC, dI)) (ci := 11) (v := .ref (r 37)) (C := RX11) (T := TX11) (N := 79) hx hb hts inB_11 hown hE.1 hP 0 rfl rfl 37 (by decide) (hts _ k_1357) (fun _ h9 => h9) rfl dX11_begin_78 ?_
                    refine lv_iload_n hx hb dX11_begin_81 rfl (lv_at hl 0 rfl) ?_
                    refine ldI hx hb hE hP 20 rfl (vp_in_iff.mpr ⟨by omega, by omega⟩) rfl rfl dX11_begin_82 ?_
                    refine lv_topi (fun t14 et14 => ?_)
                    refine stI hx hb hE hP hD hS 25 rfl (vp_in_iff.mpr ⟨by omega, by omega⟩) rfl dX11_begin_83 (fun H locs hP hD hS => ?_)
                    obtain ⟨f15, ef15, hP, hD⟩ : ∃ fz9, fz9 = upd2 f7 24 (upd (f7 24) t13.toNatClampNeg t14) ∧ va_P (dC, dI) vwCl (YW cy y0 r v7 fz9 w7 g7) H ∧ va_D A (YW cy y0 r v7 fz9 w7 g7) := ⟨_, rfl, hP, hD⟩
                    have hCf15 : YC f15 := by rw [ef15]; exact ⟨hCf7.1, (wear_st hCf7.2.1 (by show t13.toInt.toNat % 39 < 6 ∨ 12 ≤ t13.toInt.toNat % 39 ∨ (-1 ≤ t14.toInt ∧ t14.toInt ≤ 5); omega)), hCf7.2.2.1, hCf7.2.2.2.1, hCf7.2.2.2.2.1, hCf7.2.2.2.2.2⟩
                    have hRf15 : progOK (f15 4) (f15 5) (v7 9).toInt.toNat := by rw [ef15]; exact hRf7
                    refine lv_aload_n hx hb dX11_begin_84 rfl (lv_at hl 1 rfl) ?_
                    refine va_get (D := (dC, dI)) (ci := 11) (v := .ref (r 60)) (C := RX11) (T := TX11) (N := 79) hx hb hts inB_11 hown hE.1 hP 0 rfl rfl 60 (by decide) (hts _ k_1380) (fun _ h9 => h9) rfl dX11_begin_85 ?_
                    refine lv_bipush (v := 18) hx hb dX11_begin_88 (by decide) ?_
                    refine lv_iload_n hx hb dX11_begin_90 rfl (lv_at hl 0 rfl) ?_
                    refine lv_iadd hx hb dX11_begin_91 ?_
                    refine lv_topi (fun t16 et16 => ?_)
                    have zt16 : t16.toInt = 18 + l1_7.toInt := by rw [et16]; exact add_i (by decide) rfl (by omega) (by omega)
                    refine lv_aload_n hx hb dX11_begin_92 rfl (lv_at hl 1 rfl) ?_
                    refine va_get (D := (dC, dI)) (ci := 11) (v := .ref (r 38)) (C := RX11) (T := TX11) (N := 79) hx hb hts inB_11 hown hE.1 hP 0 rfl rfl 38 (by decide) (hts _ k_1358) (fun _ h9 => h9) rfl dX11_begin_93 ?_
                    refine lv_iload_n hx hb dX11_begin_96 rfl (lv_at hl 0 rfl) ?_
                    refine ldI hx hb hE hP 21 rfl (vp_in_iff.mpr ⟨by omega, by omega⟩) rfl rfl dX11_begin_97 ?_
                    refine lv_topi (fun t17 et17 => ?_)
                    refine stI hx hb hE hP hD hS 25 rfl (vp_in_iff.mpr ⟨by omega, by omega⟩) rfl dX11_begin_98 (fun H locs hP hD hS => ?_)
                    obtain ⟨f18, ef18, hP, hD⟩ : ∃ fz9, fz9 = upd2 f15 24 (upd (f15 24) t16.toNatClampNeg t17) ∧ va_P (dC, dI) vwCl (YW cy y0 r v7 fz9 w7 g7) H ∧ va_D A (YW cy y0 r v7 fz9 w7 g7) := ⟨_, rfl, hP, hD⟩
                    have hCf18 : YC f18 := by rw [ef18]; exact ⟨hCf15.1, (wear_st hCf15.2.1 (by show t16.toInt.toNat % 39 < 6 ∨ 12 ≤ t16.toInt.toNat % 39 ∨ (-1 ≤ t17.toInt ∧ t17.toInt ≤ 5); omega)), hCf15.2.2.1, hCf15.2.2.2.1, hCf15.2.2.2.2.1, hCf15.2.2.2.2.2⟩
                    have hRf18 : progOK (f18 4) (f18 5) (v7 9).toInt.toNat := by rw [ef18]; exact hRf15
                    refine lv_aload_n hx hb dX11_begin_99 rfl (lv_at hl 1 rfl) ?_
                    refine va_get (D := (dC, dI)) (ci := 11) (v := .ref (r 60)) (C := RX11) (T := TX11) (N := 79) hx hb hts inB_11 hown hE.1 hP 0 rfl rfl 60 (by decide) (hts _ k_1380) (fun _ h9 => h9) rfl dX11_begin_100 ?_
                    refine lv_bipush (v := 24) hx hb dX11_begin_103 (by decide) ?_
                    refine lv_iload_n hx hb dX11_begin_105 rfl (lv_at hl 0 rfl) ?_
                    refine lv_iadd hx hb dX11_begin_106 ?_
                    refine lv_topi (fun t19 et19 => ?_)
                    have zt19 : t19.toInt = 24 + l1_7.toInt := by rw [et19]; exact add_i (by decide) rfl (by omega) (by omega)
                    refine lv_aload_n hx hb dX11_begin_107 rfl (lv_at hl 1 rfl) ?_
                    refine va_get (D := (dC, dI)) (ci := 11) (v := .ref (r 39)) (C := RX11) (T := TX11) (N := 79) hx hb hts inB_11 hown hE.1 hP 0 rfl rfl 39 (by decide) (hts _ k_1359) (fun _ h9 => h9) rfl dX11_begin_108 ?_
                    refine lv_iload_n hx hb dX11_begin_111 rfl (lv_at hl 0 rfl) ?_
                    refine ldI hx hb hE hP 22 rfl (vp_in_iff.mpr ⟨by omega, by omega⟩) rfl rfl dX11_begin_112 ?_
                    refine lv_topi (fun t20 et20 => ?_)
                    refine stI hx hb hE hP hD hS 25 rfl (vp_in_iff.mpr ⟨by omega, by omega⟩) rfl dX11_begin_113 (fun H locs hP hD hS => ?_)
                    obtain ⟨f21, ef21, hP, hD⟩ : ∃ fz9, fz9 = upd2 f18 24 (upd (f18 24) t19.toNatClampNeg t20) ∧ va_P (dC, dI) vwCl (YW cy y0 r v7 fz9 w7 g7) H ∧ va_D A (YW cy y0 r v7 fz9 w7 g7) := ⟨_, rfl, hP, hD⟩
                    have hCf21 : YC f21 := by rw [ef21]; exact ⟨hCf18.1, (wear_st hCf18.2.1 (by show t19.toInt.toNat % 39 < 6 ∨ 12 ≤ t19.toInt.toNat % 39 ∨ (-1 ≤ t20.toInt ∧ t20.toInt ≤ 5); omega)), hCf18.2.2.1, hCf18.2.2.2.1, hCf18.2.2.2.2.1, hCf18.2.2.2.2.2⟩
                    have hRf21 : progOK (f21 4) (f21 5) (v7 9).toInt.toNat := by rw [ef21]; exact hRf18
                    refine lv_aload_n hx hb dX11_begin_114 rfl (lv_at hl 1 rfl) ?_
                    refine va_get (D := (dC, dI)) (ci := 11) (v := .ref (r 60)) (C := RX11) (T := TX11) (N := 79) hx hb hts inB_11 hown hE.1 hP 0 rfl rfl 60 (by decide) (hts _ k_1380) (fun _ h9 => h9) rfl dX11_begin_115 ?_
                    refine lv_bipush (v := 30) hx hb dX11_begin_118 (by decide) ?_
                    refine lv_iload_n hx hb dX11_begin_120 rfl (lv_at hl 0 rfl) ?_
                    refine lv_iadd hx hb dX11_begin_121 ?_
                    refine lv_topi (fun t22 et22 => ?_)
                    have zt22 : t22.toInt = 30 + l1_7.toInt := by rw [et22]; exact add_i (by decide) rfl (by omega) (by omega)
                    refine lv_aload_n hx hb dX11_begin_122 rfl (lv_at hl 1 rfl) ?_
                    refine va_get (D := (dC, dI)) (ci := 11) (v := .ref (r 40)) (C := RX11) (T := TX11) (N := 79) hx hb hts inB_11 hown hE.1 hP 0 rfl rfl 40 (by decide) (hts _ k_1360) (fun _ h9 => h9) rfl dX11_begin_123 ?_
                    refine lv_iload_n hx hb dX11_begin_126 rfl (lv_at hl 0 rfl) ?_
                    refine ldI hx hb hE hP 23 rfl (vp_in_iff.mpr ⟨by omega, by omega⟩) rfl rfl dX11_begin_127 ?_
                    refine lv_topi (fun t23 et23 => ?_)
                    refine stI hx hb hE hP hD hS 25 rfl (vp_in_iff.mpr ⟨by omega, by omega⟩) rfl dX11_begin_128 (fun H locs hP hD hS => ?_)
                    obtain ⟨f24, ef24, hP, hD⟩ : ∃ fz9, fz9 = upd2 f21 24 (upd (f21 24) t22.toNatClampNeg t23) ∧ va_P (dC, dI) vwCl (YW cy y0 r v7 fz9 w7 g7) H ∧ va_D A (YW cy y0 r v7 fz9 w7 g7) := ⟨_, rfl, hP, hD⟩
                    have hCf24 : YC f24 := by rw [ef24]; exact ⟨hCf21.1, (wear_st hCf21.2.1 (by show t22.toInt.toNat % 39 < 6 ∨ 12 ≤ t22.toInt.toNat % 39 ∨ (-1 ≤ t23.toInt ∧ t23.toInt ≤ 5); omega)), hCf21.2.2.1, hCf21.2.2.2.1, hCf21.2.2.2.2.1, hCf21.2.2.2.2.2⟩
                    have hRf24 : progOK (f24 4) (f24 5) (v7 9).toInt.toNat := by rw [ef24]; exact hRf21
                    obtain ⟨t25, et25⟩ : ∃ y : Int32, y = l1_7 + 1 := ⟨_, rfl⟩
                    have zt25 : t25.toInt = l1_7.toInt + 1 := by rw [et25]; exact add_i rfl (by decide) (by omega) (by omega)
                    refine lv_iinc (v := t25) (lv' := [(1, .int t25), (0, .ref y0)]) hx hb dX11_begin_129 hl (k := 0) rfl (by rw [et25]; rfl) (by decide) rfl (fun ls hl => ?_)
                    refine lv_goto (tgt := 61) hx hb dX11_begin_132 (by decide) ?_
                    have rg26 := fb_rng t25
                    exact ih7 t25 v7 f24 w7 g7 hIv7 hCf24 hRf24 hq0_v7 hq1_v7 hq3_v7 hq4_v7 hq5_v7 hq8_v7 hq9_v7 hq10_v7 hq13_v7 hq14_v7 hq15_v7 hq17_v7 hq18_v7 hq24_v7 hq25_v7 hq35_v7 hq36_v7 hq38_v7 hq39_v7 ⟨show (0 : Int) ≤ t25.toInt by omega, show t25.toInt ≤ (2147483647 : Int) by omega⟩ (by show (2147483647 - t25.toInt).toNat < n7; omega) _ _ _ hP hD hS (lv_sub hl [0, 1] rfl)
              exact lp7 _ 0 v3 f3 w3 g3 hIv3 hCf3 hRf3 hq0_v3 hq1_v3 hq3_v3 hq4_v3 hq5_v3 hq8_v3 hq9_v3 hq10_v3 hq13_v3 hq14_v3 hq15_v3 hq17_v3 hq18_v3 hq24_v3 hq25_v3 hq35_v3 hq36_v3 hq38_v3 hq39_v3 ⟨by decide, by decide⟩ (Nat.lt_succ_self _) _ _ _ hP hD hS (lv_sub hl [0, 1] rfl)
            · skip
              have zc4 : ¬ ((v 24).toInt ≤ l1_3.toInt) := by rw [fa_le] at c4; exact c4
              have rg27 := fb_rng l1_3
              have rg28 := fb_rng (v 24)
              refine lv_aload_n hx hb dX11_begin_31 rfl (lv_at hl 1 rfl) ?_
              refine va_get (D := (dC, dI)) (ci := 11) (v := .ref (r 60)) (C := RX11) (T := TX11) (N := 79) hx hb hts inB_11 hown hE.1 hP 0 rfl rfl 60 (by decide) (hts _ k_1380) (fun _ h9 => h9) rfl dX11_begin_32 ?_
              refine lv_iload_n hx hb dX11_begin_35 rfl (lv_at hl 0 rfl) ?_
              refine lv_aload_n hx hb dX11_begin_36 rfl (lv_at hl 1 rfl) ?_
              refine va_get (D := (dC, dI)) (ci := 11) (v := .ref (r 35)) (C := RX11) (T := TX11) (N := 79) hx hb hts inB_11 hown hE.1 hP 0 rfl rfl 35 (by decide) (hts _ k_1355) (fun _ h9 => h9) rfl dX11_begin_37 ?_
              refine lv_iload_n hx hb dX11_begin_40 rfl (lv_at hl 0 rfl) ?_
              refine ldI hx hb hE hP 18 rfl (vp_in_iff.mpr ⟨by omega, by omega⟩) rfl rfl dX11_begin_41 ?_
              refine lv_topi (fun t29 et29 => ?_)
              refine stI hx hb hE hP hD hS 25 rfl (vp_in_iff.mpr ⟨by omega, by omega⟩) rfl dX11_begin_42 (fun H locs hP hD hS => ?_)
              obtain ⟨f30, ef30, hP, hD⟩ : ∃ fz9, fz9 = upd2 f3 24 (upd (f3 24) l1_3.toNatClampNeg t29) ∧ va_P (dC, dI) vwCl (YW cy y0 r v3 fz9 w3 g3) H ∧ va_D A (YW cy y0 r v3 fz9 w3 g3) := ⟨_, rfl, hP, hD⟩
              have hCf30 : YC f30 := by rw [ef30]; exact ⟨hCf3.1, (wear_st hCf3.2.1 (by show l1_3.toInt.toNat % 39 < 6 ∨ 12 ≤ l1_3.toInt.toNat % 39 ∨ (-1 ≤ t29.toInt ∧ t29.toInt ≤ 5); omega)), hCf3.2.2.1, hCf3.2.2.2.1, hCf3.2.2.2.2.1, hCf3.2.2.2.2.2⟩
              have hRf30 : progOK (f30 4) (f30 5) (v3 9).toInt.toNat := by rw [ef30]; exact hRf3
              refine lv_aload_n hx hb dX11_begin_43 rfl (lv_at hl 1 rfl) ?_
              refine va_get (D := (dC, dI)) (ci := 11) (v := .ref (r 60)) (C := RX11) (T := TX11) (N := 79) hx hb hts inB_11 hown hE.1 hP 0 rfl rfl 60 (by decide) (hts _ k_1380) (fun _ h9 => h9) rfl dX11_begin_44 ?_
              refine lv_bipush (v := 6) hx hb dX11_begin_47 (by decide) ?_
              refine lv_iload_n hx hb dX11_begin_49 rfl (lv_at hl 0 rfl) ?_
              refine lv_iadd hx hb dX11_begin_50 ?_
              refine lv_topi (fun t31 et31 => ?_)
              have zt31 : t31.toInt = 6 + l1_3.toInt := by rw [et31]; exact add_i (by decide) rfl (by omega) (by omega)
              refine lv_iconst (v := (-1)) hx hb dX11_begin_51 (by decide) ?_
              refine stI hx hb hE hP hD hS 25 rfl (vp_in_iff.mpr ⟨by omega, by omega⟩) rfl dX11_begin_52 (fun H locs hP hD hS => ?_)
              obtain ⟨f32, ef32, hP, hD⟩ : ∃ fz9, fz9 = upd2 f30 24 (upd (f30 24) t31.toNatClampNeg (-1)) ∧ va_P (dC, dI) vwCl (YW cy y0 r v3 fz9 w3 g3) H ∧ va_D A (YW cy y0 r v3 fz9 w3 g3) := ⟨_, rfl, hP, hD⟩
              have hCf32 : YC f32 := by rw [ef32]; exact ⟨hCf30.1, (wear_st hCf30.2.1 (by have q9 : ((-1) : Int32).toInt = -1 := (by decide); show t31.toInt.toNat % 39 < 6 ∨ 12 ≤ t31.toInt.toNat % 39 ∨ (-1 ≤ ((-1) : Int32).toInt ∧ ((-1) : Int32).toInt ≤ 5); omega)), hCf30.2.2.1, hCf30.2.2.2.1, hCf30.2.2.2.2.1, hCf30.2.2.2.2.2⟩
              have hRf32 : progOK (f32 4) (f32 5) (v3 9).toInt.toNat := by rw [ef32]; exact hRf30
              obtain ⟨t33, et33⟩ : ∃ y : Int32, y = l1_3 + 1 := ⟨_, rfl⟩
              have zt33 : t33.toInt = l1_3.toInt + 1 := by rw [et33]; exact add_i rfl (by decide) (by omega) (by omega)
              refine lv_iinc (v := t33) (lv' := [(1, .int t33), (0, .ref y0)]) hx hb dX11_begin_53 hl (k := 0) rfl (by rw [et33]; rfl) (by decide) rfl (fun ls hl => ?_)
              refine lv_goto (tgt := 23) hx hb dX11_begin_56 (by decide) ?_
              have rg34 := fb_rng t33
              exact ih3 t33 v3 f32 w3 g3 hIv3 hCf32 hRf32 hq0_v3 hq1_v3 hq3_v3 hq4_v3 hq5_v3 hq8_v3 hq9_v3 hq10_v3 hq13_v3 hq14_v3 hq15_v3 hq17_v3 hq18_v3 hq24_v3 hq25_v3 hq35_v3 hq36_v3 hq38_v3 hq39_v3 ⟨show (0 : Int) ≤ t33.toInt by omega, show t33.toInt ≤ (2147483647 : Int) by omega⟩ (by show (2147483647 - t33.toInt).toNat < n3; omega) _ _ _ hP hD hS (lv_sub hl [0, 1] rfl)
        exact lp3 _ 0 v1 f1 w1 g1 hIv1 hCf1 hRf1 hq0_v1 hq1_v1 hq3_v1 hq4_v1 hq5_v1 hq8_v1 hq9_v1 hq10_v1 hq13_v1 hq14_v1 hq15_v1 hq17_v1 hq18_v1 hq24_v1 hq25_v1 hq35_v1 hq36_v1 hq38_v1 hq39_v1 ⟨by decide, by decide⟩ (Nat.lt_succ_self _) _ _ _ hP hD hS (lv_sub hl [0, 1] rfl)
      · skip
        have zc2 : ¬ (39 ≤ l1_1.toInt) := by rw [fa_le, show (39 : Int32).toInt = 39 from by decide] at c2; exact c2
        refine lv_aload_n hx hb dX11_begin_8 rfl (lv_at hl 1 rfl) ?_
        refine va_get (D := (dC, dI)) (ci := 11) (v := .ref (r 60)) (C := RX11) (T := TX11) (N := 79) hx hb hts inB_11 hown hE.1 hP 0 rfl rfl 60 (by decide) (hts _ k_1380) (fun _ h9 => h9) rfl dX11_begin_9 ?_
        refine lv_iload_n hx hb dX11_begin_12 rfl (lv_at hl 0 rfl) ?_
        refine lv_iconst (v := 0) hx hb dX11_begin_13 (by decide) ?_
        refine stI hx hb hE hP hD hS 25 rfl (vp_in_iff.mpr ⟨by omega, by omega⟩) rfl dX11_begin_14 (fun H locs hP hD hS => ?_)
        obtain ⟨f35, ef35, hP, hD⟩ : ∃ fz9, fz9 = upd2 f1 24 (upd (f1 24) l1_1.toNatClampNeg 0) ∧ va_P (dC, dI) vwCl (YW cy y0 r v1 fz9 w1 g1) H ∧ va_D A (YW cy y0 r v1 fz9 w1 g1) := ⟨_, rfl, hP, hD⟩
        have hCf35 : YC f35 := by rw [ef35]; exact ⟨hCf1.1, (wear_st hCf1.2.1 (by have q9 : (0 : Int32).toInt = 0 := (by decide); show l1_1.toInt.toNat % 39 < 6 ∨ 12 ≤ l1_1.toInt.toNat % 39 ∨ (-1 ≤ (0 : Int32).toInt ∧ (0 : Int32).toInt ≤ 5); omega)), hCf1.2.2.1, hCf1.2.2.2.1, hCf1.2.2.2.2.1, hCf1.2.2.2.2.2⟩
        have hRf35 : progOK (f35 4) (f35 5) (v1 9).toInt.toNat := by rw [ef35]; exact hRf1
        obtain ⟨t36, et36⟩ : ∃ y : Int32, y = l1_1 + 1 := ⟨_, rfl⟩
        have rg37 := fb_rng l1_1
        have zt36 : t36.toInt = l1_1.toInt + 1 := by rw [et36]; exact add_i rfl (by decide) (by omega) (by omega)
        refine lv_iinc (v := t36) (lv' := [(1, .int t36), (0, .ref y0)]) hx hb dX11_begin_15 hl (k := 0) rfl (by rw [et36]; rfl) (by decide) rfl (fun ls hl => ?_)
        refine lv_goto (tgt := 2) hx hb dX11_begin_18 (by decide) ?_
        have rg38 := fb_rng t36
        exact ih1 t36 v1 f35 w1 g1 hIv1 hCf35 hRf35 hq0_v1 hq1_v1 hq3_v1 hq4_v1 hq5_v1 hq8_v1 hq9_v1 hq10_v1 hq13_v1 hq14_v1 hq15_v1 hq17_v1 hq18_v1 hq24_v1 hq25_v1 hq35_v1 hq36_v1 hq38_v1 hq39_v1 ⟨show (0 : Int) ≤ t36.toInt by omega, show t36.toInt ≤ (2147483647 : Int) by omega⟩ (by show (2147483647 - t36.toInt).toNat < n1; omega) _ _ _ hP hD hS (lv_sub hl [0, 1] rfl)
  exact lp1 _ 0 v f w g hIv hCf hRf rfl rfl rfl rfl rfl rfl rfl rfl rfl rfl rfl rfl rfl rfl rfl rfl rfl rfl rfl ⟨by decide, by decide⟩ (Nat.lt_succ_self _) _ _ _ hP hD hS (lv_sub hl [0, 1] rfl)
set_option maxHeartbeats 4000000 in
set_option maxRecDepth 100000 in
theorem sY_X11_keepAir_1 (l : Launch) (dC : Nat → ClassId) (dI : Nat → Nat → Nat) (cy : Nat → ClassId) (y0 : Nat) (r : Nat → Nat)  (v : Nat → Int32) (f : Nat → Nat → Int32) (w : Int64) (g : Nat → Int64) (hIv : YI v) (hCf : YC f) (hRf : progOK (f 4) (f 5) (v 9).toInt.toNat)  : ctV l (dC, dI) cy yX11_keepAir cX11_keepAir 2 1 60 0 0 ((Nat → Int32) × (Nat → Nat → Int32) × (Int64) × (Nat → Int64)) [.ref y0] (YW cy y0 r v f w g) (fun u => YI u.1 ∧ YC u.2.1 ∧ progOK (u.2.1 4) (u.2.1 5) (u.1 9).toInt.toNat ∧ u.1 0 = v 0 ∧ u.1 1 = v 1 ∧ u.1 3 = v 3 ∧ u.1 4 = v 4 ∧ u.1 5 = v 5 ∧ u.1 8 = v 8 ∧ u.1 9 = v 9 ∧ u.1 10 = v 10 ∧ u.1 13 = v 13 ∧ u.1 14 = v 14 ∧ u.1 15 = v 15 ∧ u.1 17 = v 17 ∧ u.1 18 = v 18 ∧ u.1 24 = v 24 ∧ u.1 25 = v 25 ∧ u.1 35 = v 35 ∧ u.1 36 = v 36 ∧ u.1 38 = v 38 ∧ u.1 39 = v 39) (fun u => YW cy y0 r u.1 u.2.1 u.2.2.1 u.2.2.2) := by
  refine ctV_of (by decide) (Nat.le_of_ble_eq_true rfl) (fun p e s m below meth c A ls Q hx hb hml hts hown hnm hE hP hD hA hl ret => ?_)
  have hUv : (v 35).toInt + (v 36).toInt ≤ 40 := hIv.2
  have hown : s.vm.findClass RX11 = some m.cls := hown
  have hS : va_S A s.heap s.heap [] := va_S.rf
  have hl : lv_has ls 2 [(0, .ref y0)] := hl
  refine lv_iconst (v := 0) hx hb dX11_keepAir_0 (by decide) ?_
  refine lv_istore_n (lv' := [(1, .int 0), (0, .ref y0)]) hx hb dX11_keepAir_1 rfl hl (by decide) rfl (fun ls hl => ?_)
  have lp1 : ∀ (n1 : Nat) (l1_1 : Int32) (v1 : Nat → Int32) (f1 : Nat → Nat → Int32) (w1 : Int64) (g1 : Nat → Int64), YI v1 → YC f1 → progOK (f1 4) (f1 5) (v1 9).toInt.toNat → v1 0 = (v 0) → v1 1 = (v 1) → v1 3 = (v 3) → v1 4 = (v 4) → v1 5 = (v 5) → v1 8 = (v 8) → v1 9 = (v 9) → v1 10 = (v 10) → v1 13 = (v 13) → v1 14 = (v 14) → v1 15 = (v 15) → v1 17 = (v 17) → v1 18 = (v 18) → v1 24 = (v 24) → v1 25 = (v 25) → v1 35 = (v 35) → v1 36 = (v 36) → v1 38 = (v 38) → v1 39 = (v 39) → ((0 : Int) ≤ l1_1.toInt ∧ l1_1.toInt ≤ 2147483647) → (2147483647 - l1_1.toInt).toNat < n1 → ∀ (H : Heap) (locs : List Loc) (ls : Array Slot), va_P (dC, dI) vwCl (YW cy y0 r v1 f1 w1 g1) H → va_D A (YW cy y0 r v1 f1 w1 g1) → va_S A s.heap H locs → lv_has ls 2 [(1, .int l1_1), (0, .ref y0)] → W p l e { frames := 1, cells := 0, slots := 0, locals := 60 } s m ([.ref y0] : List Value).toArray below meth c H locs 0 0 Q (F0 m 2 ls []) := by
    intro n1
    induction n1 with
    | zero => intro l1_1 v1 f1 w1 g1 hIv1 hCf1 hRf1 hq0_v1 hq1_v1 hq3_v1 hq4_v1 hq5_v1 hq8_v1 hq9_v1 hq10_v1 hq13_v1 hq14_v1 hq15_v1 hq17_v1 hq18_v1 hq24_v1 hq25_v1 hq35_v1 hq36_v1 hq38_v1 hq39_v1 hr1_1 hm; exact absurd hm (Nat.not_lt_zero _)
    | succ n1 ih1 =>
      intro l1_1 v1 f1 w1 g1 hIv1 hCf1 hRf1 hq0_v1 hq1_v1 hq3_v1 hq4_v1 hq5_v1 hq8_v1 hq9_v1 hq10_v1 hq13_v1 hq14_v1 hq15_v1 hq17_v1 hq18_v1 hq24_v1 hq25_v1 hq35_v1 hq36_v1 hq38_v1 hq39_v1 hr1_1 hm1 H locs ls hP hD hS hl
      have hUv1 : (v1 35).toInt + (v1 36).toInt ≤ 40 := hIv1.2
      have zq3_v1 := congrArg Int32.toInt hq3_v1
      have zq4_v1 := congrArg Int32.toInt hq4_v1
      have zq5_v1 := congrArg Int32.toInt hq5_v1
      have zq9_v1 := congrArg Int32.toInt hq9_v1
      have zq35_v1 := congrArg Int32.toInt hq35_v1
      have zq36_v1 := congrArg Int32.toInt hq36_v1
      refine lv_iload_n hx hb dX11_keepAir_2 rfl (lv_at hl 0 rfl) ?_
      refine lv_bipush (v := 39) hx hb dX11_keepAir_3 (by decide) ?_
      refine lv_icmp_ge (tgt := 26) hx hb dX11_keepAir_5 (by decide) (fun c2 => ?_) (fun c2 => ?_)
      · skip
        have zc2 : 39 ≤ l1_1.toInt := by rw [fa_le, show (39 : Int32).toInt = 39 from by decide] at c2; exact c2
        exact ret (v1, f1, w1, g1) _ _ _ _ _ _ ⟨hIv1, hCf1, hRf1, (show v1 0 = v 0 from hq0_v1), (show v1 1 = v 1 from hq1_v1), (show v1 3 = v 3 from hq3_v1), (show v1 4 = v 4 from hq4_v1), (show v1 5 = v 5 from hq5_v1), (show v1 8 = v 8 from hq8_v1), (show v1 9 = v 9 from hq9_v1), (show v1 10 = v 10 from hq10_v1), (show v1 13 = v 13 from hq13_v1), (show v1 14 = v 14 from hq14_v1), (show v1 15 = v 15 from hq15_v1), (show v1 17 = v 17 from hq17_v1), (show v1 18 = v 18 from hq18_v1), (show v1 24 = v 24 from hq24_v1), (show v1 25 = v 25 from hq25_v1), (show v1 35 = v 35 from hq35_v1), (show v1 36 = v 36 from hq36_v1), (show v1 38 = v 38 from hq38_v1), (show v1 39 = v 39 from hq39_v1)⟩ hP hD hS dX11_keepAir_26 (Nat.le_refl _) (Nat.le_refl _)
      · skip
        have zc2 : ¬ (39 ≤ l1_1.toInt) := by rw [fa_le, show (39 : Int32).toInt = 39 from by decide] at c2; exact c2
        refine lv_aload_n hx hb dX11_keepAir_8 rfl (lv_at hl 1 rfl) ?_
        refine va_get (D := (dC, dI)) (ci := 11) (v := .ref (r 59)) (C := RX11) (T := TX11) (N := 79) hx hb hts inB_11 hown hE.1 hP 0 rfl rfl 59 (by decide) (hts _ k_1379) (fun _ h9 => h9) rfl dX11_keepAir_9 ?_
        refine lv_iload_n hx hb dX11_keepAir_12 rfl (lv_at hl 0 rfl) ?_
        refine lv_aload_n hx hb dX11_keepAir_13 rfl (lv_at hl 1 rfl) ?_
        refine va_get (D := (dC, dI)) (ci := 11) (v := .ref (r 60)) (C := RX11) (T := TX11) (N := 79) hx hb hts inB_11 hown hE.1 hP 0 rfl rfl 60 (by decide) (hts _ k_1380) (fun _ h9 => h9) rfl dX11_keepAir_14 ?_
        refine lv_iload_n hx hb dX11_keepAir_17 rfl (lv_at hl 0 rfl) ?_
        refine ldI hx hb hE hP 25 rfl (vp_in_iff.mpr ⟨by omega, by omega⟩) rfl rfl dX11_keepAir_18 ?_
        refine lv_topi (fun t3 et3 => ?_)
        have zt3 : l1_1.toInt.toNat % 39 < 6 ∨ 12 ≤ l1_1.toInt.toNat % 39 ∨ (-1 ≤ t3.toInt ∧ t3.toInt ≤ 5) := by rw [et3]; exact wear_ld hCf1.2.1 (show l1_1.toInt.toNat < 39 by omega)
        refine stI hx hb hE hP hD hS 24 rfl (vp_in_iff.mpr ⟨by omega, by omega⟩) rfl dX11_keepAir_19 (fun H locs hP hD hS => ?_)
        obtain ⟨f4, ef4, hP, hD⟩ : ∃ fz9, fz9 = upd2 f1 23 (upd (f1 23) l1_1.toNatClampNeg t3) ∧ va_P (dC, dI) vwCl (YW cy y0 r v1 fz9 w1 g1) H ∧ va_D A (YW cy y0 r v1 fz9 w1 g1) := ⟨_, rfl, hP, hD⟩
        have hCf4 : YC f4 := by rw [ef4]; exact ⟨(wear_st hCf1.1 (by show l1_1.toInt.toNat % 39 < 6 ∨ 12 ≤ l1_1.toInt.toNat % 39 ∨ (-1 ≤ t3.toInt ∧ t3.toInt ≤ 5); omega)), hCf1.2.1, hCf1.2.2.1, hCf1.2.2.2.1, hCf1.2.2.2.2.1, hCf1.2.2.2.2.2⟩
        have hRf4 : progOK (f4 4) (f4 5) (v1 9).toInt.toNat := by rw [ef4]; exact hRf1
        obtain ⟨t5, et5⟩ : ∃ y : Int32, y = l1_1 + 1 := ⟨_, rfl⟩
        have rg6 := fb_rng l1_1
        have zt5 : t5.toInt = l1_1.toInt + 1 := by rw [et5]; exact add_i rfl (by decide) (by omega) (by omega)
        refine lv_iinc (v := t5) (lv' := [(1, .int t5), (0, .ref y0)]) hx hb dX11_keepAir_20 hl (k := 0) rfl (by rw [et5]; rfl) (by decide) rfl (fun ls hl => ?_)
        refine lv_goto (tgt := 2) hx hb dX11_keepAir_23 (by decide) ?_
        have rg7 := fb_rng t5
        exact ih1 t5 v1 f4 w1 g1 hIv1 hCf4 hRf4 hq0_v1 hq1_v1 hq3_v1 hq4_v1 hq5_v1 hq8_v1 hq9_v1 hq10_v1 hq13_v1 hq14_v1 hq15_v1 hq17_v1 hq18_v1 hq24_v1 hq25_v1 hq35_v1 hq36_v1 hq38_v1 hq39_v1 ⟨show (0 : Int) ≤ t5.toInt by omega, show t5.toInt ≤ (2147483647 : Int) by omega⟩ (by show (2147483647 - t5.toInt).toNat < n1; omega) _ _ _ hP hD hS (lv_sub hl [0, 1] rfl)
  exact lp1 _ 0 v f w g hIv hCf hRf rfl rfl rfl rfl rfl rfl rfl rfl rfl rfl rfl rfl rfl rfl rfl rfl rfl rfl rfl ⟨by decide, by decide⟩ (Nat.lt_succ_self _) _ _ _ hP hD hS (lv_sub hl [0, 1] rfl)
set_option maxHeartbeats 4000000 in
set_option maxRecDepth 100000 in
theorem sY_X11_regiment_1 (l : Launch) (dC : Nat → ClassId) (dI : Nat → Nat → Nat) (cy : Nat → ClassId) (y0 : Nat) (r : Nat → Nat)  (v : Nat → Int32) (f : Nat → Nat → Int32) (w : Int64) (g : Nat → Int64) (hIv : YI v) (hCf : YC f) (hRf : progOK (f 4) (f 5) (v 9).toInt.toNat)  : ctI l (dC, dI) cy yX11_regiment cX11_regiment 2 .int 9 232 0 0 ((Nat → Int32) × (Nat → Nat → Int32) × (Int64) × (Nat → Int64)) [.ref y0] (YW cy y0 r v f w g) (fun r u => YI u.1 ∧ YC u.2.1 ∧ progOK (u.2.1 4) (u.2.1 5) (u.1 9).toInt.toNat ∧ u.1 39 = v 39) (fun u => YW cy y0 r u.1 u.2.1 u.2.2.1 u.2.2.2) := by
  refine ctI_of (by decide) (Nat.le_of_ble_eq_true rfl) (fun p e s m below meth c A ls Q hx hb hml hts hown hE hP hD hA hl ret => ?_)
  have hUv : (v 35).toInt + (v 36).toInt ≤ 40 := hIv.2
  have b0_v : (0 : Int) ≤ (v 0).toInt ∧ (v 0).toInt ≤ 1600 := YIb.b hIv.1 0 (by decide)
  have b1_v : (0 : Int) ≤ (v 1).toInt ∧ (v 1).toInt ≤ 4 := YIb.b hIv.1 1 (by decide)
  have b3_v : (0 : Int) ≤ (v 3).toInt ∧ (v 3).toInt ≤ 1600 := YIb.b hIv.1 3 (by decide)
  have b4_v : (0 : Int) ≤ (v 4).toInt ∧ (v 4).toInt ≤ 1600 := YIb.b hIv.1 4 (by decide)
  have b8_v : (0 : Int) ≤ (v 8).toInt ∧ (v 8).toInt ≤ 320 := YIb.b hIv.1 8 (by decide)
  have b9_v : (0 : Int) ≤ (v 9).toInt ∧ (v 9).toInt ≤ 320 := YIb.b hIv.1 9 (by decide)
  have b10_v : (0 : Int) ≤ (v 10).toInt ∧ (v 10).toInt ≤ 160 := YIb.b hIv.1 10 (by decide)
  have b13_v : (0 : Int) ≤ (v 13).toInt ∧ (v 13).toInt ≤ 31 := YIb.b hIv.1 13 (by decide)
  have b14_v : (0 : Int) ≤ (v 14).toInt ∧ (v 14).toInt ≤ 8 := YIb.b hIv.1 14 (by decide)
  have b17_v : (0 : Int) ≤ (v 17).toInt ∧ (v 17).toInt ≤ 6 := YIb.b hIv.1 17 (by decide)
  have b18_v : (0 : Int) ≤ (v 18).toInt ∧ (v 18).toInt ≤ 6 := YIb.b hIv.1 18 (by decide)
  have b24_v : (0 : Int) ≤ (v 24).toInt ∧ (v 24).toInt ≤ 6 := YIb.b hIv.1 24 (by decide)
  have b25_v : (0 : Int) ≤ (v 25).toInt ∧ (v 25).toInt ≤ 6 := YIb.b hIv.1 25 (by decide)
  have b35_v : (0 : Int) ≤ (v 35).toInt ∧ (v 35).toInt ≤ 40 := YIb.b hIv.1 35 (by decide)
  have b36_v : (0 : Int) ≤ (v 36).toInt ∧ (v 36).toInt ≤ 40 := YIb.b hIv.1 36 (by decide)
  have b37_v : (0 : Int) ≤ (v 37).toInt ∧ (v 37).toInt ≤ 6 := YIb.b hIv.1 37 (by decide)
  have b38_v : (0 : Int) ≤ (v 38).toInt ∧ (v 38).toInt ≤ 30 := YIb.b hIv.1 38 (by decide)
  have b39_v : (0 : Int) ≤ (v 39).toInt ∧ (v 39).toInt ≤ 100000 := YIb.b hIv.1 39 (by decide)
  have hown : s.vm.findClass RX11 = some m.cls := hown
  have hS : va_S A s.heap s.heap [] := va_S.rf
  have hl : lv_has ls 2 [(0, .ref y0)] := hl
  refine lv_aload_n hx hb dX11_regiment_0 rfl (lv_at hl 0 rfl) ?_
  refine cbVv (n := 0) (rest := []) hx hb hml hown hts hE hP hD hS hA (sY_X11_readAll_1 l dC dI cy y0 r  v f w g hIv hCf hRf ) k_1575 k_1577 k_41 k_114 k_1578 (by decide +kernel) ⟨Nat.le_of_ble_eq_true rfl, Nat.le_of_ble_eq_true rfl⟩ 0 11 rfl rfl (rfl) hl.1 rfl (Nat.le_of_ble_eq_true rfl) dX11_regiment_1 (fun u H locs hw hP hD hS => ?_)
  obtain ⟨v1, f2, w3, g4⟩ := u
  obtain ⟨hIv1, hCf2, hRf2, hk9_v1, hk24_v1, hk25_v1, hk35_v1, hk36_v1, hk38_v1, hk39_v1, pg5⟩ := hw
  have hP : va_P (dC, dI) vwCl (YW cy y0 r v1 f2 w3 g4) H := hP
  have hD : va_D A (YW cy y0 r v1 f2 w3 g4) := hD
  have b1_v1 : 0 ≤ (v1 1).toInt ∧ (v1 1).toInt ≤ 4 := YIb.b hIv1.1 1 (by decide)
  have b8_v1 : 0 ≤ (v1 8).toInt ∧ (v1 8).toInt ≤ 320 := YIb.b hIv1.1 8 (by decide)
  have pg5 : (v1 1).toInt = 0 → ¬ (v1 15).toInt = 0 → progOK (f2 2) (f2 3) ((v1 8).toInt).toNat := pg5
  have hUv1 : (v1 35).toInt + (v1 36).toInt ≤ 40 := hIv1.2
  have hq9_v1 : v1 9 = (v 9) := hk9_v1
  have zq9_v1 := congrArg Int32.toInt hq9_v1
  have hq24_v1 : v1 24 = (v 24) := hk24_v1
  have hq25_v1 : v1 25 = (v 25) := hk25_v1
  have hq35_v1 : v1 35 = (v 35) := hk35_v1
  have zq35_v1 := congrArg Int32.toInt hq35_v1
  have hq36_v1 : v1 36 = (v 36) := hk36_v1
  have zq36_v1 := congrArg Int32.toInt hq36_v1
  have hq38_v1 : v1 38 = (v 38) := hk38_v1
  have hq39_v1 : v1 39 = (v 39) := hk39_v1
  have hPL := pg5
  refine lv_aload_n hx hb dX11_regiment_4 rfl (lv_at hl 0 rfl) ?_
  refine va_get (D := (dC, dI)) (ci := 11) (v := .int (v1 1)) (C := RX11) (T := TX11) (N := 79) hx hb hts inB_11 hown hE.1 hP 0 rfl rfl 2 (by decide) (hts _ k_1322) (fun _ h9 => h9) rfl dX11_regiment_5 ?_
  have b1_v1 : 0 ≤ (v1 1).toInt ∧ (v1 1).toInt ≤ 4 := YIb.b hIv1.1 1 (by decide)
  refine lv_if_le (tgt := 13) hx hb dX11_regiment_8 (by decide) (fun c6 => ?_) (fun c6 => ?_)
  · skip
    have zc6 : (v1 1).toInt ≤ 0 := by rw [fa_le, show (0 : Int32).toInt = 0 from by decide] at c6; exact c6
    refine lv_aload_n hx hb dX11_regiment_13 rfl (lv_at hl 0 rfl) ?_
    refine lv_aload_n hx hb dX11_regiment_14 rfl (lv_at hl 0 rfl) ?_
    refine va_get (D := (dC, dI)) (ci := 11) (v := .int (v1 17)) (C := RX11) (T := TX11) (N := 79) hx hb hts inB_11 hown hE.1 hP 0 rfl rfl 41 (by decide) (hts _ k_1361) (fun _ h9 => h9) rfl dX11_regiment_15 ?_
    have b17_v1 : 0 ≤ (v1 17).toInt ∧ (v1 17).toInt ≤ 6 := YIb.b hIv1.1 17 (by decide)
    refine va_put (D := (dC, dI)) (ci := 11) (v := .int (v1 17)) (ty := tyX11 48) (C := RX11) (T := TX11) (N := 79) hx hb hts inB_11 tyX11 tyX11_ok nmX11 hown hE.1 hP hD hS 0 rfl rfl 48 (by decide) (hts _ k_1368) (fun _ h9 => h9) rfl (tyX11_ok 48 (by decide)) rfl rfl (Nat.le_of_ble_eq_true rfl) dX11_regiment_18 (fun H locs hP hD hS => ?_)
    have hP : va_P (dC, dI) vwCl (YW cy y0 r (upd v1 24 (v1 17)) f2 w3 g4) H := hP
    have hD : va_D A (YW cy y0 r (upd v1 24 (v1 17)) f2 w3 g4) := hD
    refine lv_aload_n hx hb dX11_regiment_21 rfl (lv_at hl 0 rfl) ?_
    refine lv_aload_n hx hb dX11_regiment_22 rfl (lv_at hl 0 rfl) ?_
    refine va_get (D := (dC, dI)) (ci := 11) (v := .int (v1 18)) (C := RX11) (T := TX11) (N := 79) hx hb hts inB_11 hown hE.1 hP 0 rfl rfl 42 (by decide) (hts _ k_1362) (fun _ h9 => h9) rfl dX11_regiment_23 ?_
    have b18_v1 : 0 ≤ (v1 18).toInt ∧ (v1 18).toInt ≤ 6 := YIb.b hIv1.1 18 (by decide)
    refine va_put (D := (dC, dI)) (ci := 11) (v := .int (v1 18)) (ty := tyX11 49) (C := RX11) (T := TX11) (N := 79) hx hb hts inB_11 tyX11 tyX11_ok nmX11 hown hE.1 hP hD hS 0 rfl rfl 49 (by decide) (hts _ k_1369) (fun _ h9 => h9) rfl (tyX11_ok 49 (by decide)) rfl rfl (Nat.le_of_ble_eq_true rfl) dX11_regiment_26 (fun H locs hP hD hS => ?_)
    have hP : va_P (dC, dI) vwCl (YW cy y0 r (upd (upd v1 24 (v1 17)) 25 (v1 18)) f2 w3 g4) H := hP
    have hD : va_D A (YW cy y0 r (upd (upd v1 24 (v1 17)) 25 (v1 18)) f2 w3 g4) := hD
    refine lv_aload_n hx hb dX11_regiment_29 rfl (lv_at hl 0 rfl) ?_
    refine lv_aload_n hx hb dX11_regiment_30 rfl (lv_at hl 0 rfl) ?_
    refine va_get (D := (dC, dI)) (ci := 11) (v := .int (v1 19)) (C := RX11) (T := TX11) (N := 79) hx hb hts inB_11 hown hE.1 hP 0 rfl rfl 43 (by decide) (hts _ k_1363) (fun _ h9 => h9) rfl dX11_regiment_31 ?_
    refine va_put (D := (dC, dI)) (ci := 11) (v := .int (v1 19)) (ty := tyX11 50) (C := RX11) (T := TX11) (N := 79) hx hb hts inB_11 tyX11 tyX11_ok nmX11 hown hE.1 hP hD hS 0 rfl rfl 50 (by decide) (hts _ k_1370) (fun _ h9 => h9) rfl (tyX11_ok 50 (by decide)) rfl rfl (Nat.le_of_ble_eq_true rfl) dX11_regiment_34 (fun H locs hP hD hS => ?_)
    have hP : va_P (dC, dI) vwCl (YW cy y0 r (upd (upd (upd v1 24 (v1 17)) 25 (v1 18)) 26 (v1 19)) f2 w3 g4) H := hP
    have hD : va_D A (YW cy y0 r (upd (upd (upd v1 24 (v1 17)) 25 (v1 18)) 26 (v1 19)) f2 w3 g4) := hD
    refine lv_aload_n hx hb dX11_regiment_37 rfl (lv_at hl 0 rfl) ?_
    refine lv_aload_n hx hb dX11_regiment_38 rfl (lv_at hl 0 rfl) ?_
    refine va_get (D := (dC, dI)) (ci := 11) (v := .int (v1 20)) (C := RX11) (T := TX11) (N := 79) hx hb hts inB_11 hown hE.1 hP 0 rfl rfl 44 (by decide) (hts _ k_1364) (fun _ h9 => h9) rfl dX11_regiment_39 ?_
    refine va_put (D := (dC, dI)) (ci := 11) (v := .int (v1 20)) (ty := tyX11 51) (C := RX11) (T := TX11) (N := 79) hx hb hts inB_11 tyX11 tyX11_ok nmX11 hown hE.1 hP hD hS 0 rfl rfl 51 (by decide) (hts _ k_1371) (fun _ h9 => h9) rfl (tyX11_ok 51 (by decide)) rfl rfl (Nat.le_of_ble_eq_true rfl) dX11_regiment_42 (fun H locs hP hD hS => ?_)
    have hP : va_P (dC, dI) vwCl (YW cy y0 r (upd (upd (upd (upd v1 24 (v1 17)) 25 (v1 18)) 26 (v1 19)) 27 (v1 20)) f2 w3 g4) H := hP
    have hD : va_D A (YW cy y0 r (upd (upd (upd (upd v1 24 (v1 17)) 25 (v1 18)) 26 (v1 19)) 27 (v1 20)) f2 w3 g4) := hD
    refine lv_aload_n hx hb dX11_regiment_45 rfl (lv_at hl 0 rfl) ?_
    refine lv_aload_n hx hb dX11_regiment_46 rfl (lv_at hl 0 rfl) ?_
    refine va_get (D := (dC, dI)) (ci := 11) (v := .int (v1 21)) (C := RX11) (T := TX11) (N := 79) hx hb hts inB_11 hown hE.1 hP 0 rfl rfl 45 (by decide) (hts _ k_1365) (fun _ h9 => h9) rfl dX11_regiment_47 ?_
    refine va_put (D := (dC, dI)) (ci := 11) (v := .int (v1 21)) (ty := tyX11 52) (C := RX11) (T := TX11) (N := 79) hx hb hts inB_11 tyX11 tyX11_ok nmX11 hown hE.1 hP hD hS 0 rfl rfl 52 (by decide) (hts _ k_1372) (fun _ h9 => h9) rfl (tyX11_ok 52 (by decide)) rfl rfl (Nat.le_of_ble_eq_true rfl) dX11_regiment_50 (fun H locs hP hD hS => ?_)
    have hP : va_P (dC, dI) vwCl (YW cy y0 r (upd (upd (upd (upd (upd v1 24 (v1 17)) 25 (v1 18)) 26 (v1 19)) 27 (v1 20)) 28 (v1 21)) f2 w3 g4) H := hP
    have hD : va_D A (YW cy y0 r (upd (upd (upd (upd (upd v1 24 (v1 17)) 25 (v1 18)) 26 (v1 19)) 27 (v1 20)) 28 (v1 21)) f2 w3 g4) := hD
    refine lv_aload_n hx hb dX11_regiment_53 rfl (lv_at hl 0 rfl) ?_
    refine lv_aload_n hx hb dX11_regiment_54 rfl (lv_at hl 0 rfl) ?_
    refine va_get (D := (dC, dI)) (ci := 11) (v := .int (v1 22)) (C := RX11) (T := TX11) (N := 79) hx hb hts inB_11 hown hE.1 hP 0 rfl rfl 46 (by decide) (hts _ k_1366) (fun _ h9 => h9) rfl dX11_regiment_55 ?_
    refine va_put (D := (dC, dI)) (ci := 11) (v := .int (v1 22)) (ty := tyX11 53) (C := RX11) (T := TX11) (N := 79) hx hb hts inB_11 tyX11 tyX11_ok nmX11 hown hE.1 hP hD hS 0 rfl rfl 53 (by decide) (hts _ k_1373) (fun _ h9 => h9) rfl (tyX11_ok 53 (by decide)) rfl rfl (Nat.le_of_ble_eq_true rfl) dX11_regiment_58 (fun H locs hP hD hS => ?_)
    have hP : va_P (dC, dI) vwCl (YW cy y0 r (upd (upd (upd (upd (upd (upd v1 24 (v1 17)) 25 (v1 18)) 26 (v1 19)) 27 (v1 20)) 28 (v1 21)) 29 (v1 22)) f2 w3 g4) H := hP
    have hD : va_D A (YW cy y0 r (upd (upd (upd (upd (upd (upd v1 24 (v1 17)) 25 (v1 18)) 26 (v1 19)) 27 (v1 20)) 28 (v1 21)) 29 (v1 22)) f2 w3 g4) := hD
    refine lv_aload_n hx hb dX11_regiment_61 rfl (lv_at hl 0 rfl) ?_
    refine lv_aload_n hx hb dX11_regiment_62 rfl (lv_at hl 0 rfl) ?_
    refine va_get (D := (dC, dI)) (ci := 11) (v := .int (v1 11)) (C := RX11) (T := TX11) (N := 79) hx hb hts inB_11 hown hE.1 hP 0 rfl rfl 20 (by decide) (hts _ k_1340) (fun _ h9 => h9) rfl dX11_regiment_63 ?_
    refine va_put (D := (dC, dI)) (ci := 11) (v := .int (v1 11)) (ty := tyX11 21) (C := RX11) (T := TX11) (N := 79) hx hb hts inB_11 tyX11 tyX11_ok nmX11 hown hE.1 hP hD hS 0 rfl rfl 21 (by decide) (hts _ k_1341) (fun _ h9 => h9) rfl (tyX11_ok 21 (by decide)) rfl rfl (Nat.le_of_ble_eq_true rfl) dX11_regiment_66 (fun H locs hP hD hS => ?_)
    have hP : va_P (dC, dI) vwCl (YW cy y0 r (upd (upd (upd (upd (upd (upd (upd v1 24 (v1 17)) 25 (v1 18)) 26 (v1 19)) 27 (v1 20)) 28 (v1 21)) 29 (v1 22)) 12 (v1 11)) f2 w3 g4) H := hP
    have hD : va_D A (YW cy y0 r (upd (upd (upd (upd (upd (upd (upd v1 24 (v1 17)) 25 (v1 18)) 26 (v1 19)) 27 (v1 20)) 28 (v1 21)) 29 (v1 22)) 12 (v1 11)) f2 w3 g4) := hD
    refine lv_aload_n hx hb dX11_regiment_69 rfl (lv_at hl 0 rfl) ?_
    refine lv_aload_n hx hb dX11_regiment_70 rfl (lv_at hl 0 rfl) ?_
    refine va_get (D := (dC, dI)) (ci := 11) (v := .int (v1 15)) (C := RX11) (T := TX11) (N := 79) hx hb hts inB_11 hown hE.1 hP 0 rfl rfl 24 (by decide) (hts _ k_1344) (fun _ h9 => h9) rfl dX11_regiment_71 ?_
    refine va_put (D := (dC, dI)) (ci := 11) (v := .int (v1 15)) (ty := tyX11 25) (C := RX11) (T := TX11) (N := 79) hx hb hts inB_11 tyX11 tyX11_ok nmX11 hown hE.1 hP hD hS 0 rfl rfl 25 (by decide) (hts _ k_1345) (fun _ h9 => h9) rfl (tyX11_ok 25 (by decide)) rfl rfl (Nat.le_of_ble_eq_true rfl) dX11_regiment_74 (fun H locs hP hD hS => ?_)
    have hP : va_P (dC, dI) vwCl (YW cy y0 r (upd (upd (upd (upd (upd (upd (upd (upd v1 24 (v1 17)) 25 (v1 18)) 26 (v1 19)) 27 (v1 20)) 28 (v1 21)) 29 (v1 22)) 12 (v1 11)) 16 (v1 15)) f2 w3 g4) H := hP
    have hD : va_D A (YW cy y0 r (upd (upd (upd (upd (upd (upd (upd (upd v1 24 (v1 17)) 25 (v1 18)) 26 (v1 19)) 27 (v1 20)) 28 (v1 21)) 29 (v1 22)) 12 (v1 11)) 16 (v1 15)) f2 w3 g4) := hD
    refine lv_aload_n hx hb dX11_regiment_77 rfl (lv_at hl 0 rfl) ?_
    refine lv_aload_n hx hb dX11_regiment_78 rfl (lv_at hl 0 rfl) ?_
    refine va_get (D := (dC, dI)) (ci := 11) (v := .int (v1 15)) (C := RX11) (T := TX11) (N := 79) hx hb hts inB_11 hown hE.1 hP 0 rfl rfl 24 (by decide) (hts _ k_1344) (fun _ h9 => h9) rfl dX11_regiment_79 ?_
    refine lv_if_eq (tgt := 92) hx hb dX11_regiment_82 (by decide) (fun c7 => ?_) (fun c7 => ?_)
    · skip
      have zc7 : (v1 15).toInt = 0 := by rw [fa_eq, show (0 : Int32).toInt = 0 from by decide] at c7; exact c7
      refine lv_iconst (v := 0) hx hb dX11_regiment_92 (by decide) ?_
      refine va_put (D := (dC, dI)) (ci := 11) (v := .int 0) (ty := tyX11 18) (C := RX11) (T := TX11) (N := 79) hx hb hts inB_11 tyX11 tyX11_ok nmX11 hown hE.1 hP hD hS 0 rfl rfl 18 (by decide) (hts _ k_1338) (fun _ h9 => h9) rfl (tyX11_ok 18 (by decide)) rfl rfl (Nat.le_of_ble_eq_true rfl) dX11_regiment_93 (fun H locs hP hD hS => ?_)
      have hP : va_P (dC, dI) vwCl (YW cy y0 r (upd (upd (upd (upd (upd (upd (upd (upd (upd v1 24 (v1 17)) 25 (v1 18)) 26 (v1 19)) 27 (v1 20)) 28 (v1 21)) 29 (v1 22)) 12 (v1 11)) 16 (v1 15)) 9 0) f2 w3 g4) H := hP
      have hD : va_D A (YW cy y0 r (upd (upd (upd (upd (upd (upd (upd (upd (upd v1 24 (v1 17)) 25 (v1 18)) 26 (v1 19)) 27 (v1 20)) 28 (v1 21)) 29 (v1 22)) 12 (v1 11)) 16 (v1 15)) 9 0) f2 w3 g4) := hD
      refine lv_iconst (v := 0) hx hb dX11_regiment_96 (by decide) ?_
      refine lv_istore_n (lv' := [(1, .int 0), (0, .ref y0)]) hx hb dX11_regiment_97 rfl hl (by decide) rfl (fun ls hl => ?_)
      have lp8 : ∀ (n8 : Nat) (l1_8 : Int32) (v8 : Nat → Int32) (f8 : Nat → Nat → Int32) (w8 : Int64) (g8 : Nat → Int64), YI v8 → YC f8 → v8 0 = (v1 0) → v8 1 = (v1 1) → v8 3 = (v1 3) → v8 4 = (v1 4) → v8 5 = (v1 5) → v8 8 = (v1 8) → v8 9 = 0 → v8 10 = (v1 10) → v8 13 = (v1 13) → v8 14 = (v1 14) → v8 15 = (v1 15) → v8 17 = (v1 17) → v8 18 = (v1 18) → v8 24 = (v1 17) → v8 25 = (v1 18) → v8 35 = (v 35) → v8 36 = (v 36) → v8 38 = (v 38) → v8 39 = (v 39) → ((0 : Int) ≤ l1_8.toInt ∧ l1_8.toInt ≤ 2147483647) → (progOK (f8 2) (f8 3) ((v8 9).toInt).toNat) → (∀ j, j < (l1_8.toInt).toNat → (f8 4) j = (f8 2) j ∧ (f8 5) j = (f8 3) j) → f8 2 = (f2 2) → f8 3 = (f2 3) → (2147483647 - l1_8.toInt).toNat < n8 → ∀ (H : Heap) (locs : List Loc) (ls : Array Slot), va_P (dC, dI) vwCl (YW cy y0 r v8 f8 w8 g8) H → va_D A (YW cy y0 r v8 f8 w8 g8) → va_S A s.heap H locs → lv_has ls 2 [(1, .int l1_8), (0, .ref y0)] → W p l e { frames := 9, cells := 0, slots := 0, locals := 232 } s m ([.ref y0] : List Value).toArray below meth c H locs 0 0 Q (F0 m 98 ls []) := by
        intro n8
        induction n8 with
        | zero => intro l1_8 v8 f8 w8 g8 hIv8 hCf8 hq0_v8 hq1_v8 hq3_v8 hq4_v8 hq5_v8 hq8_v8 hq9_v8 hq10_v8 hq13_v8 hq14_v8 hq15_v8 hq17_v8 hq18_v8 hq24_v8 hq25_v8 hq35_v8 hq36_v8 hq38_v8 hq39_v8 hr1_8 hx0_8 hx1_8 hs2_f8 hs3_f8 hm; exact absurd hm (Nat.not_lt_zero _)
        | succ n8 ih8 =>
          intro l1_8 v8 f8 w8 g8 hIv8 hCf8 hq0_v8 hq1_v8 hq3_v8 hq4_v8 hq5_v8 hq8_v8 hq9_v8 hq10_v8 hq13_v8 hq14_v8 hq15_v8 hq17_v8 hq18_v8 hq24_v8 hq25_v8 hq35_v8 hq36_v8 hq38_v8 hq39_v8 hr1_8 hx0_8 hx1_8 hs2_f8 hs3_f8 hm8 H locs ls hP hD hS hl
          have hUv8 : (v8 35).toInt + (v8 36).toInt ≤ 40 := hIv8.2
          have zq1_v8 := congrArg Int32.toInt hq1_v8
          have zq3_v8 := congrArg Int32.toInt hq3_v8
          have zq4_v8 := congrArg Int32.toInt hq4_v8
          have zq5_v8 := congrArg Int32.toInt hq5_v8
          have zq8_v8 := congrArg Int32.toInt hq8_v8
          have zq9_v8 : (v8 9).toInt = 0 := by rw [hq9_v8]; decide
          have zq10_v8 := congrArg Int32.toInt hq10_v8
          have zq13_v8 := congrArg Int32.toInt hq13_v8
          have zq14_v8 := congrArg Int32.toInt hq14_v8
          have zq15_v8 := congrArg Int32.toInt hq15_v8
          have zq17_v8 := congrArg Int32.toInt hq17_v8
          have zq18_v8 := congrArg Int32.toInt hq18_v8
          have zq35_v8 := congrArg Int32.toInt hq35_v8
          have zq36_v8 := congrArg Int32.toInt hq36_v8
          have b9_v8 : 0 ≤ (v8 9).toInt ∧ (v8 9).toInt ≤ 320 := YIb.b hIv8.1 9 (by decide)
          rw [hs2_f8] at hx0_8
          rw [hs3_f8] at hx0_8
          rw [hs2_f8] at hx1_8
          rw [hs3_f8] at hx1_8
          have hPG := hx0_8
          have hCP := hx1_8
          refine lv_iload_n hx hb dX11_regiment_98 rfl (lv_at hl 0 rfl) ?_
          refine lv_aload_n hx hb dX11_regiment_99 rfl (lv_at hl 1 rfl) ?_
          refine va_get (D := (dC, dI)) (ci := 11) (v := .int (v8 9)) (C := RX11) (T := TX11) (N := 79) hx hb hts inB_11 hown hE.1 hP 0 rfl rfl 18 (by decide) (hts _ k_1338) (fun _ h9 => h9) rfl dX11_regiment_100 ?_
          refine tI (y := 0) hq9_v8 ?_
          refine lv_icmp_ge (tgt := 136) hx hb dX11_regiment_103 (by decide) (fun c9 => ?_) (fun c9 => ?_)
          · skip
            have zc9 : 0 ≤ l1_8.toInt := by rw [fa_le, show (0 : Int32).toInt = 0 from by decide] at c9; exact c9
            have hRf8 : progOK (f8 4) (f8 5) (v8 9).toInt.toNat := cp_done hCP hPG (by omega)
            refine lv_iconst (v := 0) hx hb dX11_regiment_136 (by decide) ?_
            refine lv_istore_n (lv' := [(1, .int 0), (0, .ref y0)]) hx hb dX11_regiment_137 rfl hl (by decide) rfl (fun ls hl => ?_)
            have lp10 : ∀ (n10 : Nat) (l1_10 : Int32) (v10 : Nat → Int32) (f10 : Nat → Nat → Int32) (w10 : Int64) (g10 : Nat → Int64), YI v10 → YC f10 → progOK (f10 4) (f10 5) (v10 9).toInt.toNat → v10 0 = (v1 0) → v10 1 = (v1 1) → v10 3 = (v1 3) → v10 4 = (v1 4) → v10 5 = (v1 5) → v10 8 = (v1 8) → v10 9 = 0 → v10 10 = (v1 10) → v10 13 = (v1 13) → v10 14 = (v1 14) → v10 15 = (v1 15) → v10 17 = (v1 17) → v10 18 = (v1 18) → v10 24 = (v1 17) → v10 25 = (v1 18) → v10 35 = (v 35) → v10 36 = (v 36) → v10 38 = (v 38) → v10 39 = (v 39) → ((0 : Int) ≤ l1_10.toInt ∧ l1_10.toInt ≤ 2147483647) → f10 2 = (f2 2) → f10 3 = (f2 3) → (2147483647 - l1_10.toInt).toNat < n10 → ∀ (H : Heap) (locs : List Loc) (ls : Array Slot), va_P (dC, dI) vwCl (YW cy y0 r v10 f10 w10 g10) H → va_D A (YW cy y0 r v10 f10 w10 g10) → va_S A s.heap H locs → lv_has ls 2 [(1, .int l1_10), (0, .ref y0)] → W p l e { frames := 9, cells := 0, slots := 0, locals := 232 } s m ([.ref y0] : List Value).toArray below meth c H locs 0 0 Q (F0 m 138 ls []) := by
              intro n10
              induction n10 with
              | zero => intro l1_10 v10 f10 w10 g10 hIv10 hCf10 hRf10 hq0_v10 hq1_v10 hq3_v10 hq4_v10 hq5_v10 hq8_v10 hq9_v10 hq10_v10 hq13_v10 hq14_v10 hq15_v10 hq17_v10 hq18_v10 hq24_v10 hq25_v10 hq35_v10 hq36_v10 hq38_v10 hq39_v10 hr1_10 hs2_f10 hs3_f10 hm; exact absurd hm (Nat.not_lt_zero _)
              | succ n10 ih10 =>
                intro l1_10 v10 f10 w10 g10 hIv10 hCf10 hRf10 hq0_v10 hq1_v10 hq3_v10 hq4_v10 hq5_v10 hq8_v10 hq9_v10 hq10_v10 hq13_v10 hq14_v10 hq15_v10 hq17_v10 hq18_v10 hq24_v10 hq25_v10 hq35_v10 hq36_v10 hq38_v10 hq39_v10 hr1_10 hs2_f10 hs3_f10 hm10 H locs ls hP hD hS hl
                have hUv10 : (v10 35).toInt + (v10 36).toInt ≤ 40 := hIv10.2
                have zq1_v10 := congrArg Int32.toInt hq1_v10
                have zq3_v10 := congrArg Int32.toInt hq3_v10
                have zq4_v10 := congrArg Int32.toInt hq4_v10
                have zq5_v10 := congrArg Int32.toInt hq5_v10
                have zq8_v10 := congrArg Int32.toInt hq8_v10
                have zq9_v10 : (v10 9).toInt = 0 := by rw [hq9_v10]; decide
                have zq10_v10 := congrArg Int32.toInt hq10_v10
                have zq13_v10 := congrArg Int32.toInt hq13_v10
                have zq14_v10 := congrArg Int32.toInt hq14_v10
                have zq15_v10 := congrArg Int32.toInt hq15_v10
                have zq17_v10 := congrArg Int32.toInt hq17_v10
                have zq18_v10 := congrArg Int32.toInt hq18_v10
                have zq35_v10 := congrArg Int32.toInt hq35_v10
                have zq36_v10 := congrArg Int32.toInt hq36_v10
                refine lv_iload_n hx hb dX11_regiment_138 rfl (lv_at hl 0 rfl) ?_
                refine lv_aload_n hx hb dX11_regiment_139 rfl (lv_at hl 1 rfl) ?_
                refine va_get (D := (dC, dI)) (ci := 11) (v := .int (v10 24)) (C := RX11) (T := TX11) (N := 79) hx hb hts inB_11 hown hE.1 hP 0 rfl rfl 48 (by decide) (hts _ k_1368) (fun _ h9 => h9) rfl dX11_regiment_140 ?_
                refine tI (y := (v1 17)) hq24_v10 ?_
                have b17_v1 : 0 ≤ (v1 17).toInt ∧ (v1 17).toInt ≤ 6 := YIb.b hIv1.1 17 (by decide)
                refine lv_icmp_ge (tgt := 188) hx hb dX11_regiment_143 (by decide) (fun c11 => ?_) (fun c11 => ?_)
                · skip
                  have zc11 : (v1 17).toInt ≤ l1_10.toInt := by rw [fa_le] at c11; exact c11
                  have rg12 := fb_rng l1_10
                  have rg13 := fb_rng (v1 17)
                  refine lv_iconst (v := 0) hx hb dX11_regiment_188 (by decide) ?_
                  refine lv_istore_n (lv' := [(1, .int 0), (0, .ref y0)]) hx hb dX11_regiment_189 rfl hl (by decide) rfl (fun ls hl => ?_)
                  have lp14 : ∀ (n14 : Nat) (l1_14 : Int32) (v14 : Nat → Int32) (f14 : Nat → Nat → Int32) (w14 : Int64) (g14 : Nat → Int64), YI v14 → YC f14 → progOK (f14 4) (f14 5) (v14 9).toInt.toNat → v14 0 = (v1 0) → v14 1 = (v1 1) → v14 3 = (v1 3) → v14 4 = (v1 4) → v14 5 = (v1 5) → v14 8 = (v1 8) → v14 9 = 0 → v14 10 = (v1 10) → v14 13 = (v1 13) → v14 14 = (v1 14) → v14 15 = (v1 15) → v14 17 = (v1 17) → v14 18 = (v1 18) → v14 24 = (v1 17) → v14 25 = (v1 18) → v14 35 = (v 35) → v14 36 = (v 36) → v14 38 = (v 38) → v14 39 = (v 39) → ((0 : Int) ≤ l1_14.toInt ∧ l1_14.toInt ≤ 2147483647) → f14 2 = (f2 2) → f14 3 = (f2 3) → (2147483647 - l1_14.toInt).toNat < n14 → ∀ (H : Heap) (locs : List Loc) (ls : Array Slot), va_P (dC, dI) vwCl (YW cy y0 r v14 f14 w14 g14) H → va_D A (YW cy y0 r v14 f14 w14 g14) → va_S A s.heap H locs → lv_has ls 2 [(1, .int l1_14), (0, .ref y0)] → W p l e { frames := 9, cells := 0, slots := 0, locals := 232 } s m ([.ref y0] : List Value).toArray below meth c H locs 0 0 Q (F0 m 190 ls []) := by
                    intro n14
                    induction n14 with
                    | zero => intro l1_14 v14 f14 w14 g14 hIv14 hCf14 hRf14 hq0_v14 hq1_v14 hq3_v14 hq4_v14 hq5_v14 hq8_v14 hq9_v14 hq10_v14 hq13_v14 hq14_v14 hq15_v14 hq17_v14 hq18_v14 hq24_v14 hq25_v14 hq35_v14 hq36_v14 hq38_v14 hq39_v14 hr1_14 hs2_f14 hs3_f14 hm; exact absurd hm (Nat.not_lt_zero _)
                    | succ n14 ih14 =>
                      intro l1_14 v14 f14 w14 g14 hIv14 hCf14 hRf14 hq0_v14 hq1_v14 hq3_v14 hq4_v14 hq5_v14 hq8_v14 hq9_v14 hq10_v14 hq13_v14 hq14_v14 hq15_v14 hq17_v14 hq18_v14 hq24_v14 hq25_v14 hq35_v14 hq36_v14 hq38_v14 hq39_v14 hr1_14 hs2_f14 hs3_f14 hm14 H locs ls hP hD hS hl
                      have hUv14 : (v14 35).toInt + (v14 36).toInt ≤ 40 := hIv14.2
                      have zq1_v14 := congrArg Int32.toInt hq1_v14
                      have zq3_v14 := congrArg Int32.toInt hq3_v14
                      have zq4_v14 := congrArg Int32.toInt hq4_v14
                      have zq5_v14 := congrArg Int32.toInt hq5_v14
                      have zq8_v14 := congrArg Int32.toInt hq8_v14
                      have zq9_v14 : (v14 9).toInt = 0 := by rw [hq9_v14]; decide
                      have zq10_v14 := congrArg Int32.toInt hq10_v14
                      have zq13_v14 := congrArg Int32.toInt hq13_v14
                      have zq14_v14 := congrArg Int32.toInt hq14_v14
                      have zq15_v14 := congrArg Int32.toInt hq15_v14
                      have zq17_v14 := congrArg Int32.toInt hq17_v14
                      have zq18_v14 := congrArg Int32.toInt hq18_v14
                      have zq35_v14 := congrArg Int32.toInt hq35_v14
                      have zq36_v14 := congrArg Int32.toInt hq36_v14
                      refine lv_iload_n hx hb dX11_regiment_190 rfl (lv_at hl 0 rfl) ?_
                      refine lv_aload_n hx hb dX11_regiment_191 rfl (lv_at hl 1 rfl) ?_
                      refine va_get (D := (dC, dI)) (ci := 11) (v := .int (v14 25)) (C := RX11) (T := TX11) (N := 79) hx hb hts inB_11 hown hE.1 hP 0 rfl rfl 49 (by decide) (hts _ k_1369) (fun _ h9 => h9) rfl dX11_regiment_192 ?_
                      refine tI (y := (v1 18)) hq25_v14 ?_
                      have b18_v1 : 0 ≤ (v1 18).toInt ∧ (v1 18).toInt ≤ 6 := YIb.b hIv1.1 18 (by decide)
                      refine lv_icmp_ge (tgt := 252) hx hb dX11_regiment_195 (by decide) (fun c15 => ?_) (fun c15 => ?_)
                      · skip
                        have zc15 : (v1 18).toInt ≤ l1_14.toInt := by rw [fa_le] at c15; exact c15
                        have rg16 := fb_rng l1_14
                        have rg17 := fb_rng (v1 18)
                        refine lv_aload_n hx hb dX11_regiment_252 rfl (lv_at hl 1 rfl) ?_
                        refine cbVv (n := 0) (rest := []) hx hb hml hown hts hE hP hD hS hA (sY_X11_begin_1 l dC dI cy y0 r  v14 f14 w14 g14 hIv14 hCf14 hRf14 ) k_1716 k_1718 k_68 k_114 k_1719 (by decide +kernel) ⟨Nat.le_of_ble_eq_true rfl, Nat.le_of_ble_eq_true rfl⟩ 0 11 rfl rfl (rfl) hl.1 rfl (Nat.le_of_ble_eq_true rfl) dX11_regiment_253 (fun u H locs hw hP hD hS => ?_)
                        obtain ⟨v18, f19, w20, g21⟩ := u
                        obtain ⟨hIv18, hCf19, hRf19, hk0_v18, hk1_v18, hk3_v18, hk4_v18, hk5_v18, hk8_v18, hk9_v18, hk10_v18, hk13_v18, hk14_v18, hk15_v18, hk17_v18, hk18_v18, hk24_v18, hk25_v18, hk35_v18, hk36_v18, hk38_v18, hk39_v18⟩ := hw
                        have hP : va_P (dC, dI) vwCl (YW cy y0 r v18 f19 w20 g21) H := hP
                        have hD : va_D A (YW cy y0 r v18 f19 w20 g21) := hD
                        have hUv18 : (v18 35).toInt + (v18 36).toInt ≤ 40 := hIv18.2
                        have hq0_v18 : v18 0 = (v1 0) := hk0_v18.trans hq0_v14
                        have hq1_v18 : v18 1 = (v1 1) := hk1_v18.trans hq1_v14
                        have zq1_v18 := congrArg Int32.toInt hq1_v18
                        have hq3_v18 : v18 3 = (v1 3) := hk3_v18.trans hq3_v14
                        have zq3_v18 := congrArg Int32.toInt hq3_v18
                        have hq4_v18 : v18 4 = (v1 4) := hk4_v18.trans hq4_v14
                        have zq4_v18 := congrArg Int32.toInt hq4_v18
                        have hq5_v18 : v18 5 = (v1 5) := hk5_v18.trans hq5_v14
                        have zq5_v18 := congrArg Int32.toInt hq5_v18
                        have hq8_v18 : v18 8 = (v1 8) := hk8_v18.trans hq8_v14
                        have zq8_v18 := congrArg Int32.toInt hq8_v18
                        have hq9_v18 : v18 9 = 0 := hk9_v18.trans hq9_v14
                        have zq9_v18 : (v18 9).toInt = 0 := by rw [hq9_v18]; decide
                        have hq10_v18 : v18 10 = (v1 10) := hk10_v18.trans hq10_v14
                        have zq10_v18 := congrArg Int32.toInt hq10_v18
                        have hq13_v18 : v18 13 = (v1 13) := hk13_v18.trans hq13_v14
                        have zq13_v18 := congrArg Int32.toInt hq13_v18
                        have hq14_v18 : v18 14 = (v1 14) := hk14_v18.trans hq14_v14
                        have zq14_v18 := congrArg Int32.toInt hq14_v18
                        have hq15_v18 : v18 15 = (v1 15) := hk15_v18.trans hq15_v14
                        have zq15_v18 := congrArg Int32.toInt hq15_v18
                        have hq17_v18 : v18 17 = (v1 17) := hk17_v18.trans hq17_v14
                        have zq17_v18 := congrArg Int32.toInt hq17_v18
                        have hq18_v18 : v18 18 = (v1 18) := hk18_v18.trans hq18_v14
                        have zq18_v18 := congrArg Int32.toInt hq18_v18
                        have hq24_v18 : v18 24 = (v1 17) := hk24_v18.trans hq24_v14
                        have hq25_v18 : v18 25 = (v1 18) := hk25_v18.trans hq25_v14
                        have hq35_v18 : v18 35 = (v 35) := hk35_v18.trans hq35_v14
                        have zq35_v18 := congrArg Int32.toInt hq35_v18
                        have hq36_v18 : v18 36 = (v 36) := hk36_v18.trans hq36_v14
                        have zq36_v18 := congrArg Int32.toInt hq36_v18
                        have hq38_v18 : v18 38 = (v 38) := hk38_v18.trans hq38_v14
                        have hq39_v18 : v18 39 = (v 39) := hk39_v18.trans hq39_v14
                        refine lv_aload_n hx hb dX11_regiment_256 rfl (lv_at hl 1 rfl) ?_
                        refine va_get (D := (dC, dI)) (ci := 11) (v := .ref (r 60)) (C := RX11) (T := TX11) (N := 79) hx hb hts inB_11 hown hE.1 hP 0 rfl rfl 60 (by decide) (hts _ k_1380) (fun _ h9 => h9) rfl dX11_regiment_257 ?_
                        refine lv_bipush (v := 38) hx hb dX11_regiment_260 (by decide) ?_
                        refine lv_aload_n hx hb dX11_regiment_262 rfl (lv_at hl 1 rfl) ?_
                        refine va_get (D := (dC, dI)) (ci := 11) (v := .int (v18 23)) (C := RX11) (T := TX11) (N := 79) hx hb hts inB_11 hown hE.1 hP 0 rfl rfl 47 (by decide) (hts _ k_1367) (fun _ h9 => h9) rfl dX11_regiment_263 ?_
                        refine stI hx hb hE hP hD hS 25 rfl (vp_in_nI (n := 38) (by decide) (by decide)) rfl dX11_regiment_266 (fun H locs hP hD hS => ?_)
                        obtain ⟨f22, ef22, hP, hD⟩ : ∃ fz9, fz9 = upd2 f19 24 (upd (f19 24) (38 : Int32).toNatClampNeg (v18 23)) ∧ va_P (dC, dI) vwCl (YW cy y0 r v18 fz9 w20 g21) H ∧ va_D A (YW cy y0 r v18 fz9 w20 g21) := ⟨_, rfl, hP, hD⟩
                        have hCf22 : YC f22 := by rw [ef22]; exact ⟨hCf19.1, (wear_st hCf19.2.1 (by show 38 % 39 < 6 ∨ 12 ≤ 38 % 39 ∨ (-1 ≤ (v18 23).toInt ∧ (v18 23).toInt ≤ 5); omega)), hCf19.2.2.1, hCf19.2.2.2.1, hCf19.2.2.2.2.1, hCf19.2.2.2.2.2⟩
                        have hRf22 : progOK (f22 4) (f22 5) (v18 9).toInt.toNat := by rw [ef22]; exact hRf19
                        have hs2_f22 : f22 2 = (f19 2) := by rw [ef22]; exact rfl
                        have hs3_f22 : f22 3 = (f19 3) := by rw [ef22]; exact rfl
                        have hs4_f22 : f22 4 = (f19 4) := by rw [ef22]; exact rfl
                        have hs5_f22 : f22 5 = (f19 5) := by rw [ef22]; exact rfl
                        refine lv_aload_n hx hb dX11_regiment_267 rfl (lv_at hl 1 rfl) ?_
                        refine cbVv (n := 0) (rest := []) hx hb hml hown hts hE hP hD hS hA (sY_X11_keepAir_1 l dC dI cy y0 r  v18 f22 w20 g21 hIv18 hCf22 hRf22 ) k_1720 k_1722 k_69 k_114 k_1723 (by decide +kernel) ⟨Nat.le_of_ble_eq_true rfl, Nat.le_of_ble_eq_true rfl⟩ 0 11 rfl rfl (rfl) hl.1 rfl (Nat.le_of_ble_eq_true rfl) dX11_regiment_268 (fun u H locs hw hP hD hS => ?_)
                        obtain ⟨v23, f24, w25, g26⟩ := u
                        obtain ⟨hIv23, hCf24, hRf24, hk0_v23, hk1_v23, hk3_v23, hk4_v23, hk5_v23, hk8_v23, hk9_v23, hk10_v23, hk13_v23, hk14_v23, hk15_v23, hk17_v23, hk18_v23, hk24_v23, hk25_v23, hk35_v23, hk36_v23, hk38_v23, hk39_v23⟩ := hw
                        have hP : va_P (dC, dI) vwCl (YW cy y0 r v23 f24 w25 g26) H := hP
                        have hD : va_D A (YW cy y0 r v23 f24 w25 g26) := hD
                        have hUv23 : (v23 35).toInt + (v23 36).toInt ≤ 40 := hIv23.2
                        have hq0_v23 : v23 0 = (v1 0) := hk0_v23.trans hq0_v18
                        have hq1_v23 : v23 1 = (v1 1) := hk1_v23.trans hq1_v18
                        have zq1_v23 := congrArg Int32.toInt hq1_v23
                        have hq3_v23 : v23 3 = (v1 3) := hk3_v23.trans hq3_v18
                        have zq3_v23 := congrArg Int32.toInt hq3_v23
                        have hq4_v23 : v23 4 = (v1 4) := hk4_v23.trans hq4_v18
                        have zq4_v23 := congrArg Int32.toInt hq4_v23
                        have hq5_v23 : v23 5 = (v1 5) := hk5_v23.trans hq5_v18
                        have zq5_v23 := congrArg Int32.toInt hq5_v23
                        have hq8_v23 : v23 8 = (v1 8) := hk8_v23.trans hq8_v18
                        have zq8_v23 := congrArg Int32.toInt hq8_v23
                        have hq9_v23 : v23 9 = 0 := hk9_v23.trans hq9_v18
                        have zq9_v23 : (v23 9).toInt = 0 := by rw [hq9_v23]; decide
                        have hq10_v23 : v23 10 = (v1 10) := hk10_v23.trans hq10_v18
                        have zq10_v23 := congrArg Int32.toInt hq10_v23
                        have hq13_v23 : v23 13 = (v1 13) := hk13_v23.trans hq13_v18
                        have zq13_v23 := congrArg Int32.toInt hq13_v23
                        have hq14_v23 : v23 14 = (v1 14) := hk14_v23.trans hq14_v18
                        have zq14_v23 := congrArg Int32.toInt hq14_v23
                        have hq15_v23 : v23 15 = (v1 15) := hk15_v23.trans hq15_v18
                        have zq15_v23 := congrArg Int32.toInt hq15_v23
                        have hq17_v23 : v23 17 = (v1 17) := hk17_v23.trans hq17_v18
                        have zq17_v23 := congrArg Int32.toInt hq17_v23
                        have hq18_v23 : v23 18 = (v1 18) := hk18_v23.trans hq18_v18
                        have zq18_v23 := congrArg Int32.toInt hq18_v23
                        have hq24_v23 : v23 24 = (v1 17) := hk24_v23.trans hq24_v18
                        have hq25_v23 : v23 25 = (v1 18) := hk25_v23.trans hq25_v18
                        have hq35_v23 : v23 35 = (v 35) := hk35_v23.trans hq35_v18
                        have zq35_v23 := congrArg Int32.toInt hq35_v23
                        have hq36_v23 : v23 36 = (v 36) := hk36_v23.trans hq36_v18
                        have zq36_v23 := congrArg Int32.toInt hq36_v23
                        have hq38_v23 : v23 38 = (v 38) := hk38_v23.trans hq38_v18
                        have hq39_v23 : v23 39 = (v 39) := hk39_v23.trans hq39_v18
                        refine lv_aload_n hx hb dX11_regiment_271 rfl (lv_at hl 1 rfl) ?_
                        refine lv_iconst (v := 0) hx hb dX11_regiment_272 (by decide) ?_
                        refine va_put (D := (dC, dI)) (ci := 11) (v := .int 0) (ty := tyX11 62) (C := RX11) (T := TX11) (N := 79) hx hb hts inB_11 tyX11 tyX11_ok nmX11 hown hE.1 hP hD hS 0 rfl rfl 62 (by decide) (hts _ k_1382) (fun _ h9 => h9) rfl (tyX11_ok 62 (by decide)) rfl rfl (Nat.le_of_ble_eq_true rfl) dX11_regiment_273 (fun H locs hP hD hS => ?_)
                        have hP : va_P (dC, dI) vwCl (YW cy y0 r (upd v23 35 0) f24 w25 g26) H := hP
                        have hD : va_D A (YW cy y0 r (upd v23 35 0) f24 w25 g26) := hD
                        refine lv_aload_n hx hb dX11_regiment_276 rfl (lv_at hl 1 rfl) ?_
                        refine lv_iconst (v := 0) hx hb dX11_regiment_277 (by decide) ?_
                        refine va_put (D := (dC, dI)) (ci := 11) (v := .int 0) (ty := tyX11 63) (C := RX11) (T := TX11) (N := 79) hx hb hts inB_11 tyX11 tyX11_ok nmX11 hown hE.1 hP hD hS 0 rfl rfl 63 (by decide) (hts _ k_1383) (fun _ h9 => h9) rfl (tyX11_ok 63 (by decide)) rfl rfl (Nat.le_of_ble_eq_true rfl) dX11_regiment_278 (fun H locs hP hD hS => ?_)
                        have hP : va_P (dC, dI) vwCl (YW cy y0 r (upd (upd v23 35 0) 36 0) f24 w25 g26) H := hP
                        have hD : va_D A (YW cy y0 r (upd (upd v23 35 0) 36 0) f24 w25 g26) := hD
                        refine lv_aload_n hx hb dX11_regiment_281 rfl (lv_at hl 1 rfl) ?_
                        refine lv_iconst (v := 0) hx hb dX11_regiment_282 (by decide) ?_
                        refine va_put (D := (dC, dI)) (ci := 11) (v := .int 0) (ty := tyX11 73) (C := RX11) (T := TX11) (N := 79) hx hb hts inB_11 tyX11 tyX11_ok nmX11 hown hE.1 hP hD hS 0 rfl rfl 73 (by decide) (hts _ k_1393) (fun _ h9 => h9) rfl (tyX11_ok 73 (by decide)) rfl rfl (Nat.le_of_ble_eq_true rfl) dX11_regiment_283 (fun H locs hP hD hS => ?_)
                        have hP : va_P (dC, dI) vwCl (YW cy y0 r (upd (upd (upd v23 35 0) 36 0) 38 0) f24 w25 g26) H := hP
                        have hD : va_D A (YW cy y0 r (upd (upd (upd v23 35 0) 36 0) 38 0) f24 w25 g26) := hD
                        refine lv_aload_n hx hb dX11_regiment_286 rfl (lv_at hl 1 rfl) ?_
                        refine lv_iconst (v := 0) hx hb dX11_regiment_287 (by decide) ?_
                        refine va_put (D := (dC, dI)) (ci := 11) (v := .int 0) (ty := tyX11 67) (C := RX11) (T := TX11) (N := 79) hx hb hts inB_11 tyX11 tyX11_ok nmX11 hown hE.1 hP hD hS 0 rfl rfl 67 (by decide) (hts _ k_1387) (fun _ h9 => h9) rfl (tyX11_ok 67 (by decide)) rfl rfl (Nat.le_of_ble_eq_true rfl) dX11_regiment_288 (fun H locs hP hD hS => ?_)
                        have hP : va_P (dC, dI) vwCl (YW cy y0 r (upd (upd (upd (upd v23 35 0) 36 0) 38 0) 37 0) f24 w25 g26) H := hP
                        have hD : va_D A (YW cy y0 r (upd (upd (upd (upd v23 35 0) 36 0) 38 0) 37 0) f24 w25 g26) := hD
                        refine lv_iconst (v := 0) hx hb dX11_regiment_291 (by decide) ?_
                        refine lv_istore_n (lv' := [(1, .int 0), (0, .ref y0)]) hx hb dX11_regiment_292 rfl hl (by decide) rfl (fun ls hl => ?_)
                        have lp27 : ∀ (n27 : Nat) (l1_27 : Int32) (v27 : Nat → Int32) (f27 : Nat → Nat → Int32) (w27 : Int64) (g27 : Nat → Int64), YI v27 → YC f27 → progOK (f27 4) (f27 5) (v27 9).toInt.toNat → v27 0 = (v1 0) → v27 1 = (v1 1) → v27 3 = (v1 3) → v27 4 = (v1 4) → v27 5 = (v1 5) → v27 8 = (v1 8) → v27 9 = 0 → v27 10 = (v1 10) → v27 13 = (v1 13) → v27 14 = (v1 14) → v27 15 = (v1 15) → v27 17 = (v1 17) → v27 18 = (v1 18) → v27 24 = (v1 17) → v27 25 = (v1 18) → v27 35 = 0 → v27 36 = 0 → v27 38 = 0 → v27 39 = (v 39) → ((0 : Int) ≤ l1_27.toInt ∧ l1_27.toInt ≤ 2147483647) → f27 2 = (f24 2) → f27 3 = (f24 3) → f27 4 = (f24 4) → f27 5 = (f24 5) → (2147483647 - l1_27.toInt).toNat < n27 → ∀ (H : Heap) (locs : List Loc) (ls : Array Slot), va_P (dC, dI) vwCl (YW cy y0 r v27 f27 w27 g27) H → va_D A (YW cy y0 r v27 f27 w27 g27) → va_S A s.heap H locs → lv_has ls 2 [(1, .int l1_27), (0, .ref y0)] → W p l e { frames := 9, cells := 0, slots := 0, locals := 232 } s m ([.ref y0] : List Value).toArray below meth c H locs 0 0 Q (F0 m 293 ls []) := by
                          intro n27
                          induction n27 with
                          | zero => intro l1_27 v27 f27 w27 g27 hIv27 hCf27 hRf27 hq0_v27 hq1_v27 hq3_v27 hq4_v27 hq5_v27 hq8_v27 hq9_v27 hq10_v27 hq13_v27 hq14_v27 hq15_v27 hq17_v27 hq18_v27 hq24_v27 hq25_v27 hq35_v27 hq36_v27 hq38_v27 hq39_v27 hr1_27 hs2_f27 hs3_f27 hs4_f27 hs5_f27 hm; exact absurd hm (Nat.not_lt_zero _)
                          | succ n27 ih27 =>
                            intro l1_27 v27 f27 w27 g27 hIv27 hCf27 hRf27 hq0_v27 hq1_v27 hq3_v27 hq4_v27 hq5_v27 hq8_v27 hq9_v27 hq10_v27 hq13_v27 hq14_v27 hq15_v27 hq17_v27 hq18_v27 hq24_v27 hq25_v27 hq35_v27 hq36_v27 hq38_v27 hq39_v27 hr1_27 hs2_f27 hs3_f27 hs4_f27 hs5_f27 hm27 H locs ls hP hD hS hl
                            have hUv27 : (v27 35).toInt + (v27 36).toInt ≤ 40 := hIv27.2
                            have zq1_v27 := congrArg Int32.toInt hq1_v27
                            have zq3_v27 := congrArg Int32.toInt hq3_v27
                            have zq4_v27 := congrArg Int32.toInt hq4_v27
                            have zq5_v27 := congrArg Int32.toInt hq5_v27
                            have zq8_v27 := congrArg Int32.toInt hq8_v27
                            have zq9_v27 : (v27 9).toInt = 0 := by rw [hq9_v27]; decide
                            have zq10_v27 := congrArg Int32.toInt hq10_v27
                            have zq13_v27 := congrArg Int32.toInt hq13_v27
                            have zq14_v27 := congrArg Int32.toInt hq14_v27
                            have zq15_v27 := congrArg Int32.toInt hq15_v27
                            have zq17_v27 := congrArg Int32.toInt hq17_v27
                            have zq18_v27 := congrArg Int32.toInt hq18_v27
                            have zq35_v27 : (v27 35).toInt = 0 := by rw [hq35_v27]; decide
                            have zq36_v27 : (v27 36).toInt = 0 := by rw [hq36_v27]; decide
                            have zq38_v27 : (v27 38).toInt = 0 := by rw [hq38_v27]; decide
                            refine lv_iload_n hx hb dX11_regiment_293 rfl (lv_at hl 0 rfl) ?_
                            refine lv_iconst (v := 3) hx hb dX11_regiment_294 (by decide) ?_
                            refine lv_icmp_ge (tgt := 311) hx hb dX11_regiment_295 (by decide) (fun c28 => ?_) (fun c28 => ?_)
                            · skip
                              have zc28 : 3 ≤ l1_27.toInt := by rw [fa_le, show (3 : Int32).toInt = 3 from by decide] at c28; exact c28
                              refine lv_aload_n hx hb dX11_regiment_311 rfl (lv_at hl 1 rfl) ?_
                              refine va_get (D := (dC, dI)) (ci := 11) (v := .int (v27 24)) (C := RX11) (T := TX11) (N := 79) hx hb hts inB_11 hown hE.1 hP 0 rfl rfl 48 (by decide) (hts _ k_1368) (fun _ h9 => h9) rfl dX11_regiment_312 ?_
                              refine tI (y := (v1 17)) hq24_v27 ?_
                              have b17_v1 : 0 ≤ (v1 17).toInt ∧ (v1 17).toInt ≤ 6 := YIb.b hIv1.1 17 (by decide)
                              exact ret (v1 17) (v27, f27, w27, g27) _ _ _ _ _ _ rfl ⟨hIv27, hCf27, hRf27, hq39_v27⟩ hP hD hS dX11_regiment_315 (Nat.le_refl _) (Nat.le_refl _)
                            · skip
                              have zc28 : ¬ (3 ≤ l1_27.toInt) := by rw [fa_le, show (3 : Int32).toInt = 3 from by decide] at c28; exact c28
                              refine lv_aload_n hx hb dX11_regiment_298 rfl (lv_at hl 1 rfl) ?_
                              refine va_get (D := (dC, dI)) (ci := 11) (v := .ref (r 77)) (C := RX11) (T := TX11) (N := 79) hx hb hts inB_11 hown hE.1 hP 0 rfl rfl 77 (by decide) (hts _ k_1397) (fun _ h9 => h9) rfl dX11_regiment_299 ?_
                              refine lv_iload_n hx hb dX11_regiment_302 rfl (lv_at hl 0 rfl) ?_
                              refine lv_iconst (v := 0) hx hb dX11_regiment_303 (by decide) ?_
                              refine stZ hx hb hE hP hD hS 37 rfl (vp_in_iff.mpr ⟨by omega, by omega⟩) rfl dX11_regiment_304 (fun H locs hP hD hS => ?_)
                              obtain ⟨f29, ef29, hP, hD⟩ : ∃ fz9, fz9 = upd2 f27 36 (upd (f27 36) l1_27.toNatClampNeg (vp_nar .boolean 0)) ∧ va_P (dC, dI) vwCl (YW cy y0 r v27 fz9 w27 g27) H ∧ va_D A (YW cy y0 r v27 fz9 w27 g27) := ⟨_, rfl, hP, hD⟩
                              have hCf29 : YC f29 := by rw [ef29]; exact hCf27
                              have hRf29 : progOK (f29 4) (f29 5) (v27 9).toInt.toNat := by rw [ef29]; exact hRf27
                              have hs2_f29 : f29 2 = (f24 2) := by rw [ef29]; exact hs2_f27
                              have hs3_f29 : f29 3 = (f24 3) := by rw [ef29]; exact hs3_f27
                              have hs4_f29 : f29 4 = (f24 4) := by rw [ef29]; exact hs4_f27
                              have hs5_f29 : f29 5 = (f24 5) := by rw [ef29]; exact hs5_f27
                              obtain ⟨t30, et30⟩ : ∃ y : Int32, y = l1_27 + 1 := ⟨_, rfl⟩
                              have rg31 := fb_rng l1_27
                              have zt30 : t30.toInt = l1_27.toInt + 1 := by rw [et30]; exact add_i rfl (by decide) (by omega) (by omega)
                              refine lv_iinc (v := t30) (lv' := [(1, .int t30), (0, .ref y0)]) hx hb dX11_regiment_305 hl (k := 0) rfl (by rw [et30]; rfl) (by decide) rfl (fun ls hl => ?_)
                              refine lv_goto (tgt := 293) hx hb dX11_regiment_308 (by decide) ?_
                              have rg32 := fb_rng t30
                              exact ih27 t30 v27 f29 w27 g27 hIv27 hCf29 hRf29 hq0_v27 hq1_v27 hq3_v27 hq4_v27 hq5_v27 hq8_v27 hq9_v27 hq10_v27 hq13_v27 hq14_v27 hq15_v27 hq17_v27 hq18_v27 hq24_v27 hq25_v27 hq35_v27 hq36_v27 hq38_v27 hq39_v27 ⟨show (0 : Int) ≤ t30.toInt by omega, show t30.toInt ≤ (2147483647 : Int) by omega⟩ hs2_f29 hs3_f29 hs4_f29 hs5_f29 (by show (2147483647 - t30.toInt).toNat < n27; omega) _ _ _ hP hD hS (lv_sub hl [0, 1] rfl)
                        exact lp27 _ 0 (upd (upd (upd (upd v23 35 0) 36 0) 38 0) 37 0) f24 w25 g26 ⟨(YIb.upd (j := 37) (x := 0) (YIb.upd (j := 38) (x := 0) (YIb.upd (j := 36) (x := 0) (YIb.upd (j := 35) (x := 0) hIv23.1 (by decide) (by decide)) (by decide) (by decide)) (by decide) (by decide)) (by decide) (by decide)), (by have q9 := hIv23.2; have q0 : (0 : Int32).toInt = 0 := (by decide); show (0 : Int32).toInt + (0 : Int32).toInt ≤ 40; omega)⟩ hCf24 hRf24 hq0_v23 hq1_v23 hq3_v23 hq4_v23 hq5_v23 hq8_v23 hq9_v23 hq10_v23 hq13_v23 hq14_v23 hq15_v23 hq17_v23 hq18_v23 hq24_v23 hq25_v23 rfl rfl rfl hq39_v23 ⟨by decide, by decide⟩ rfl rfl rfl rfl (Nat.lt_succ_self _) _ _ _ hP hD hS (lv_sub hl [0, 1] rfl)
                      · skip
                        have zc15 : ¬ ((v1 18).toInt ≤ l1_14.toInt) := by rw [fa_le] at c15; exact c15
                        have rg33 := fb_rng l1_14
                        have rg34 := fb_rng (v1 18)
                        refine lv_aload_n hx hb dX11_regiment_198 rfl (lv_at hl 1 rfl) ?_
                        refine va_get (D := (dC, dI)) (ci := 11) (v := .ref (r 37)) (C := RX11) (T := TX11) (N := 79) hx hb hts inB_11 hown hE.1 hP 0 rfl rfl 37 (by decide) (hts _ k_1357) (fun _ h9 => h9) rfl dX11_regiment_199 ?_
                        refine lv_iload_n hx hb dX11_regiment_202 rfl (lv_at hl 0 rfl) ?_
                        refine lv_aload_n hx hb dX11_regiment_203 rfl (lv_at hl 1 rfl) ?_
                        refine va_get (D := (dC, dI)) (ci := 11) (v := .ref (r 30)) (C := RX11) (T := TX11) (N := 79) hx hb hts inB_11 hown hE.1 hP 0 rfl rfl 30 (by decide) (hts _ k_1350) (fun _ h9 => h9) rfl dX11_regiment_204 ?_
                        refine lv_iload_n hx hb dX11_regiment_207 rfl (lv_at hl 0 rfl) ?_
                        refine ldI hx hb hE hP 13 rfl (vp_in_iff.mpr ⟨by omega, by omega⟩) rfl rfl dX11_regiment_208 ?_
                        refine lv_topi (fun t35 et35 => ?_)
                        refine stI hx hb hE hP hD hS 20 rfl (vp_in_iff.mpr ⟨by omega, by omega⟩) rfl dX11_regiment_209 (fun H locs hP hD hS => ?_)
                        obtain ⟨f36, ef36, hP, hD⟩ : ∃ fz9, fz9 = upd2 f14 19 (upd (f14 19) l1_14.toNatClampNeg t35) ∧ va_P (dC, dI) vwCl (YW cy y0 r v14 fz9 w14 g14) H ∧ va_D A (YW cy y0 r v14 fz9 w14 g14) := ⟨_, rfl, hP, hD⟩
                        have hCf36 : YC f36 := by rw [ef36]; exact hCf14
                        have hRf36 : progOK (f36 4) (f36 5) (v14 9).toInt.toNat := by rw [ef36]; exact hRf14
                        have hs2_f36 : f36 2 = (f2 2) := by rw [ef36]; exact hs2_f14
                        have hs3_f36 : f36 3 = (f2 3) := by rw [ef36]; exact hs3_f14
                        have hs4_f36 : f36 4 = (f14 4) := by rw [ef36]; exact rfl
                        have hs5_f36 : f36 5 = (f14 5) := by rw [ef36]; exact rfl
                        refine lv_aload_n hx hb dX11_regiment_210 rfl (lv_at hl 1 rfl) ?_
                        refine va_get (D := (dC, dI)) (ci := 11) (v := .ref (r 38)) (C := RX11) (T := TX11) (N := 79) hx hb hts inB_11 hown hE.1 hP 0 rfl rfl 38 (by decide) (hts _ k_1358) (fun _ h9 => h9) rfl dX11_regiment_211 ?_
                        refine lv_iload_n hx hb dX11_regiment_214 rfl (lv_at hl 0 rfl) ?_
                        refine lv_aload_n hx hb dX11_regiment_215 rfl (lv_at hl 1 rfl) ?_
                        refine va_get (D := (dC, dI)) (ci := 11) (v := .ref (r 31)) (C := RX11) (T := TX11) (N := 79) hx hb hts inB_11 hown hE.1 hP 0 rfl rfl 31 (by decide) (hts _ k_1351) (fun _ h9 => h9) rfl dX11_regiment_216 ?_
                        refine lv_iload_n hx hb dX11_regiment_219 rfl (lv_at hl 0 rfl) ?_
                        refine ldI hx hb hE hP 14 rfl (vp_in_iff.mpr ⟨by omega, by omega⟩) rfl rfl dX11_regiment_220 ?_
                        refine lv_topi (fun t37 et37 => ?_)
                        refine stI hx hb hE hP hD hS 21 rfl (vp_in_iff.mpr ⟨by omega, by omega⟩) rfl dX11_regiment_221 (fun H locs hP hD hS => ?_)
                        obtain ⟨f38, ef38, hP, hD⟩ : ∃ fz9, fz9 = upd2 f36 20 (upd (f36 20) l1_14.toNatClampNeg t37) ∧ va_P (dC, dI) vwCl (YW cy y0 r v14 fz9 w14 g14) H ∧ va_D A (YW cy y0 r v14 fz9 w14 g14) := ⟨_, rfl, hP, hD⟩
                        have hCf38 : YC f38 := by rw [ef38]; exact hCf36
                        have hRf38 : progOK (f38 4) (f38 5) (v14 9).toInt.toNat := by rw [ef38]; exact hRf36
                        have hs2_f38 : f38 2 = (f2 2) := by rw [ef38]; exact hs2_f36
                        have hs3_f38 : f38 3 = (f2 3) := by rw [ef38]; exact hs3_f36
                        have hs4_f38 : f38 4 = (f14 4) := by rw [ef38]; exact hs4_f36
                        have hs5_f38 : f38 5 = (f14 5) := by rw [ef38]; exact hs5_f36
                        refine lv_aload_n hx hb dX11_regiment_222 rfl (lv_at hl 1 rfl) ?_
                        refine va_get (D := (dC, dI)) (ci := 11) (v := .ref (r 39)) (C := RX11) (T := TX11) (N := 79) hx hb hts inB_11 hown hE.1 hP 0 rfl rfl 39 (by decide) (hts _ k_1359) (fun _ h9 => h9) rfl dX11_regiment_223 ?_
                        refine lv_iload_n hx hb dX11_regiment_226 rfl (lv_at hl 0 rfl) ?_
                        refine lv_aload_n hx hb dX11_regiment_227 rfl (lv_at hl 1 rfl) ?_
                        refine va_get (D := (dC, dI)) (ci := 11) (v := .ref (r 32)) (C := RX11) (T := TX11) (N := 79) hx hb hts inB_11 hown hE.1 hP 0 rfl rfl 32 (by decide) (hts _ k_1352) (fun _ h9 => h9) rfl dX11_regiment_228 ?_
                        refine lv_iload_n hx hb dX11_regiment_231 rfl (lv_at hl 0 rfl) ?_
                        refine ldI hx hb hE hP 15 rfl (vp_in_iff.mpr ⟨by omega, by omega⟩) rfl rfl dX11_regiment_232 ?_
                        refine lv_topi (fun t39 et39 => ?_)
                        refine stI hx hb hE hP hD hS 22 rfl (vp_in_iff.mpr ⟨by omega, by omega⟩) rfl dX11_regiment_233 (fun H locs hP hD hS => ?_)
                        obtain ⟨f40, ef40, hP, hD⟩ : ∃ fz9, fz9 = upd2 f38 21 (upd (f38 21) l1_14.toNatClampNeg t39) ∧ va_P (dC, dI) vwCl (YW cy y0 r v14 fz9 w14 g14) H ∧ va_D A (YW cy y0 r v14 fz9 w14 g14) := ⟨_, rfl, hP, hD⟩
                        have hCf40 : YC f40 := by rw [ef40]; exact hCf38
                        have hRf40 : progOK (f40 4) (f40 5) (v14 9).toInt.toNat := by rw [ef40]; exact hRf38
                        have hs2_f40 : f40 2 = (f2 2) := by rw [ef40]; exact hs2_f38
                        have hs3_f40 : f40 3 = (f2 3) := by rw [ef40]; exact hs3_f38
                        have hs4_f40 : f40 4 = (f14 4) := by rw [ef40]; exact hs4_f38
                        have hs5_f40 : f40 5 = (f14 5) := by rw [ef40]; exact hs5_f38
                        refine lv_aload_n hx hb dX11_regiment_234 rfl (lv_at hl 1 rfl) ?_
                        refine va_get (D := (dC, dI)) (ci := 11) (v := .ref (r 40)) (C := RX11) (T := TX11) (N := 79) hx hb hts inB_11 hown hE.1 hP 0 rfl rfl 40 (by decide) (hts _ k_1360) (fun _ h9 => h9) rfl dX11_regiment_235 ?_
                        refine lv_iload_n hx hb dX11_regiment_238 rfl (lv_at hl 0 rfl) ?_
                        refine lv_aload_n hx hb dX11_regiment_239 rfl (lv_at hl 1 rfl) ?_
                        refine va_get (D := (dC, dI)) (ci := 11) (v := .ref (r 33)) (C := RX11) (T := TX11) (N := 79) hx hb hts inB_11 hown hE.1 hP 0 rfl rfl 33 (by decide) (hts _ k_1353) (fun _ h9 => h9) rfl dX11_regiment_240 ?_
                        refine lv_iload_n hx hb dX11_regiment_243 rfl (lv_at hl 0 rfl) ?_
                        refine ldI hx hb hE hP 16 rfl (vp_in_iff.mpr ⟨by omega, by omega⟩) rfl rfl dX11_regiment_244 ?_
                        refine lv_topi (fun t41 et41 => ?_)
                        refine stI hx hb hE hP hD hS 23 rfl (vp_in_iff.mpr ⟨by omega, by omega⟩) rfl dX11_regiment_245 (fun H locs hP hD hS => ?_)
                        obtain ⟨f42, ef42, hP, hD⟩ : ∃ fz9, fz9 = upd2 f40 22 (upd (f40 22) l1_14.toNatClampNeg t41) ∧ va_P (dC, dI) vwCl (YW cy y0 r v14 fz9 w14 g14) H ∧ va_D A (YW cy y0 r v14 fz9 w14 g14) := ⟨_, rfl, hP, hD⟩
                        have hCf42 : YC f42 := by rw [ef42]; exact hCf40
                        have hRf42 : progOK (f42 4) (f42 5) (v14 9).toInt.toNat := by rw [ef42]; exact hRf40
                        have hs2_f42 : f42 2 = (f2 2) := by rw [ef42]; exact hs2_f40
                        have hs3_f42 : f42 3 = (f2 3) := by rw [ef42]; exact hs3_f40
                        have hs4_f42 : f42 4 = (f14 4) := by rw [ef42]; exact hs4_f40
                        have hs5_f42 : f42 5 = (f14 5) := by rw [ef42]; exact hs5_f40
                        obtain ⟨t43, et43⟩ : ∃ y : Int32, y = l1_14 + 1 := ⟨_, rfl⟩
                        have zt43 : t43.toInt = l1_14.toInt + 1 := by rw [et43]; exact add_i rfl (by decide) (by omega) (by omega)
                        refine lv_iinc (v := t43) (lv' := [(1, .int t43), (0, .ref y0)]) hx hb dX11_regiment_246 hl (k := 0) rfl (by rw [et43]; rfl) (by decide) rfl (fun ls hl => ?_)
                        refine lv_goto (tgt := 190) hx hb dX11_regiment_249 (by decide) ?_
                        have rg44 := fb_rng t43
                        exact ih14 t43 v14 f42 w14 g14 hIv14 hCf42 hRf42 hq0_v14 hq1_v14 hq3_v14 hq4_v14 hq5_v14 hq8_v14 hq9_v14 hq10_v14 hq13_v14 hq14_v14 hq15_v14 hq17_v14 hq18_v14 hq24_v14 hq25_v14 hq35_v14 hq36_v14 hq38_v14 hq39_v14 ⟨show (0 : Int) ≤ t43.toInt by omega, show t43.toInt ≤ (2147483647 : Int) by omega⟩ hs2_f42 hs3_f42 (by show (2147483647 - t43.toInt).toNat < n14; omega) _ _ _ hP hD hS (lv_sub hl [0, 1] rfl)
                  exact lp14 _ 0 v10 f10 w10 g10 hIv10 hCf10 hRf10 hq0_v10 hq1_v10 hq3_v10 hq4_v10 hq5_v10 hq8_v10 hq9_v10 hq10_v10 hq13_v10 hq14_v10 hq15_v10 hq17_v10 hq18_v10 hq24_v10 hq25_v10 hq35_v10 hq36_v10 hq38_v10 hq39_v10 ⟨by decide, by decide⟩ hs2_f10 hs3_f10 (Nat.lt_succ_self _) _ _ _ hP hD hS (lv_sub hl [0, 1] rfl)
                · skip
                  have zc11 : ¬ ((v1 17).toInt ≤ l1_10.toInt) := by rw [fa_le] at c11; exact c11
                  have rg45 := fb_rng l1_10
                  have rg46 := fb_rng (v1 17)
                  refine lv_aload_n hx hb dX11_regiment_146 rfl (lv_at hl 1 rfl) ?_
                  refine va_get (D := (dC, dI)) (ci := 11) (v := .ref (r 34)) (C := RX11) (T := TX11) (N := 79) hx hb hts inB_11 hown hE.1 hP 0 rfl rfl 34 (by decide) (hts _ k_1354) (fun _ h9 => h9) rfl dX11_regiment_147 ?_
                  refine lv_iload_n hx hb dX11_regiment_150 rfl (lv_at hl 0 rfl) ?_
                  refine lv_aload_n hx hb dX11_regiment_151 rfl (lv_at hl 1 rfl) ?_
                  refine va_get (D := (dC, dI)) (ci := 11) (v := .ref (r 27)) (C := RX11) (T := TX11) (N := 79) hx hb hts inB_11 hown hE.1 hP 0 rfl rfl 27 (by decide) (hts _ k_1347) (fun _ h9 => h9) rfl dX11_regiment_152 ?_
                  refine lv_iload_n hx hb dX11_regiment_155 rfl (lv_at hl 0 rfl) ?_
                  refine ldI hx hb hE hP 10 rfl (vp_in_iff.mpr ⟨by omega, by omega⟩) rfl rfl dX11_regiment_156 ?_
                  refine lv_topi (fun t47 et47 => ?_)
                  refine stI hx hb hE hP hD hS 17 rfl (vp_in_iff.mpr ⟨by omega, by omega⟩) rfl dX11_regiment_157 (fun H locs hP hD hS => ?_)
                  obtain ⟨f48, ef48, hP, hD⟩ : ∃ fz9, fz9 = upd2 f10 16 (upd (f10 16) l1_10.toNatClampNeg t47) ∧ va_P (dC, dI) vwCl (YW cy y0 r v10 fz9 w10 g10) H ∧ va_D A (YW cy y0 r v10 fz9 w10 g10) := ⟨_, rfl, hP, hD⟩
                  have hCf48 : YC f48 := by rw [ef48]; exact hCf10
                  have hRf48 : progOK (f48 4) (f48 5) (v10 9).toInt.toNat := by rw [ef48]; exact hRf10
                  have hs2_f48 : f48 2 = (f2 2) := by rw [ef48]; exact hs2_f10
                  have hs3_f48 : f48 3 = (f2 3) := by rw [ef48]; exact hs3_f10
                  have hs4_f48 : f48 4 = (f10 4) := by rw [ef48]; exact rfl
                  have hs5_f48 : f48 5 = (f10 5) := by rw [ef48]; exact rfl
                  refine lv_aload_n hx hb dX11_regiment_158 rfl (lv_at hl 1 rfl) ?_
                  refine va_get (D := (dC, dI)) (ci := 11) (v := .ref (r 35)) (C := RX11) (T := TX11) (N := 79) hx hb hts inB_11 hown hE.1 hP 0 rfl rfl 35 (by decide) (hts _ k_1355) (fun _ h9 => h9) rfl dX11_regiment_159 ?_
                  refine lv_iload_n hx hb dX11_regiment_162 rfl (lv_at hl 0 rfl) ?_
                  refine lv_aload_n hx hb dX11_regiment_163 rfl (lv_at hl 1 rfl) ?_
                  refine va_get (D := (dC, dI)) (ci := 11) (v := .ref (r 28)) (C := RX11) (T := TX11) (N := 79) hx hb hts inB_11 hown hE.1 hP 0 rfl rfl 28 (by decide) (hts _ k_1348) (fun _ h9 => h9) rfl dX11_regiment_164 ?_
                  refine lv_iload_n hx hb dX11_regiment_167 rfl (lv_at hl 0 rfl) ?_
                  refine ldI hx hb hE hP 11 rfl (vp_in_iff.mpr ⟨by omega, by omega⟩) rfl rfl dX11_regiment_168 ?_
                  refine lv_topi (fun t49 et49 => ?_)
                  refine stI hx hb hE hP hD hS 18 rfl (vp_in_iff.mpr ⟨by omega, by omega⟩) rfl dX11_regiment_169 (fun H locs hP hD hS => ?_)
                  obtain ⟨f50, ef50, hP, hD⟩ : ∃ fz9, fz9 = upd2 f48 17 (upd (f48 17) l1_10.toNatClampNeg t49) ∧ va_P (dC, dI) vwCl (YW cy y0 r v10 fz9 w10 g10) H ∧ va_D A (YW cy y0 r v10 fz9 w10 g10) := ⟨_, rfl, hP, hD⟩
                  have hCf50 : YC f50 := by rw [ef50]; exact hCf48
                  have hRf50 : progOK (f50 4) (f50 5) (v10 9).toInt.toNat := by rw [ef50]; exact hRf48
                  have hs2_f50 : f50 2 = (f2 2) := by rw [ef50]; exact hs2_f48
                  have hs3_f50 : f50 3 = (f2 3) := by rw [ef50]; exact hs3_f48
                  have hs4_f50 : f50 4 = (f10 4) := by rw [ef50]; exact hs4_f48
                  have hs5_f50 : f50 5 = (f10 5) := by rw [ef50]; exact hs5_f48
                  refine lv_aload_n hx hb dX11_regiment_170 rfl (lv_at hl 1 rfl) ?_
                  refine va_get (D := (dC, dI)) (ci := 11) (v := .ref (r 36)) (C := RX11) (T := TX11) (N := 79) hx hb hts inB_11 hown hE.1 hP 0 rfl rfl 36 (by decide) (hts _ k_1356) (fun _ h9 => h9) rfl dX11_regiment_171 ?_
                  refine lv_iload_n hx hb dX11_regiment_174 rfl (lv_at hl 0 rfl) ?_
                  refine lv_aload_n hx hb dX11_regiment_175 rfl (lv_at hl 1 rfl) ?_
                  refine va_get (D := (dC, dI)) (ci := 11) (v := .ref (r 29)) (C := RX11) (T := TX11) (N := 79) hx hb hts inB_11 hown hE.1 hP 0 rfl rfl 29 (by decide) (hts _ k_1349) (fun _ h9 => h9) rfl dX11_regiment_176 ?_
                  refine lv_iload_n hx hb dX11_regiment_179 rfl (lv_at hl 0 rfl) ?_
                  refine ldI hx hb hE hP 12 rfl (vp_in_iff.mpr ⟨by omega, by omega⟩) rfl rfl dX11_regiment_180 ?_
                  refine lv_topi (fun t51 et51 => ?_)
                  refine stI hx hb hE hP hD hS 19 rfl (vp_in_iff.mpr ⟨by omega, by omega⟩) rfl dX11_regiment_181 (fun H locs hP hD hS => ?_)
                  obtain ⟨f52, ef52, hP, hD⟩ : ∃ fz9, fz9 = upd2 f50 18 (upd (f50 18) l1_10.toNatClampNeg t51) ∧ va_P (dC, dI) vwCl (YW cy y0 r v10 fz9 w10 g10) H ∧ va_D A (YW cy y0 r v10 fz9 w10 g10) := ⟨_, rfl, hP, hD⟩
                  have hCf52 : YC f52 := by rw [ef52]; exact hCf50
                  have hRf52 : progOK (f52 4) (f52 5) (v10 9).toInt.toNat := by rw [ef52]; exact hRf50
                  have hs2_f52 : f52 2 = (f2 2) := by rw [ef52]; exact hs2_f50
                  have hs3_f52 : f52 3 = (f2 3) := by rw [ef52]; exact hs3_f50
                  have hs4_f52 : f52 4 = (f10 4) := by rw [ef52]; exact hs4_f50
                  have hs5_f52 : f52 5 = (f10 5) := by rw [ef52]; exact hs5_f50
                  obtain ⟨t53, et53⟩ : ∃ y : Int32, y = l1_10 + 1 := ⟨_, rfl⟩
                  have zt53 : t53.toInt = l1_10.toInt + 1 := by rw [et53]; exact add_i rfl (by decide) (by omega) (by omega)
                  refine lv_iinc (v := t53) (lv' := [(1, .int t53), (0, .ref y0)]) hx hb dX11_regiment_182 hl (k := 0) rfl (by rw [et53]; rfl) (by decide) rfl (fun ls hl => ?_)
                  refine lv_goto (tgt := 138) hx hb dX11_regiment_185 (by decide) ?_
                  have rg54 := fb_rng t53
                  exact ih10 t53 v10 f52 w10 g10 hIv10 hCf52 hRf52 hq0_v10 hq1_v10 hq3_v10 hq4_v10 hq5_v10 hq8_v10 hq9_v10 hq10_v10 hq13_v10 hq14_v10 hq15_v10 hq17_v10 hq18_v10 hq24_v10 hq25_v10 hq35_v10 hq36_v10 hq38_v10 hq39_v10 ⟨show (0 : Int) ≤ t53.toInt by omega, show t53.toInt ≤ (2147483647 : Int) by omega⟩ hs2_f52 hs3_f52 (by show (2147483647 - t53.toInt).toNat < n10; omega) _ _ _ hP hD hS (lv_sub hl [0, 1] rfl)
            exact lp10 _ 0 v8 f8 w8 g8 hIv8 hCf8 hRf8 hq0_v8 hq1_v8 hq3_v8 hq4_v8 hq5_v8 hq8_v8 hq9_v8 hq10_v8 hq13_v8 hq14_v8 hq15_v8 hq17_v8 hq18_v8 hq24_v8 hq25_v8 hq35_v8 hq36_v8 hq38_v8 hq39_v8 ⟨by decide, by decide⟩ hs2_f8 hs3_f8 (Nat.lt_succ_self _) _ _ _ hP hD hS (lv_sub hl [0, 1] rfl)
          · skip
            have zc9 : ¬ (0 ≤ l1_8.toInt) := by rw [fa_le, show (0 : Int32).toInt = 0 from by decide] at c9; exact c9
            refine lv_aload_n hx hb dX11_regiment_106 rfl (lv_at hl 1 rfl) ?_
            refine va_get (D := (dC, dI)) (ci := 11) (v := .ref (r 13)) (C := RX11) (T := TX11) (N := 79) hx hb hts inB_11 hown hE.1 hP 0 rfl rfl 13 (by decide) (hts _ k_1333) (fun _ h9 => h9) rfl dX11_regiment_107 ?_
            refine lv_iload_n hx hb dX11_regiment_110 rfl (lv_at hl 0 rfl) ?_
            refine lv_aload_n hx hb dX11_regiment_111 rfl (lv_at hl 1 rfl) ?_
            refine va_get (D := (dC, dI)) (ci := 11) (v := .ref (r 11)) (C := RX11) (T := TX11) (N := 79) hx hb hts inB_11 hown hE.1 hP 0 rfl rfl 11 (by decide) (hts _ k_1331) (fun _ h9 => h9) rfl dX11_regiment_112 ?_
            refine lv_iload_n hx hb dX11_regiment_115 rfl (lv_at hl 0 rfl) ?_
            refine ldI hx hb hE hP 3 rfl (vp_in_iff.mpr ⟨by omega, by omega⟩) rfl rfl dX11_regiment_116 ?_
            refine lv_topi (fun t55 et55 => ?_)
            have hO2 : (f2 2) l1_8.toInt.toNat = t55 := by rw [et55, hs2_f8]; rfl
            refine stI hx hb hE hP hD hS 5 rfl (vp_in_iff.mpr ⟨by omega, by omega⟩) rfl dX11_regiment_117 (fun H locs hP hD hS => ?_)
            obtain ⟨f56, ef56, hP, hD⟩ : ∃ fz9, fz9 = upd2 f8 4 (upd (f8 4) l1_8.toNatClampNeg t55) ∧ va_P (dC, dI) vwCl (YW cy y0 r v8 fz9 w8 g8) H ∧ va_D A (YW cy y0 r v8 fz9 w8 g8) := ⟨_, rfl, hP, hD⟩
            have hCf56 : YC f56 := by rw [ef56]; exact hCf8
            have hs2_f56 : f56 2 = (f2 2) := by rw [ef56]; exact hs2_f8
            have hs3_f56 : f56 3 = (f2 3) := by rw [ef56]; exact hs3_f8
            have hs4_f56 : f56 4 = (upd (f8 4) (l1_8.toInt.toNat) t55) := by rw [ef56]; show upd (f8 4) (l1_8.toInt.toNat) t55 = _; rfl
            have hs5_f56 : f56 5 = (f8 5) := by rw [ef56]; exact rfl
            refine lv_aload_n hx hb dX11_regiment_118 rfl (lv_at hl 1 rfl) ?_
            refine va_get (D := (dC, dI)) (ci := 11) (v := .ref (r 14)) (C := RX11) (T := TX11) (N := 79) hx hb hts inB_11 hown hE.1 hP 0 rfl rfl 14 (by decide) (hts _ k_1334) (fun _ h9 => h9) rfl dX11_regiment_119 ?_
            refine lv_iload_n hx hb dX11_regiment_122 rfl (lv_at hl 0 rfl) ?_
            refine lv_aload_n hx hb dX11_regiment_123 rfl (lv_at hl 1 rfl) ?_
            refine va_get (D := (dC, dI)) (ci := 11) (v := .ref (r 12)) (C := RX11) (T := TX11) (N := 79) hx hb hts inB_11 hown hE.1 hP 0 rfl rfl 12 (by decide) (hts _ k_1332) (fun _ h9 => h9) rfl dX11_regiment_124 ?_
            refine lv_iload_n hx hb dX11_regiment_127 rfl (lv_at hl 0 rfl) ?_
            refine ldI hx hb hE hP 4 rfl (vp_in_iff.mpr ⟨by omega, by omega⟩) rfl rfl dX11_regiment_128 ?_
            refine lv_topi (fun t57 et57 => ?_)
            have hO3 : (f2 3) l1_8.toInt.toNat = t57 := by rw [et57, hs3_f56]; rfl
            refine stI hx hb hE hP hD hS 6 rfl (vp_in_iff.mpr ⟨by omega, by omega⟩) rfl dX11_regiment_129 (fun H locs hP hD hS => ?_)
            obtain ⟨f58, ef58, hP, hD⟩ : ∃ fz9, fz9 = upd2 f56 5 (upd (f56 5) l1_8.toNatClampNeg t57) ∧ va_P (dC, dI) vwCl (YW cy y0 r v8 fz9 w8 g8) H ∧ va_D A (YW cy y0 r v8 fz9 w8 g8) := ⟨_, rfl, hP, hD⟩
            have hCf58 : YC f58 := by rw [ef58]; exact hCf56
            have hs2_f58 : f58 2 = (f2 2) := by rw [ef58]; exact hs2_f56
            have hs3_f58 : f58 3 = (f2 3) := by rw [ef58]; exact hs3_f56
            have hs4_f58 : f58 4 = (upd (f8 4) (l1_8.toInt.toNat) t55) := by rw [ef58]; exact hs4_f56
            have hs5_f58 : f58 5 = (upd (f8 5) (l1_8.toInt.toNat) t57) := by rw [ef58]; show upd (f56 5) (l1_8.toInt.toNat) t57 = _; rw [hs5_f56]
            obtain ⟨t59, et59⟩ : ∃ y : Int32, y = l1_8 + 1 := ⟨_, rfl⟩
            have rg60 := fb_rng l1_8
            have zt59 : t59.toInt = l1_8.toInt + 1 := by rw [et59]; exact add_i rfl (by decide) (by omega) (by omega)
            refine lv_iinc (v := t59) (lv' := [(1, .int t59), (0, .ref y0)]) hx hb dX11_regiment_130 hl (k := 0) rfl (by rw [et59]; rfl) (by decide) rfl (fun ls hl => ?_)
            refine lv_goto (tgt := 98) hx hb dX11_regiment_133 (by decide) ?_
            have rg61 := fb_rng t59
            exact ih8 t59 v8 f58 w8 g8 hIv8 hCf58 hq0_v8 hq1_v8 hq3_v8 hq4_v8 hq5_v8 hq8_v8 hq9_v8 hq10_v8 hq13_v8 hq14_v8 hq15_v8 hq17_v8 hq18_v8 hq24_v8 hq25_v8 hq35_v8 hq36_v8 hq38_v8 hq39_v8 ⟨show (0 : Int) ≤ t59.toInt by omega, show t59.toInt ≤ (2147483647 : Int) by omega⟩ (by show progOK (f58 2) (f58 3) ((v8 9).toInt).toNat; rw [hs2_f58, hs3_f58]; exact prog_n hPG (by omega)) (by show ∀ j, j < (t59.toInt).toNat → (f58 4) j = (f58 2) j ∧ (f58 5) j = (f58 3) j; rw [hs2_f58, hs3_f58, hs4_f58, hs5_f58]; exact cp_step hCP hO2 hO3 (by omega)) hs2_f58 hs3_f58 (by show (2147483647 - t59.toInt).toNat < n8; omega) _ _ _ hP hD hS (lv_sub hl [0, 1] rfl)
      exact lp8 _ 0 (upd (upd (upd (upd (upd (upd (upd (upd (upd v1 24 (v1 17)) 25 (v1 18)) 26 (v1 19)) 27 (v1 20)) 28 (v1 21)) 29 (v1 22)) 12 (v1 11)) 16 (v1 15)) 9 0) f2 w3 g4 ⟨(YIb.upd (j := 9) (x := 0) (YIb.upd (j := 16) (x := (v1 15)) (YIb.upd (j := 12) (x := (v1 11)) (YIb.upd (j := 29) (x := (v1 22)) (YIb.upd (j := 28) (x := (v1 21)) (YIb.upd (j := 27) (x := (v1 20)) (YIb.upd (j := 26) (x := (v1 19)) (YIb.upd (j := 25) (x := (v1 18)) (YIb.upd (j := 24) (x := (v1 17)) hIv1.1 (show (0 : Int) ≤ (v1 17).toInt by omega) (show (v1 17).toInt ≤ (6 : Int) by omega)) (show (0 : Int) ≤ (v1 18).toInt by omega) (show (v1 18).toInt ≤ (6 : Int) by omega)) (rlo _) (rhi _)) (rlo _) (rhi _)) (rlo _) (rhi _)) (rlo _) (rhi _)) (rlo _) (rhi _)) (rlo _) (rhi _)) (by decide) (by decide)), hIv1.2⟩ hCf2 rfl rfl rfl rfl rfl rfl rfl rfl rfl rfl rfl rfl rfl rfl rfl hq35_v1 hq36_v1 hq38_v1 hq39_v1 ⟨by decide, by decide⟩ (by have q0 : (0 : Int32).toInt = 0 := (by decide); show progOK (f2 2) (f2 3) ((0 : Int32).toInt).toNat; first | exact prog_n (hPL (by omega) (by omega)) (by omega) | exact prog_0 (by decide)) (by have q0 : (0 : Int32).toInt = 0 := (by decide); show ∀ j, j < ((0 : Int32).toInt).toNat → (f2 4) j = (f2 2) j ∧ (f2 5) j = (f2 3) j; exact fun j hj => absurd hj (Nat.not_lt_zero _)) rfl rfl (Nat.lt_succ_self _) _ _ _ hP hD hS (lv_sub hl [0, 1] rfl)
    · skip
      have zc7 : ¬ ((v1 15).toInt = 0) := by rw [fa_eq, show (0 : Int32).toInt = 0 from by decide] at c7; exact c7
      refine lv_aload_n hx hb dX11_regiment_85 rfl (lv_at hl 0 rfl) ?_
      refine va_get (D := (dC, dI)) (ci := 11) (v := .int (v1 8)) (C := RX11) (T := TX11) (N := 79) hx hb hts inB_11 hown hE.1 hP 0 rfl rfl 17 (by decide) (hts _ k_1337) (fun _ h9 => h9) rfl dX11_regiment_86 ?_
      have b8_v1 : 0 ≤ (v1 8).toInt ∧ (v1 8).toInt ≤ 320 := YIb.b hIv1.1 8 (by decide)
      refine lv_goto (tgt := 93) hx hb dX11_regiment_89 (by decide) ?_
      refine va_put (D := (dC, dI)) (ci := 11) (v := .int (v1 8)) (ty := tyX11 18) (C := RX11) (T := TX11) (N := 79) hx hb hts inB_11 tyX11 tyX11_ok nmX11 hown hE.1 hP hD hS 0 rfl rfl 18 (by decide) (hts _ k_1338) (fun _ h9 => h9) rfl (tyX11_ok 18 (by decide)) rfl rfl (Nat.le_of_ble_eq_true rfl) dX11_regiment_93 (fun H locs hP hD hS => ?_)
      have hP : va_P (dC, dI) vwCl (YW cy y0 r (upd (upd (upd (upd (upd (upd (upd (upd (upd v1 24 (v1 17)) 25 (v1 18)) 26 (v1 19)) 27 (v1 20)) 28 (v1 21)) 29 (v1 22)) 12 (v1 11)) 16 (v1 15)) 9 (v1 8)) f2 w3 g4) H := hP
      have hD : va_D A (YW cy y0 r (upd (upd (upd (upd (upd (upd (upd (upd (upd v1 24 (v1 17)) 25 (v1 18)) 26 (v1 19)) 27 (v1 20)) 28 (v1 21)) 29 (v1 22)) 12 (v1 11)) 16 (v1 15)) 9 (v1 8)) f2 w3 g4) := hD
      refine lv_iconst (v := 0) hx hb dX11_regiment_96 (by decide) ?_
      refine lv_istore_n (lv' := [(1, .int 0), (0, .ref y0)]) hx hb dX11_regiment_97 rfl hl (by decide) rfl (fun ls hl => ?_)
      have lp62 : ∀ (n62 : Nat) (l1_62 : Int32) (v62 : Nat → Int32) (f62 : Nat → Nat → Int32) (w62 : Int64) (g62 : Nat → Int64), YI v62 → YC f62 → v62 0 = (v1 0) → v62 1 = (v1 1) → v62 3 = (v1 3) → v62 4 = (v1 4) → v62 5 = (v1 5) → v62 8 = (v1 8) → v62 9 = (v1 8) → v62 10 = (v1 10) → v62 13 = (v1 13) → v62 14 = (v1 14) → v62 15 = (v1 15) → v62 17 = (v1 17) → v62 18 = (v1 18) → v62 24 = (v1 17) → v62 25 = (v1 18) → v62 35 = (v 35) → v62 36 = (v 36) → v62 38 = (v 38) → v62 39 = (v 39) → ((0 : Int) ≤ l1_62.toInt ∧ l1_62.toInt ≤ 2147483647) → (progOK (f62 2) (f62 3) ((v62 9).toInt).toNat) → (∀ j, j < (l1_62.toInt).toNat → (f62 4) j = (f62 2) j ∧ (f62 5) j = (f62 3) j) → f62 2 = (f2 2) → f62 3 = (f2 3) → (2147483647 - l1_62.toInt).toNat < n62 → ∀ (H : Heap) (locs : List Loc) (ls : Array Slot), va_P (dC, dI) vwCl (YW cy y0 r v62 f62 w62 g62) H → va_D A (YW cy y0 r v62 f62 w62 g62) → va_S A s.heap H locs → lv_has ls 2 [(1, .int l1_62), (0, .ref y0)] → W p l e { frames := 9, cells := 0, slots := 0, locals := 232 } s m ([.ref y0] : List Value).toArray below meth c H locs 0 0 Q (F0 m 98 ls []) := by
        intro n62
        induction n62 with
        | zero => intro l1_62 v62 f62 w62 g62 hIv62 hCf62 hq0_v62 hq1_v62 hq3_v62 hq4_v62 hq5_v62 hq8_v62 hq9_v62 hq10_v62 hq13_v62 hq14_v62 hq15_v62 hq17_v62 hq18_v62 hq24_v62 hq25_v62 hq35_v62 hq36_v62 hq38_v62 hq39_v62 hr1_62 hx0_62 hx1_62 hs2_f62 hs3_f62 hm; exact absurd hm (Nat.not_lt_zero _)
        | succ n62 ih62 =>
          intro l1_62 v62 f62 w62 g62 hIv62 hCf62 hq0_v62 hq1_v62 hq3_v62 hq4_v62 hq5_v62 hq8_v62 hq9_v62 hq10_v62 hq13_v62 hq14_v62 hq15_v62 hq17_v62 hq18_v62 hq24_v62 hq25_v62 hq35_v62 hq36_v62 hq38_v62 hq39_v62 hr1_62 hx0_62 hx1_62 hs2_f62 hs3_f62 hm62 H locs ls hP hD hS hl
          have hUv62 : (v62 35).toInt + (v62 36).toInt ≤ 40 := hIv62.2
          have zq1_v62 := congrArg Int32.toInt hq1_v62
          have zq3_v62 := congrArg Int32.toInt hq3_v62
          have zq4_v62 := congrArg Int32.toInt hq4_v62
          have zq5_v62 := congrArg Int32.toInt hq5_v62
          have zq8_v62 := congrArg Int32.toInt hq8_v62
          have zq9_v62 := congrArg Int32.toInt hq9_v62
          have zq10_v62 := congrArg Int32.toInt hq10_v62
          have zq13_v62 := congrArg Int32.toInt hq13_v62
          have zq14_v62 := congrArg Int32.toInt hq14_v62
          have zq15_v62 := congrArg Int32.toInt hq15_v62
          have zq17_v62 := congrArg Int32.toInt hq17_v62
          have zq18_v62 := congrArg Int32.toInt hq18_v62
          have zq35_v62 := congrArg Int32.toInt hq35_v62
          have zq36_v62 := congrArg Int32.toInt hq36_v62
          have b9_v62 : 0 ≤ (v62 9).toInt ∧ (v62 9).toInt ≤ 320 := YIb.b hIv62.1 9 (by decide)
          have b8_v1 : 0 ≤ (v1 8).toInt ∧ (v1 8).toInt ≤ 320 := YIb.b hIv1.1 8 (by decide)
          rw [hs2_f62] at hx0_62
          rw [hs3_f62] at hx0_62
          rw [hs2_f62] at hx1_62
          rw [hs3_f62] at hx1_62
          have hPG := hx0_62
          have hCP := hx1_62
          refine lv_iload_n hx hb dX11_regiment_98 rfl (lv_at hl 0 rfl) ?_
          refine lv_aload_n hx hb dX11_regiment_99 rfl (lv_at hl 1 rfl) ?_
          refine va_get (D := (dC, dI)) (ci := 11) (v := .int (v62 9)) (C := RX11) (T := TX11) (N := 79) hx hb hts inB_11 hown hE.1 hP 0 rfl rfl 18 (by decide) (hts _ k_1338) (fun _ h9 => h9) rfl dX11_regiment_100 ?_
          refine tI (y := (v1 8)) hq9_v62 ?_
          refine lv_icmp_ge (tgt := 136) hx hb dX11_regiment_103 (by decide) (fun c63 => ?_) (fun c63 => ?_)
          · skip
            have zc63 : (v1 8).toInt ≤ l1_62.toInt := by rw [fa_le] at c63; exact c63
            have rg64 := fb_rng l1_62
            have rg65 := fb_rng (v1 8)
            have hRf62 : progOK (f62 4) (f62 5) (v62 9).toInt.toNat := cp_done hCP hPG (by omega)
            refine lv_iconst (v := 0) hx hb dX11_regiment_136 (by decide) ?_
            refine lv_istore_n (lv' := [(1, .int 0), (0, .ref y0)]) hx hb dX11_regiment_137 rfl hl (by decide) rfl (fun ls hl => ?_)
            have lp66 : ∀ (n66 : Nat) (l1_66 : Int32) (v66 : Nat → Int32) (f66 : Nat → Nat → Int32) (w66 : Int64) (g66 : Nat → Int64), YI v66 → YC f66 → progOK (f66 4) (f66 5) (v66 9).toInt.toNat → v66 0 = (v1 0) → v66 1 = (v1 1) → v66 3 = (v1 3) → v66 4 = (v1 4) → v66 5 = (v1 5) → v66 8 = (v1 8) → v66 9 = (v1 8) → v66 10 = (v1 10) → v66 13 = (v1 13) → v66 14 = (v1 14) → v66 15 = (v1 15) → v66 17 = (v1 17) → v66 18 = (v1 18) → v66 24 = (v1 17) → v66 25 = (v1 18) → v66 35 = (v 35) → v66 36 = (v 36) → v66 38 = (v 38) → v66 39 = (v 39) → ((0 : Int) ≤ l1_66.toInt ∧ l1_66.toInt ≤ 2147483647) → f66 2 = (f2 2) → f66 3 = (f2 3) → (2147483647 - l1_66.toInt).toNat < n66 → ∀ (H : Heap) (locs : List Loc) (ls : Array Slot), va_P (dC, dI) vwCl (YW cy y0 r v66 f66 w66 g66) H → va_D A (YW cy y0 r v66 f66 w66 g66) → va_S A s.heap H locs → lv_has ls 2 [(1, .int l1_66), (0, .ref y0)] → W p l e { frames := 9, cells := 0, slots := 0, locals := 232 } s m ([.ref y0] : List Value).toArray below meth c H locs 0 0 Q (F0 m 138 ls []) := by
              intro n66
              induction n66 with
              | zero => intro l1_66 v66 f66 w66 g66 hIv66 hCf66 hRf66 hq0_v66 hq1_v66 hq3_v66 hq4_v66 hq5_v66 hq8_v66 hq9_v66 hq10_v66 hq13_v66 hq14_v66 hq15_v66 hq17_v66 hq18_v66 hq24_v66 hq25_v66 hq35_v66 hq36_v66 hq38_v66 hq39_v66 hr1_66 hs2_f66 hs3_f66 hm; exact absurd hm (Nat.not_lt_zero _)
              | succ n66 ih66 =>
                intro l1_66 v66 f66 w66 g66 hIv66 hCf66 hRf66 hq0_v66 hq1_v66 hq3_v66 hq4_v66 hq5_v66 hq8_v66 hq9_v66 hq10_v66 hq13_v66 hq14_v66 hq15_v66 hq17_v66 hq18_v66 hq24_v66 hq25_v66 hq35_v66 hq36_v66 hq38_v66 hq39_v66 hr1_66 hs2_f66 hs3_f66 hm66 H locs ls hP hD hS hl
                have hUv66 : (v66 35).toInt + (v66 36).toInt ≤ 40 := hIv66.2
                have zq1_v66 := congrArg Int32.toInt hq1_v66
                have zq3_v66 := congrArg Int32.toInt hq3_v66
                have zq4_v66 := congrArg Int32.toInt hq4_v66
                have zq5_v66 := congrArg Int32.toInt hq5_v66
                have zq8_v66 := congrArg Int32.toInt hq8_v66
                have zq9_v66 := congrArg Int32.toInt hq9_v66
                have zq10_v66 := congrArg Int32.toInt hq10_v66
                have zq13_v66 := congrArg Int32.toInt hq13_v66
                have zq14_v66 := congrArg Int32.toInt hq14_v66
                have zq15_v66 := congrArg Int32.toInt hq15_v66
                have zq17_v66 := congrArg Int32.toInt hq17_v66
                have zq18_v66 := congrArg Int32.toInt hq18_v66
                have zq35_v66 := congrArg Int32.toInt hq35_v66
                have zq36_v66 := congrArg Int32.toInt hq36_v66
                refine lv_iload_n hx hb dX11_regiment_138 rfl (lv_at hl 0 rfl) ?_
                refine lv_aload_n hx hb dX11_regiment_139 rfl (lv_at hl 1 rfl) ?_
                refine va_get (D := (dC, dI)) (ci := 11) (v := .int (v66 24)) (C := RX11) (T := TX11) (N := 79) hx hb hts inB_11 hown hE.1 hP 0 rfl rfl 48 (by decide) (hts _ k_1368) (fun _ h9 => h9) rfl dX11_regiment_140 ?_
                refine tI (y := (v1 17)) hq24_v66 ?_
                have b17_v1 : 0 ≤ (v1 17).toInt ∧ (v1 17).toInt ≤ 6 := YIb.b hIv1.1 17 (by decide)
                refine lv_icmp_ge (tgt := 188) hx hb dX11_regiment_143 (by decide) (fun c67 => ?_) (fun c67 => ?_)
                · skip
                  have zc67 : (v1 17).toInt ≤ l1_66.toInt := by rw [fa_le] at c67; exact c67
                  have rg68 := fb_rng l1_66
                  have rg69 := fb_rng (v1 17)
                  refine lv_iconst (v := 0) hx hb dX11_regiment_188 (by decide) ?_
                  refine lv_istore_n (lv' := [(1, .int 0), (0, .ref y0)]) hx hb dX11_regiment_189 rfl hl (by decide) rfl (fun ls hl => ?_)
                  have lp70 : ∀ (n70 : Nat) (l1_70 : Int32) (v70 : Nat → Int32) (f70 : Nat → Nat → Int32) (w70 : Int64) (g70 : Nat → Int64), YI v70 → YC f70 → progOK (f70 4) (f70 5) (v70 9).toInt.toNat → v70 0 = (v1 0) → v70 1 = (v1 1) → v70 3 = (v1 3) → v70 4 = (v1 4) → v70 5 = (v1 5) → v70 8 = (v1 8) → v70 9 = (v1 8) → v70 10 = (v1 10) → v70 13 = (v1 13) → v70 14 = (v1 14) → v70 15 = (v1 15) → v70 17 = (v1 17) → v70 18 = (v1 18) → v70 24 = (v1 17) → v70 25 = (v1 18) → v70 35 = (v 35) → v70 36 = (v 36) → v70 38 = (v 38) → v70 39 = (v 39) → ((0 : Int) ≤ l1_70.toInt ∧ l1_70.toInt ≤ 2147483647) → f70 2 = (f2 2) → f70 3 = (f2 3) → (2147483647 - l1_70.toInt).toNat < n70 → ∀ (H : Heap) (locs : List Loc) (ls : Array Slot), va_P (dC, dI) vwCl (YW cy y0 r v70 f70 w70 g70) H → va_D A (YW cy y0 r v70 f70 w70 g70) → va_S A s.heap H locs → lv_has ls 2 [(1, .int l1_70), (0, .ref y0)] → W p l e { frames := 9, cells := 0, slots := 0, locals := 232 } s m ([.ref y0] : List Value).toArray below meth c H locs 0 0 Q (F0 m 190 ls []) := by
                    intro n70
                    induction n70 with
                    | zero => intro l1_70 v70 f70 w70 g70 hIv70 hCf70 hRf70 hq0_v70 hq1_v70 hq3_v70 hq4_v70 hq5_v70 hq8_v70 hq9_v70 hq10_v70 hq13_v70 hq14_v70 hq15_v70 hq17_v70 hq18_v70 hq24_v70 hq25_v70 hq35_v70 hq36_v70 hq38_v70 hq39_v70 hr1_70 hs2_f70 hs3_f70 hm; exact absurd hm (Nat.not_lt_zero _)
                    | succ n70 ih70 =>
                      intro l1_70 v70 f70 w70 g70 hIv70 hCf70 hRf70 hq0_v70 hq1_v70 hq3_v70 hq4_v70 hq5_v70 hq8_v70 hq9_v70 hq10_v70 hq13_v70 hq14_v70 hq15_v70 hq17_v70 hq18_v70 hq24_v70 hq25_v70 hq35_v70 hq36_v70 hq38_v70 hq39_v70 hr1_70 hs2_f70 hs3_f70 hm70 H locs ls hP hD hS hl
                      have hUv70 : (v70 35).toInt + (v70 36).toInt ≤ 40 := hIv70.2
                      have zq1_v70 := congrArg Int32.toInt hq1_v70
                      have zq3_v70 := congrArg Int32.toInt hq3_v70
                      have zq4_v70 := congrArg Int32.toInt hq4_v70
                      have zq5_v70 := congrArg Int32.toInt hq5_v70
                      have zq8_v70 := congrArg Int32.toInt hq8_v70
                      have zq9_v70 := congrArg Int32.toInt hq9_v70
                      have zq10_v70 := congrArg Int32.toInt hq10_v70
                      have zq13_v70 := congrArg Int32.toInt hq13_v70
                      have zq14_v70 := congrArg Int32.toInt hq14_v70
                      have zq15_v70 := congrArg Int32.toInt hq15_v70
                      have zq17_v70 := congrArg Int32.toInt hq17_v70
                      have zq18_v70 := congrArg Int32.toInt hq18_v70
                      have zq35_v70 := congrArg Int32.toInt hq35_v70
                      have zq36_v70 := congrArg Int32.toInt hq36_v70
                      refine lv_iload_n hx hb dX11_regiment_190 rfl (lv_at hl 0 rfl) ?_
                      refine lv_aload_n hx hb dX11_regiment_191 rfl (lv_at hl 1 rfl) ?_
                      refine va_get (D := (dC, dI)) (ci := 11) (v := .int (v70 25)) (C := RX11) (T := TX11) (N := 79) hx hb hts inB_11 hown hE.1 hP 0 rfl rfl 49 (by decide) (hts _ k_1369) (fun _ h9 => h9) rfl dX11_regiment_192 ?_
                      refine tI (y := (v1 18)) hq25_v70 ?_
                      have b18_v1 : 0 ≤ (v1 18).toInt ∧ (v1 18).toInt ≤ 6 := YIb.b hIv1.1 18 (by decide)
                      refine lv_icmp_ge (tgt := 252) hx hb dX11_regiment_195 (by decide) (fun c71 => ?_) (fun c71 => ?_)
                      · skip
                        have zc71 : (v1 18).toInt ≤ l1_70.toInt := by rw [fa_le] at c71; exact c71
                        have rg72 := fb_rng l1_70
                        have rg73 := fb_rng (v1 18)
                        refine lv_aload_n hx hb dX11_regiment_252 rfl (lv_at hl 1 rfl) ?_
                        refine cbVv (n := 0) (rest := []) hx hb hml hown hts hE hP hD hS hA (sY_X11_begin_1 l dC dI cy y0 r  v70 f70 w70 g70 hIv70 hCf70 hRf70 ) k_1716 k_1718 k_68 k_114 k_1719 (by decide +kernel) ⟨Nat.le_of_ble_eq_true rfl, Nat.le_of_ble_eq_true rfl⟩ 0 11 rfl rfl (rfl) hl.1 rfl (Nat.le_of_ble_eq_true rfl) dX11_regiment_253 (fun u H locs hw hP hD hS => ?_)
                        obtain ⟨v74, f75, w76, g77⟩ := u
                        obtain ⟨hIv74, hCf75, hRf75, hk0_v74, hk1_v74, hk3_v74, hk4_v74, hk5_v74, hk8_v74, hk9_v74, hk10_v74, hk13_v74, hk14_v74, hk15_v74, hk17_v74, hk18_v74, hk24_v74, hk25_v74, hk35_v74, hk36_v74, hk38_v74, hk39_v74⟩ := hw
                        have hP : va_P (dC, dI) vwCl (YW cy y0 r v74 f75 w76 g77) H := hP
                        have hD : va_D A (YW cy y0 r v74 f75 w76 g77) := hD
                        have hUv74 : (v74 35).toInt + (v74 36).toInt ≤ 40 := hIv74.2
                        have hq0_v74 : v74 0 = (v1 0) := hk0_v74.trans hq0_v70
                        have hq1_v74 : v74 1 = (v1 1) := hk1_v74.trans hq1_v70
                        have zq1_v74 := congrArg Int32.toInt hq1_v74
                        have hq3_v74 : v74 3 = (v1 3) := hk3_v74.trans hq3_v70
                        have zq3_v74 := congrArg Int32.toInt hq3_v74
                        have hq4_v74 : v74 4 = (v1 4) := hk4_v74.trans hq4_v70
                        have zq4_v74 := congrArg Int32.toInt hq4_v74
                        have hq5_v74 : v74 5 = (v1 5) := hk5_v74.trans hq5_v70
                        have zq5_v74 := congrArg Int32.toInt hq5_v74
                        have hq8_v74 : v74 8 = (v1 8) := hk8_v74.trans hq8_v70
                        have zq8_v74 := congrArg Int32.toInt hq8_v74
                        have hq9_v74 : v74 9 = (v1 8) := hk9_v74.trans hq9_v70
                        have zq9_v74 := congrArg Int32.toInt hq9_v74
                        have hq10_v74 : v74 10 = (v1 10) := hk10_v74.trans hq10_v70
                        have zq10_v74 := congrArg Int32.toInt hq10_v74
                        have hq13_v74 : v74 13 = (v1 13) := hk13_v74.trans hq13_v70
                        have zq13_v74 := congrArg Int32.toInt hq13_v74
                        have hq14_v74 : v74 14 = (v1 14) := hk14_v74.trans hq14_v70
                        have zq14_v74 := congrArg Int32.toInt hq14_v74
                        have hq15_v74 : v74 15 = (v1 15) := hk15_v74.trans hq15_v70
                        have zq15_v74 := congrArg Int32.toInt hq15_v74
                        have hq17_v74 : v74 17 = (v1 17) := hk17_v74.trans hq17_v70
                        have zq17_v74 := congrArg Int32.toInt hq17_v74
                        have hq18_v74 : v74 18 = (v1 18) := hk18_v74.trans hq18_v70
                        have zq18_v74 := congrArg Int32.toInt hq18_v74
                        have hq24_v74 : v74 24 = (v1 17) := hk24_v74.trans hq24_v70
                        have hq25_v74 : v74 25 = (v1 18) := hk25_v74.trans hq25_v70
                        have hq35_v74 : v74 35 = (v 35) := hk35_v74.trans hq35_v70
                        have zq35_v74 := congrArg Int32.toInt hq35_v74
                        have hq36_v74 : v74 36 = (v 36) := hk36_v74.trans hq36_v70
                        have zq36_v74 := congrArg Int32.toInt hq36_v74
                        have hq38_v74 : v74 38 = (v 38) := hk38_v74.trans hq38_v70
                        have hq39_v74 : v74 39 = (v 39) := hk39_v74.trans hq39_v70
                        refine lv_aload_n hx hb dX11_regiment_256 rfl (lv_at hl 1 rfl) ?_
                        refine va_get (D := (dC, dI)) (ci := 11) (v := .ref (r 60)) (C := RX11) (T := TX11) (N := 79) hx hb hts inB_11 hown hE.1 hP 0 rfl rfl 60 (by decide) (hts _ k_1380) (fun _ h9 => h9) rfl dX11_regiment_257 ?_
                        refine lv_bipush (v := 38) hx hb dX11_regiment_260 (by decide) ?_
                        refine lv_aload_n hx hb dX11_regiment_262 rfl (lv_at hl 1 rfl) ?_
                        refine va_get (D := (dC, dI)) (ci := 11) (v := .int (v74 23)) (C := RX11) (T := TX11) (N := 79) hx hb hts inB_11 hown hE.1 hP 0 rfl rfl 47 (by decide) (hts _ k_1367) (fun _ h9 => h9) rfl dX11_regiment_263 ?_
                        refine stI hx hb hE hP hD hS 25 rfl (vp_in_nI (n := 38) (by decide) (by decide)) rfl dX11_regiment_266 (fun H locs hP hD hS => ?_)
                        obtain ⟨f78, ef78, hP, hD⟩ : ∃ fz9, fz9 = upd2 f75 24 (upd (f75 24) (38 : Int32).toNatClampNeg (v74 23)) ∧ va_P (dC, dI) vwCl (YW cy y0 r v74 fz9 w76 g77) H ∧ va_D A (YW cy y0 r v74 fz9 w76 g77) := ⟨_, rfl, hP, hD⟩
                        have hCf78 : YC f78 := by rw [ef78]; exact ⟨hCf75.1, (wear_st hCf75.2.1 (by show 38 % 39 < 6 ∨ 12 ≤ 38 % 39 ∨ (-1 ≤ (v74 23).toInt ∧ (v74 23).toInt ≤ 5); omega)), hCf75.2.2.1, hCf75.2.2.2.1, hCf75.2.2.2.2.1, hCf75.2.2.2.2.2⟩
                        have hRf78 : progOK (f78 4) (f78 5) (v74 9).toInt.toNat := by rw [ef78]; exact hRf75
                        have hs2_f78 : f78 2 = (f75 2) := by rw [ef78]; exact rfl
                        have hs3_f78 : f78 3 = (f75 3) := by rw [ef78]; exact rfl
                        have hs4_f78 : f78 4 = (f75 4) := by rw [ef78]; exact rfl
                        have hs5_f78 : f78 5 = (f75 5) := by rw [ef78]; exact rfl
                        refine lv_aload_n hx hb dX11_regiment_267 rfl (lv_at hl 1 rfl) ?_
                        refine cbVv (n := 0) (rest := []) hx hb hml hown hts hE hP hD hS hA (sY_X11_keepAir_1 l dC dI cy y0 r  v74 f78 w76 g77 hIv74 hCf78 hRf78 ) k_1720 k_1722 k_69 k_114 k_1723 (by decide +kernel) ⟨Nat.le_of_ble_eq_true rfl, Nat.le_of_ble_eq_true rfl⟩ 0 11 rfl rfl (rfl) hl.1 rfl (Nat.le_of_ble_eq_true rfl) dX11_regiment_268 (fun u H locs hw hP hD hS => ?_)
                        obtain ⟨v79, f80, w81, g82⟩ := u
                        obtain ⟨hIv79, hCf80, hRf80, hk0_v79, hk1_v79, hk3_v79, hk4_v79, hk5_v79, hk8_v79, hk9_v79, hk10_v79, hk13_v79, hk14_v79, hk15_v79, hk17_v79, hk18_v79, hk24_v79, hk25_v79, hk35_v79, hk36_v79, hk38_v79, hk39_v79⟩ := hw
                        have hP : va_P (dC, dI) vwCl (YW cy y0 r v79 f80 w81 g82) H := hP
                        have hD : va_D A (YW cy y0 r v79 f80 w81 g82) := hD
                        have hUv79 : (v79 35).toInt + (v79 36).toInt ≤ 40 := hIv79.2
                        have hq0_v79 : v79 0 = (v1 0) := hk0_v79.trans hq0_v74
                        have hq1_v79 : v79 1 = (v1 1) := hk1_v79.trans hq1_v74
                        have zq1_v79 := congrArg Int32.toInt hq1_v79
                        have hq3_v79 : v79 3 = (v1 3) := hk3_v79.trans hq3_v74
                        have zq3_v79 := congrArg Int32.toInt hq3_v79
                        have hq4_v79 : v79 4 = (v1 4) := hk4_v79.trans hq4_v74
                        have zq4_v79 := congrArg Int32.toInt hq4_v79
                        have hq5_v79 : v79 5 = (v1 5) := hk5_v79.trans hq5_v74
                        have zq5_v79 := congrArg Int32.toInt hq5_v79
                        have hq8_v79 : v79 8 = (v1 8) := hk8_v79.trans hq8_v74
                        have zq8_v79 := congrArg Int32.toInt hq8_v79
                        have hq9_v79 : v79 9 = (v1 8) := hk9_v79.trans hq9_v74
                        have zq9_v79 := congrArg Int32.toInt hq9_v79
                        have hq10_v79 : v79 10 = (v1 10) := hk10_v79.trans hq10_v74
                        have zq10_v79 := congrArg Int32.toInt hq10_v79
                        have hq13_v79 : v79 13 = (v1 13) := hk13_v79.trans hq13_v74
                        have zq13_v79 := congrArg Int32.toInt hq13_v79
                        have hq14_v79 : v79 14 = (v1 14) := hk14_v79.trans hq14_v74
                        have zq14_v79 := congrArg Int32.toInt hq14_v79
                        have hq15_v79 : v79 15 = (v1 15) := hk15_v79.trans hq15_v74
                        have zq15_v79 := congrArg Int32.toInt hq15_v79
                        have hq17_v79 : v79 17 = (v1 17) := hk17_v79.trans hq17_v74
                        have zq17_v79 := congrArg Int32.toInt hq17_v79
                        have hq18_v79 : v79 18 = (v1 18) := hk18_v79.trans hq18_v74
                        have zq18_v79 := congrArg Int32.toInt hq18_v79
                        have hq24_v79 : v79 24 = (v1 17) := hk24_v79.trans hq24_v74
                        have hq25_v79 : v79 25 = (v1 18) := hk25_v79.trans hq25_v74
                        have hq35_v79 : v79 35 = (v 35) := hk35_v79.trans hq35_v74
                        have zq35_v79 := congrArg Int32.toInt hq35_v79
                        have hq36_v79 : v79 36 = (v 36) := hk36_v79.trans hq36_v74
                        have zq36_v79 := congrArg Int32.toInt hq36_v79
                        have hq38_v79 : v79 38 = (v 38) := hk38_v79.trans hq38_v74
                        have hq39_v79 : v79 39 = (v 39) := hk39_v79.trans hq39_v74
                        refine lv_aload_n hx hb dX11_regiment_271 rfl (lv_at hl 1 rfl) ?_
                        refine lv_iconst (v := 0) hx hb dX11_regiment_272 (by decide) ?_
                        refine va_put (D := (dC, dI)) (ci := 11) (v := .int 0) (ty := tyX11 62) (C := RX11) (T := TX11) (N := 79) hx hb hts inB_11 tyX11 tyX11_ok nmX11 hown hE.1 hP hD hS 0 rfl rfl 62 (by decide) (hts _ k_1382) (fun _ h9 => h9) rfl (tyX11_ok 62 (by decide)) rfl rfl (Nat.le_of_ble_eq_true rfl) dX11_regiment_273 (fun H locs hP hD hS => ?_)
                        have hP : va_P (dC, dI) vwCl (YW cy y0 r (upd v79 35 0) f80 w81 g82) H := hP
                        have hD : va_D A (YW cy y0 r (upd v79 35 0) f80 w81 g82) := hD
                        refine lv_aload_n hx hb dX11_regiment_276 rfl (lv_at hl 1 rfl) ?_
                        refine lv_iconst (v := 0) hx hb dX11_regiment_277 (by decide) ?_
                        refine va_put (D := (dC, dI)) (ci := 11) (v := .int 0) (ty := tyX11 63) (C := RX11) (T := TX11) (N := 79) hx hb hts inB_11 tyX11 tyX11_ok nmX11 hown hE.1 hP hD hS 0 rfl rfl 63 (by decide) (hts _ k_1383) (fun _ h9 => h9) rfl (tyX11_ok 63 (by decide)) rfl rfl (Nat.le_of_ble_eq_true rfl) dX11_regiment_278 (fun H locs hP hD hS => ?_)
                        have hP : va_P (dC, dI) vwCl (YW cy y0 r (upd (upd v79 35 0) 36 0) f80 w81 g82) H := hP
                        have hD : va_D A (YW cy y0 r (upd (upd v79 35 0) 36 0) f80 w81 g82) := hD
                        refine lv_aload_n hx hb dX11_regiment_281 rfl (lv_at hl 1 rfl) ?_
                        refine lv_iconst (v := 0) hx hb dX11_regiment_282 (by decide) ?_
                        refine va_put (D := (dC, dI)) (ci := 11) (v := .int 0) (ty := tyX11 73) (C := RX11) (T := TX11) (N := 79) hx hb hts inB_11 tyX11 tyX11_ok nmX11 hown hE.1 hP hD hS 0 rfl rfl 73 (by decide) (hts _ k_1393) (fun _ h9 => h9) rfl (tyX11_ok 73 (by decide)) rfl rfl (Nat.le_of_ble_eq_true rfl) dX11_regiment_283 (fun H locs hP hD hS => ?_)
                        have hP : va_P (dC, dI) vwCl (YW cy y0 r (upd (upd (upd v79 35 0) 36 0) 38 0) f80 w81 g82) H := hP
                        have hD : va_D A (YW cy y0 r (upd (upd (upd v79 35 0) 36 0) 38 0) f80 w81 g82) := hD
                        refine lv_aload_n hx hb dX11_regiment_286 rfl (lv_at hl 1 rfl) ?_
                        refine lv_iconst (v := 0) hx hb dX11_regiment_287 (by decide) ?_
                        refine va_put (D := (dC, dI)) (ci := 11) (v := .int 0) (ty := tyX11 67) (C := RX11) (T := TX11) (N := 79) hx hb hts inB_11 tyX11 tyX11_ok nmX11 hown hE.1 hP hD hS 0 rfl rfl 67 (by decide) (hts _ k_1387) (fun _ h9 => h9) rfl (tyX11_ok 67 (by decide)) rfl rfl (Nat.le_of_ble_eq_true rfl) dX11_regiment_288 (fun H locs hP hD hS => ?_)
                        have hP : va_P (dC, dI) vwCl (YW cy y0 r (upd (upd (upd (upd v79 35 0) 36 0) 38 0) 37 0) f80 w81 g82) H := hP
                        have hD : va_D A (YW cy y0 r (upd (upd (upd (upd v79 35 0) 36 0) 38 0) 37 0) f80 w81 g82) := hD
                        refine lv_iconst (v := 0) hx hb dX11_regiment_291 (by decide) ?_
                        refine lv_istore_n (lv' := [(1, .int 0), (0, .ref y0)]) hx hb dX11_regiment_292 rfl hl (by decide) rfl (fun ls hl => ?_)
                        have lp83 : ∀ (n83 : Nat) (l1_83 : Int32) (v83 : Nat → Int32) (f83 : Nat → Nat → Int32) (w83 : Int64) (g83 : Nat → Int64), YI v83 → YC f83 → progOK (f83 4) (f83 5) (v83 9).toInt.toNat → v83 0 = (v1 0) → v83 1 = (v1 1) → v83 3 = (v1 3) → v83 4 = (v1 4) → v83 5 = (v1 5) → v83 8 = (v1 8) → v83 9 = (v1 8) → v83 10 = (v1 10) → v83 13 = (v1 13) → v83 14 = (v1 14) → v83 15 = (v1 15) → v83 17 = (v1 17) → v83 18 = (v1 18) → v83 24 = (v1 17) → v83 25 = (v1 18) → v83 35 = 0 → v83 36 = 0 → v83 38 = 0 → v83 39 = (v 39) → ((0 : Int) ≤ l1_83.toInt ∧ l1_83.toInt ≤ 2147483647) → f83 2 = (f80 2) → f83 3 = (f80 3) → f83 4 = (f80 4) → f83 5 = (f80 5) → (2147483647 - l1_83.toInt).toNat < n83 → ∀ (H : Heap) (locs : List Loc) (ls : Array Slot), va_P (dC, dI) vwCl (YW cy y0 r v83 f83 w83 g83) H → va_D A (YW cy y0 r v83 f83 w83 g83) → va_S A s.heap H locs → lv_has ls 2 [(1, .int l1_83), (0, .ref y0)] → W p l e { frames := 9, cells := 0, slots := 0, locals := 232 } s m ([.ref y0] : List Value).toArray below meth c H locs 0 0 Q (F0 m 293 ls []) := by
                          intro n83
                          induction n83 with
                          | zero => intro l1_83 v83 f83 w83 g83 hIv83 hCf83 hRf83 hq0_v83 hq1_v83 hq3_v83 hq4_v83 hq5_v83 hq8_v83 hq9_v83 hq10_v83 hq13_v83 hq14_v83 hq15_v83 hq17_v83 hq18_v83 hq24_v83 hq25_v83 hq35_v83 hq36_v83 hq38_v83 hq39_v83 hr1_83 hs2_f83 hs3_f83 hs4_f83 hs5_f83 hm; exact absurd hm (Nat.not_lt_zero _)
                          | succ n83 ih83 =>
                            intro l1_83 v83 f83 w83 g83 hIv83 hCf83 hRf83 hq0_v83 hq1_v83 hq3_v83 hq4_v83 hq5_v83 hq8_v83 hq9_v83 hq10_v83 hq13_v83 hq14_v83 hq15_v83 hq17_v83 hq18_v83 hq24_v83 hq25_v83 hq35_v83 hq36_v83 hq38_v83 hq39_v83 hr1_83 hs2_f83 hs3_f83 hs4_f83 hs5_f83 hm83 H locs ls hP hD hS hl
                            have hUv83 : (v83 35).toInt + (v83 36).toInt ≤ 40 := hIv83.2
                            have zq1_v83 := congrArg Int32.toInt hq1_v83
                            have zq3_v83 := congrArg Int32.toInt hq3_v83
                            have zq4_v83 := congrArg Int32.toInt hq4_v83
                            have zq5_v83 := congrArg Int32.toInt hq5_v83
                            have zq8_v83 := congrArg Int32.toInt hq8_v83
                            have zq9_v83 := congrArg Int32.toInt hq9_v83
                            have zq10_v83 := congrArg Int32.toInt hq10_v83
                            have zq13_v83 := congrArg Int32.toInt hq13_v83
                            have zq14_v83 := congrArg Int32.toInt hq14_v83
                            have zq15_v83 := congrArg Int32.toInt hq15_v83
                            have zq17_v83 := congrArg Int32.toInt hq17_v83
                            have zq18_v83 := congrArg Int32.toInt hq18_v83
                            have zq35_v83 : (v83 35).toInt = 0 := by rw [hq35_v83]; decide
                            have zq36_v83 : (v83 36).toInt = 0 := by rw [hq36_v83]; decide
                            have zq38_v83 : (v83 38).toInt = 0 := by rw [hq38_v83]; decide
                            refine lv_iload_n hx hb dX11_regiment_293 rfl (lv_at hl 0 rfl) ?_
                            refine lv_iconst (v := 3) hx hb dX11_regiment_294 (by decide) ?_
                            refine lv_icmp_ge (tgt := 311) hx hb dX11_regiment_295 (by decide) (fun c84 => ?_) (fun c84 => ?_)
                            · skip
                              have zc84 : 3 ≤ l1_83.toInt := by rw [fa_le, show (3 : Int32).toInt = 3 from by decide] at c84; exact c84
                              refine lv_aload_n hx hb dX11_regiment_311 rfl (lv_at hl 1 rfl) ?_
                              refine va_get (D := (dC, dI)) (ci := 11) (v := .int (v83 24)) (C := RX11) (T := TX11) (N := 79) hx hb hts inB_11 hown hE.1 hP 0 rfl rfl 48 (by decide) (hts _ k_1368) (fun _ h9 => h9) rfl dX11_regiment_312 ?_
                              refine tI (y := (v1 17)) hq24_v83 ?_
                              have b17_v1 : 0 ≤ (v1 17).toInt ∧ (v1 17).toInt ≤ 6 := YIb.b hIv1.1 17 (by decide)
                              exact ret (v1 17) (v83, f83, w83, g83) _ _ _ _ _ _ rfl ⟨hIv83, hCf83, hRf83, hq39_v83⟩ hP hD hS dX11_regiment_315 (Nat.le_refl _) (Nat.le_refl _)
                            · skip
                              have zc84 : ¬ (3 ≤ l1_83.toInt) := by rw [fa_le, show (3 : Int32).toInt = 3 from by decide] at c84; exact c84
                              refine lv_aload_n hx hb dX11_regiment_298 rfl (lv_at hl 1 rfl) ?_
                              refine va_get (D := (dC, dI)) (ci := 11) (v := .ref (r 77)) (C := RX11) (T := TX11) (N := 79) hx hb hts inB_11 hown hE.1 hP 0 rfl rfl 77 (by decide) (hts _ k_1397) (fun _ h9 => h9) rfl dX11_regiment_299 ?_
                              refine lv_iload_n hx hb dX11_regiment_302 rfl (lv_at hl 0 rfl) ?_
                              refine lv_iconst (v := 0) hx hb dX11_regiment_303 (by decide) ?_
                              refine stZ hx hb hE hP hD hS 37 rfl (vp_in_iff.mpr ⟨by omega, by omega⟩) rfl dX11_regiment_304 (fun H locs hP hD hS => ?_)
                              obtain ⟨f85, ef85, hP, hD⟩ : ∃ fz9, fz9 = upd2 f83 36 (upd (f83 36) l1_83.toNatClampNeg (vp_nar .boolean 0)) ∧ va_P (dC, dI) vwCl (YW cy y0 r v83 fz9 w83 g83) H ∧ va_D A (YW cy y0 r v83 fz9 w83 g83) := ⟨_, rfl, hP, hD⟩
                              have hCf85 : YC f85 := by rw [ef85]; exact hCf83
                              have hRf85 : progOK (f85 4) (f85 5) (v83 9).toInt.toNat := by rw [ef85]; exact hRf83
                              have hs2_f85 : f85 2 = (f80 2) := by rw [ef85]; exact hs2_f83
                              have hs3_f85 : f85 3 = (f80 3) := by rw [ef85]; exact hs3_f83
                              have hs4_f85 : f85 4 = (f80 4) := by rw [ef85]; exact hs4_f83
                              have hs5_f85 : f85 5 = (f80 5) := by rw [ef85]; exact hs5_f83
                              obtain ⟨t86, et86⟩ : ∃ y : Int32, y = l1_83 + 1 := ⟨_, rfl⟩
                              have rg87 := fb_rng l1_83
                              have zt86 : t86.toInt = l1_83.toInt + 1 := by rw [et86]; exact add_i rfl (by decide) (by omega) (by omega)
                              refine lv_iinc (v := t86) (lv' := [(1, .int t86), (0, .ref y0)]) hx hb dX11_regiment_305 hl (k := 0) rfl (by rw [et86]; rfl) (by decide) rfl (fun ls hl => ?_)
                              refine lv_goto (tgt := 293) hx hb dX11_regiment_308 (by decide) ?_
                              have rg88 := fb_rng t86
                              exact ih83 t86 v83 f85 w83 g83 hIv83 hCf85 hRf85 hq0_v83 hq1_v83 hq3_v83 hq4_v83 hq5_v83 hq8_v83 hq9_v83 hq10_v83 hq13_v83 hq14_v83 hq15_v83 hq17_v83 hq18_v83 hq24_v83 hq25_v83 hq35_v83 hq36_v83 hq38_v83 hq39_v83 ⟨show (0 : Int) ≤ t86.toInt by omega, show t86.toInt ≤ (2147483647 : Int) by omega⟩ hs2_f85 hs3_f85 hs4_f85 hs5_f85 (by show (2147483647 - t86.toInt).toNat < n83; omega) _ _ _ hP hD hS (lv_sub hl [0, 1] rfl)
                        exact lp83 _ 0 (upd (upd (upd (upd v79 35 0) 36 0) 38 0) 37 0) f80 w81 g82 ⟨(YIb.upd (j := 37) (x := 0) (YIb.upd (j := 38) (x := 0) (YIb.upd (j := 36) (x := 0) (YIb.upd (j := 35) (x := 0) hIv79.1 (by decide) (by decide)) (by decide) (by decide)) (by decide) (by decide)) (by decide) (by decide)), (by have q9 := hIv79.2; have q0 : (0 : Int32).toInt = 0 := (by decide); show (0 : Int32).toInt + (0 : Int32).toInt ≤ 40; omega)⟩ hCf80 hRf80 hq0_v79 hq1_v79 hq3_v79 hq4_v79 hq5_v79 hq8_v79 hq9_v79 hq10_v79 hq13_v79 hq14_v79 hq15_v79 hq17_v79 hq18_v79 hq24_v79 hq25_v79 rfl rfl rfl hq39_v79 ⟨by decide, by decide⟩ rfl rfl rfl rfl (Nat.lt_succ_self _) _ _ _ hP hD hS (lv_sub hl [0, 1] rfl)
                      · skip
                        have zc71 : ¬ ((v1 18).toInt ≤ l1_70.toInt) := by rw [fa_le] at c71; exact c71
                        have rg89 := fb_rng l1_70
                        have rg90 := fb_rng (v1 18)
                        refine lv_aload_n hx hb dX11_regiment_198 rfl (lv_at hl 1 rfl) ?_
                        refine va_get (D := (dC, dI)) (ci := 11) (v := .ref (r 37)) (C := RX11) (T := TX11) (N := 79) hx hb hts inB_11 hown hE.1 hP 0 rfl rfl 37 (by decide) (hts _ k_1357) (fun _ h9 => h9) rfl dX11_regiment_199 ?_
                        refine lv_iload_n hx hb dX11_regiment_202 rfl (lv_at hl 0 rfl) ?_
                        refine lv_aload_n hx hb dX11_regiment_203 rfl (lv_at hl 1 rfl) ?_
                        refine va_get (D := (dC, dI)) (ci := 11) (v := .ref (r 30)) (C := RX11) (T := TX11) (N := 79) hx hb hts inB_11 hown hE.1 hP 0 rfl rfl 30 (by decide) (hts _ k_1350) (fun _ h9 => h9) rfl dX11_regiment_204 ?_
                        refine lv_iload_n hx hb dX11_regiment_207 rfl (lv_at hl 0 rfl) ?_
                        refine ldI hx hb hE hP 13 rfl (vp_in_iff.mpr ⟨by omega, by omega⟩) rfl rfl dX11_regiment_208 ?_
                        refine lv_topi (fun t91 et91 => ?_)
                        refine stI hx hb hE hP hD hS 20 rfl (vp_in_iff.mpr ⟨by omega, by omega⟩) rfl dX11_regiment_209 (fun H locs hP hD hS => ?_)
                        obtain ⟨f92, ef92, hP, hD⟩ : ∃ fz9, fz9 = upd2 f70 19 (upd (f70 19) l1_70.toNatClampNeg t91) ∧ va_P (dC, dI) vwCl (YW cy y0 r v70 fz9 w70 g70) H ∧ va_D A (YW cy y0 r v70 fz9 w70 g70) := ⟨_, rfl, hP, hD⟩
                        have hCf92 : YC f92 := by rw [ef92]; exact hCf70
                        have hRf92 : progOK (f92 4) (f92 5) (v70 9).toInt.toNat := by rw [ef92]; exact hRf70
                        have hs2_f92 : f92 2 = (f2 2) := by rw [ef92]; exact hs2_f70
                        have hs3_f92 : f92 3 = (f2 3) := by rw [ef92]; exact hs3_f70
                        have hs4_f92 : f92 4 = (f70 4) := by rw [ef92]; exact rfl
                        have hs5_f92 : f92 5 = (f70 5) := by rw [ef92]; exact rfl
                        refine lv_aload_n hx hb dX11_regiment_210 rfl (lv_at hl 1 rfl) ?_
                        refine va_get (D := (dC, dI)) (ci := 11) (v := .ref (r 38)) (C := RX11) (T := TX11) (N := 79) hx hb hts inB_11 hown hE.1 hP 0 rfl rfl 38 (by decide) (hts _ k_1358) (fun _ h9 => h9) rfl dX11_regiment_211 ?_
                        refine lv_iload_n hx hb dX11_regiment_214 rfl (lv_at hl 0 rfl) ?_
                        refine lv_aload_n hx hb dX11_regiment_215 rfl (lv_at hl 1 rfl) ?_
                        refine va_get (D := (dC, dI)) (ci := 11) (v := .ref (r 31)) (C := RX11) (T := TX11) (N := 79) hx hb hts inB_11 hown hE.1 hP 0 rfl rfl 31 (by decide) (hts _ k_1351) (fun _ h9 => h9) rfl dX11_regiment_216 ?_
                        refine lv_iload_n hx hb dX11_regiment_219 rfl (lv_at hl 0 rfl) ?_
                        refine ldI hx hb hE hP 14 rfl (vp_in_iff.mpr ⟨by omega, by omega⟩) rfl rfl dX11_regiment_220 ?_
                        refine lv_topi (fun t93 et93 => ?_)
                        refine stI hx hb hE hP hD hS 21 rfl (vp_in_iff.mpr ⟨by omega, by omega⟩) rfl dX11_regiment_221 (fun H locs hP hD hS => ?_)
                        obtain ⟨f94, ef94, hP, hD⟩ : ∃ fz9, fz9 = upd2 f92 20 (upd (f92 20) l1_70.toNatClampNeg t93) ∧ va_P (dC, dI) vwCl (YW cy y0 r v70 fz9 w70 g70) H ∧ va_D A (YW cy y0 r v70 fz9 w70 g70) := ⟨_, rfl, hP, hD⟩
                        have hCf94 : YC f94 := by rw [ef94]; exact hCf92
                        have hRf94 : progOK (f94 4) (f94 5) (v70 9).toInt.toNat := by rw [ef94]; exact hRf92
                        have hs2_f94 : f94 2 = (f2 2) := by rw [ef94]; exact hs2_f92
                        have hs3_f94 : f94 3 = (f2 3) := by rw [ef94]; exact hs3_f92
                        have hs4_f94 : f94 4 = (f70 4) := by rw [ef94]; exact hs4_f92
                        have hs5_f94 : f94 5 = (f70 5) := by rw [ef94]; exact hs5_f92
                        refine lv_aload_n hx hb dX11_regiment_222 rfl (lv_at hl 1 rfl) ?_
                        refine va_get (D := (dC, dI)) (ci := 11) (v := .ref (r 39)) (C := RX11) (T := TX11) (N := 79) hx hb hts inB_11 hown hE.1 hP 0 rfl rfl 39 (by decide) (hts _ k_1359) (fun _ h9 => h9) rfl dX11_regiment_223 ?_
                        refine lv_iload_n hx hb dX11_regiment_226 rfl (lv_at hl 0 rfl) ?_
                        refine lv_aload_n hx hb dX11_regiment_227 rfl (lv_at hl 1 rfl) ?_
                        refine va_get (D := (dC, dI)) (ci := 11) (v := .ref (r 32)) (C := RX11) (T := TX11) (N := 79) hx hb hts inB_11 hown hE.1 hP 0 rfl rfl 32 (by decide) (hts _ k_1352) (fun _ h9 => h9) rfl dX11_regiment_228 ?_
                        refine lv_iload_n hx hb dX11_regiment_231 rfl (lv_at hl 0 rfl) ?_
                        refine ldI hx hb hE hP 15 rfl (vp_in_iff.mpr ⟨by omega, by omega⟩) rfl rfl dX11_regiment_232 ?_
                        refine lv_topi (fun t95 et95 => ?_)
                        refine stI hx hb hE hP hD hS 22 rfl (vp_in_iff.mpr ⟨by omega, by omega⟩) rfl dX11_regiment_233 (fun H locs hP hD hS => ?_)
                        obtain ⟨f96, ef96, hP, hD⟩ : ∃ fz9, fz9 = upd2 f94 21 (upd (f94 21) l1_70.toNatClampNeg t95) ∧ va_P (dC, dI) vwCl (YW cy y0 r v70 fz9 w70 g70) H ∧ va_D A (YW cy y0 r v70 fz9 w70 g70) := ⟨_, rfl, hP, hD⟩
                        have hCf96 : YC f96 := by rw [ef96]; exact hCf94
                        have hRf96 : progOK (f96 4) (f96 5) (v70 9).toInt.toNat := by rw [ef96]; exact hRf94
                        have hs2_f96 : f96 2 = (f2 2) := by rw [ef96]; exact hs2_f94
                        have hs3_f96 : f96 3 = (f2 3) := by rw [ef96]; exact hs3_f94
                        have hs4_f96 : f96 4 = (f70 4) := by rw [ef96]; exact hs4_f94
                        have hs5_f96 : f96 5 = (f70 5) := by rw [ef96]; exact hs5_f94
                        refine lv_aload_n hx hb dX11_regiment_234 rfl (lv_at hl 1 rfl) ?_
                        refine va_get (D := (dC, dI)) (ci := 11) (v := .ref (r 40)) (C := RX11) (T := TX11) (N := 79) hx hb hts inB_11 hown hE.1 hP 0 rfl rfl 40 (by decide) (hts _ k_1360) (fun _ h9 => h9) rfl dX11_regiment_235 ?_
                        refine lv_iload_n hx hb dX11_regiment_238 rfl (lv_at hl 0 rfl) ?_
                        refine lv_aload_n hx hb dX11_regiment_239 rfl (lv_at hl 1 rfl) ?_
                        refine va_get (D := (dC, dI)) (ci := 11) (v := .ref (r 33)) (C := RX11) (T := TX11) (N := 79) hx hb hts inB_11 hown hE.1 hP 0 rfl rfl 33 (by decide) (hts _ k_1353) (fun _ h9 => h9) rfl dX11_regiment_240 ?_
                        refine lv_iload_n hx hb dX11_regiment_243 rfl (lv_at hl 0 rfl) ?_
                        refine ldI hx hb hE hP 16 rfl (vp_in_iff.mpr ⟨by omega, by omega⟩) rfl rfl dX11_regiment_244 ?_
                        refine lv_topi (fun t97 et97 => ?_)
                        refine stI hx hb hE hP hD hS 23 rfl (vp_in_iff.mpr ⟨by omega, by omega⟩) rfl dX11_regiment_245 (fun H locs hP hD hS => ?_)
                        obtain ⟨f98, ef98, hP, hD⟩ : ∃ fz9, fz9 = upd2 f96 22 (upd (f96 22) l1_70.toNatClampNeg t97) ∧ va_P (dC, dI) vwCl (YW cy y0 r v70 fz9 w70 g70) H ∧ va_D A (YW cy y0 r v70 fz9 w70 g70) := ⟨_, rfl, hP, hD⟩
                        have hCf98 : YC f98 := by rw [ef98]; exact hCf96
                        have hRf98 : progOK (f98 4) (f98 5) (v70 9).toInt.toNat := by rw [ef98]; exact hRf96
                        have hs2_f98 : f98 2 = (f2 2) := by rw [ef98]; exact hs2_f96
                        have hs3_f98 : f98 3 = (f2 3) := by rw [ef98]; exact hs3_f96
                        have hs4_f98 : f98 4 = (f70 4) := by rw [ef98]; exact hs4_f96
                        have hs5_f98 : f98 5 = (f70 5) := by rw [ef98]; exact hs5_f96
                        obtain ⟨t99, et99⟩ : ∃ y : Int32, y = l1_70 + 1 := ⟨_, rfl⟩
                        have zt99 : t99.toInt = l1_70.toInt + 1 := by rw [et99]; exact add_i rfl (by decide) (by omega) (by omega)
                        refine lv_iinc (v := t99) (lv' := [(1, .int t99), (0, .ref y0)]) hx hb dX11_regiment_246 hl (k := 0) rfl (by rw [et99]; rfl) (by decide) rfl (fun ls hl => ?_)
                        refine lv_goto (tgt := 190) hx hb dX11_regiment_249 (by decide) ?_
                        have rg100 := fb_rng t99
                        exact ih70 t99 v70 f98 w70 g70 hIv70 hCf98 hRf98 hq0_v70 hq1_v70 hq3_v70 hq4_v70 hq5_v70 hq8_v70 hq9_v70 hq10_v70 hq13_v70 hq14_v70 hq15_v70 hq17_v70 hq18_v70 hq24_v70 hq25_v70 hq35_v70 hq36_v70 hq38_v70 hq39_v70 ⟨show (0 : Int) ≤ t99.toInt by omega, show t99.toInt ≤ (2147483647 : Int) by omega⟩ hs2_f98 hs3_f98 (by show (2147483647 - t99.toInt).toNat < n70; omega) _ _ _ hP hD hS (lv_sub hl [0, 1] rfl)
                  exact lp70 _ 0 v66 f66 w66 g66 hIv66 hCf66 hRf66 hq0_v66 hq1_v66 hq3_v66 hq4_v66 hq5_v66 hq8_v66 hq9_v66 hq10_v66 hq13_v66 hq14_v66 hq15_v66 hq17_v66 hq18_v66 hq24_v66 hq25_v66 hq35_v66 hq36_v66 hq38_v66 hq39_v66 ⟨by decide, by decide⟩ hs2_f66 hs3_f66 (Nat.lt_succ_self _) _ _ _ hP hD hS (lv_sub hl [0, 1] rfl)
                · skip
                  have zc67 : ¬ ((v1 17).toInt ≤ l1_66.toInt) := by rw [fa_le] at c67; exact c67
                  have rg101 := fb_rng l1_66
                  have rg102 := fb_rng (v1 17)
                  refine lv_aload_n hx hb dX11_regiment_146 rfl (lv_at hl 1 rfl) ?_
                  refine va_get (D := (dC, dI)) (ci := 11) (v := .ref (r 34)) (C := RX11) (T := TX11) (N := 79) hx hb hts inB_11 hown hE.1 hP 0 rfl rfl 34 (by decide) (hts _ k_1354) (fun _ h9 => h9) rfl dX11_regiment_147 ?_
                  refine lv_iload_n hx hb dX11_regiment_150 rfl (lv_at hl 0 rfl) ?_
                  refine lv_aload_n hx hb dX11_regiment_151 rfl (lv_at hl 1 rfl) ?_
                  refine va_get (D := (dC, dI)) (ci := 11) (v := .ref (r 27)) (C := RX11) (T := TX11) (N := 79) hx hb hts inB_11 hown hE.1 hP 0 rfl rfl 27 (by decide) (hts _ k_1347) (fun _ h9 => h9) rfl dX11_regiment_152 ?_
                  refine lv_iload_n hx hb dX11_regiment_155 rfl (lv_at hl 0 rfl) ?_
                  refine ldI hx hb hE hP 10 rfl (vp_in_iff.mpr ⟨by omega, by omega⟩) rfl rfl dX11_regiment_156 ?_
                  refine lv_topi (fun t103 et103 => ?_)
                  refine stI hx hb hE hP hD hS 17 rfl (vp_in_iff.mpr ⟨by omega, by omega⟩) rfl dX11_regiment_157 (fun H locs hP hD hS => ?_)
                  obtain ⟨f104, ef104, hP, hD⟩ : ∃ fz9, fz9 = upd2 f66 16 (upd (f66 16) l1_66.toNatClampNeg t103) ∧ va_P (dC, dI) vwCl (YW cy y0 r v66 fz9 w66 g66) H ∧ va_D A (YW cy y0 r v66 fz9 w66 g66) := ⟨_, rfl, hP, hD⟩
                  have hCf104 : YC f104 := by rw [ef104]; exact hCf66
                  have hRf104 : progOK (f104 4) (f104 5) (v66 9).toInt.toNat := by rw [ef104]; exact hRf66
                  have hs2_f104 : f104 2 = (f2 2) := by rw [ef104]; exact hs2_f66
                  have hs3_f104 : f104 3 = (f2 3) := by rw [ef104]; exact hs3_f66
                  have hs4_f104 : f104 4 = (f66 4) := by rw [ef104]; exact rfl
                  have hs5_f104 : f104 5 = (f66 5) := by rw [ef104]; exact rfl
                  refine lv_aload_n hx hb dX11_regiment_158 rfl (lv_at hl 1 rfl) ?_
                  refine va_get (D := (dC, dI)) (ci := 11) (v := .ref (r 35)) (C := RX11) (T := TX11) (N := 79) hx hb hts inB_11 hown hE.1 hP 0 rfl rfl 35 (by decide) (hts _ k_1355) (fun _ h9 => h9) rfl dX11_regiment_159 ?_
                  refine lv_iload_n hx hb dX11_regiment_162 rfl (lv_at hl 0 rfl) ?_
                  refine lv_aload_n hx hb dX11_regiment_163 rfl (lv_at hl 1 rfl) ?_
                  refine va_get (D := (dC, dI)) (ci := 11) (v := .ref (r 28)) (C := RX11) (T := TX11) (N := 79) hx hb hts inB_11 hown hE.1 hP 0 rfl rfl 28 (by decide) (hts _ k_1348) (fun _ h9 => h9) rfl dX11_regiment_164 ?_
                  refine lv_iload_n hx hb dX11_regiment_167 rfl (lv_at hl 0 rfl) ?_
                  refine ldI hx hb hE hP 11 rfl (vp_in_iff.mpr ⟨by omega, by omega⟩) rfl rfl dX11_regiment_168 ?_
                  refine lv_topi (fun t105 et105 => ?_)
                  refine stI hx hb hE hP hD hS 18 rfl (vp_in_iff.mpr ⟨by omega, by omega⟩) rfl dX11_regiment_169 (fun H locs hP hD hS => ?_)
                  obtain ⟨f106, ef106, hP, hD⟩ : ∃ fz9, fz9 = upd2 f104 17 (upd (f104 17) l1_66.toNatClampNeg t105) ∧ va_P (dC, dI) vwCl (YW cy y0 r v66 fz9 w66 g66) H ∧ va_D A (YW cy y0 r v66 fz9 w66 g66) := ⟨_, rfl, hP, hD⟩
                  have hCf106 : YC f106 := by rw [ef106]; exact hCf104
                  have hRf106 : progOK (f106 4) (f106 5) (v66 9).toInt.toNat := by rw [ef106]; exact hRf104
                  have hs2_f106 : f106 2 = (f2 2) := by rw [ef106]; exact hs2_f104
                  have hs3_f106 : f106 3 = (f2 3) := by rw [ef106]; exact hs3_f104
                  have hs4_f106 : f106 4 = (f66 4) := by rw [ef106]; exact hs4_f104
                  have hs5_f106 : f106 5 = (f66 5) := by rw [ef106]; exact hs5_f104
                  refine lv_aload_n hx hb dX11_regiment_170 rfl (lv_at hl 1 rfl) ?_
                  refine va_get (D := (dC, dI)) (ci := 11) (v := .ref (r 36)) (C := RX11) (T := TX11) (N := 79) hx hb hts inB_11 hown hE.1 hP 0 rfl rfl 36 (by decide) (hts _ k_1356) (fun _ h9 => h9) rfl dX11_regiment_171 ?_
                  refine lv_iload_n hx hb dX11_regiment_174 rfl (lv_at hl 0 rfl) ?_
                  refine lv_aload_n hx hb dX11_regiment_175 rfl (lv_at hl 1 rfl) ?_
                  refine va_get (D := (dC, dI)) (ci := 11) (v := .ref (r 29)) (C := RX11) (T := TX11) (N := 79) hx hb hts inB_11 hown hE.1 hP 0 rfl rfl 29 (by decide) (hts _ k_1349) (fun _ h9 => h9) rfl dX11_regiment_176 ?_
                  refine lv_iload_n hx hb dX11_regiment_179 rfl (lv_at hl 0 rfl) ?_
                  refine ldI hx hb hE hP 12 rfl (vp_in_iff.mpr ⟨by omega, by omega⟩) rfl rfl dX11_regiment_180 ?_
                  refine lv_topi (fun t107 et107 => ?_)
                  refine stI hx hb hE hP hD hS 19 rfl (vp_in_iff.mpr ⟨by omega, by omega⟩) rfl dX11_regiment_181 (fun H locs hP hD hS => ?_)
                  obtain ⟨f108, ef108, hP, hD⟩ : ∃ fz9, fz9 = upd2 f106 18 (upd (f106 18) l1_66.toNatClampNeg t107) ∧ va_P (dC, dI) vwCl (YW cy y0 r v66 fz9 w66 g66) H ∧ va_D A (YW cy y0 r v66 fz9 w66 g66) := ⟨_, rfl, hP, hD⟩
                  have hCf108 : YC f108 := by rw [ef108]; exact hCf106
                  have hRf108 : progOK (f108 4) (f108 5) (v66 9).toInt.toNat := by rw [ef108]; exact hRf106
                  have hs2_f108 : f108 2 = (f2 2) := by rw [ef108]; exact hs2_f106
                  have hs3_f108 : f108 3 = (f2 3) := by rw [ef108]; exact hs3_f106
                  have hs4_f108 : f108 4 = (f66 4) := by rw [ef108]; exact hs4_f106
                  have hs5_f108 : f108 5 = (f66 5) := by rw [ef108]; exact hs5_f106
                  obtain ⟨t109, et109⟩ : ∃ y : Int32, y = l1_66 + 1 := ⟨_, rfl⟩
                  have zt109 : t109.toInt = l1_66.toInt + 1 := by rw [et109]; exact add_i rfl (by decide) (by omega) (by omega)
                  refine lv_iinc (v := t109) (lv' := [(1, .int t109), (0, .ref y0)]) hx hb dX11_regiment_182 hl (k := 0) rfl (by rw [et109]; rfl) (by decide) rfl (fun ls hl => ?_)
                  refine lv_goto (tgt := 138) hx hb dX11_regiment_185 (by decide) ?_
                  have rg110 := fb_rng t109
                  exact ih66 t109 v66 f108 w66 g66 hIv66 hCf108 hRf108 hq0_v66 hq1_v66 hq3_v66 hq4_v66 hq5_v66 hq8_v66 hq9_v66 hq10_v66 hq13_v66 hq14_v66 hq15_v66 hq17_v66 hq18_v66 hq24_v66 hq25_v66 hq35_v66 hq36_v66 hq38_v66 hq39_v66 ⟨show (0 : Int) ≤ t109.toInt by omega, show t109.toInt ≤ (2147483647 : Int) by omega⟩ hs2_f108 hs3_f108 (by show (2147483647 - t109.toInt).toNat < n66; omega) _ _ _ hP hD hS (lv_sub hl [0, 1] rfl)
            exact lp66 _ 0 v62 f62 w62 g62 hIv62 hCf62 hRf62 hq0_v62 hq1_v62 hq3_v62 hq4_v62 hq5_v62 hq8_v62 hq9_v62 hq10_v62 hq13_v62 hq14_v62 hq15_v62 hq17_v62 hq18_v62 hq24_v62 hq25_v62 hq35_v62 hq36_v62 hq38_v62 hq39_v62 ⟨by decide, by decide⟩ hs2_f62 hs3_f62 (Nat.lt_succ_self _) _ _ _ hP hD hS (lv_sub hl [0, 1] rfl)
          · skip
            have zc63 : ¬ ((v1 8).toInt ≤ l1_62.toInt) := by rw [fa_le] at c63; exact c63
            have rg111 := fb_rng l1_62
            have rg112 := fb_rng (v1 8)
            refine lv_aload_n hx hb dX11_regiment_106 rfl (lv_at hl 1 rfl) ?_
            refine va_get (D := (dC, dI)) (ci := 11) (v := .ref (r 13)) (C := RX11) (T := TX11) (N := 79) hx hb hts inB_11 hown hE.1 hP 0 rfl rfl 13 (by decide) (hts _ k_1333) (fun _ h9 => h9) rfl dX11_regiment_107 ?_
            refine lv_iload_n hx hb dX11_regiment_110 rfl (lv_at hl 0 rfl) ?_
            refine lv_aload_n hx hb dX11_regiment_111 rfl (lv_at hl 1 rfl) ?_
            refine va_get (D := (dC, dI)) (ci := 11) (v := .ref (r 11)) (C := RX11) (T := TX11) (N := 79) hx hb hts inB_11 hown hE.1 hP 0 rfl rfl 11 (by decide) (hts _ k_1331) (fun _ h9 => h9) rfl dX11_regiment_112 ?_
            refine lv_iload_n hx hb dX11_regiment_115 rfl (lv_at hl 0 rfl) ?_
            refine ldI hx hb hE hP 3 rfl (vp_in_iff.mpr ⟨by omega, by omega⟩) rfl rfl dX11_regiment_116 ?_
            refine lv_topi (fun t113 et113 => ?_)
            have hO2 : (f2 2) l1_62.toInt.toNat = t113 := by rw [et113, hs2_f62]; rfl
            refine stI hx hb hE hP hD hS 5 rfl (vp_in_iff.mpr ⟨by omega, by omega⟩) rfl dX11_regiment_117 (fun H locs hP hD hS => ?_)
            obtain ⟨f114, ef114, hP, hD⟩ : ∃ fz9, fz9 = upd2 f62 4 (upd (f62 4) l1_62.toNatClampNeg t113) ∧ va_P (dC, dI) vwCl (YW cy y0 r v62 fz9 w62 g62) H ∧ va_D A (YW cy y0 r v62 fz9 w62 g62) := ⟨_, rfl, hP, hD⟩
            have hCf114 : YC f114 := by rw [ef114]; exact hCf62
            have hs2_f114 : f114 2 = (f2 2) := by rw [ef114]; exact hs2_f62
            have hs3_f114 : f114 3 = (f2 3) := by rw [ef114]; exact hs3_f62
            have hs4_f114 : f114 4 = (upd (f62 4) (l1_62.toInt.toNat) t113) := by rw [ef114]; show upd (f62 4) (l1_62.toInt.toNat) t113 = _; rfl
            have hs5_f114 : f114 5 = (f62 5) := by rw [ef114]; exact rfl
            refine lv_aload_n hx hb dX11_regiment_118 rfl (lv_at hl 1 rfl) ?_
            refine va_get (D := (dC, dI)) (ci := 11) (v := .ref (r 14)) (C := RX11) (T := TX11) (N := 79) hx hb hts inB_11 hown hE.1 hP 0 rfl rfl 14 (by decide) (hts _ k_1334) (fun _ h9 => h9) rfl dX11_regiment_119 ?_
            refine lv_iload_n hx hb dX11_regiment_122 rfl (lv_at hl 0 rfl) ?_
            refine lv_aload_n hx hb dX11_regiment_123 rfl (lv_at hl 1 rfl) ?_
            refine va_get (D := (dC, dI)) (ci := 11) (v := .ref (r 12)) (C := RX11) (T := TX11) (N := 79) hx hb hts inB_11 hown hE.1 hP 0 rfl rfl 12 (by decide) (hts _ k_1332) (fun _ h9 => h9) rfl dX11_regiment_124 ?_
            refine lv_iload_n hx hb dX11_regiment_127 rfl (lv_at hl 0 rfl) ?_
            refine ldI hx hb hE hP 4 rfl (vp_in_iff.mpr ⟨by omega, by omega⟩) rfl rfl dX11_regiment_128 ?_
            refine lv_topi (fun t115 et115 => ?_)
            have hO3 : (f2 3) l1_62.toInt.toNat = t115 := by rw [et115, hs3_f114]; rfl
            refine stI hx hb hE hP hD hS 6 rfl (vp_in_iff.mpr ⟨by omega, by omega⟩) rfl dX11_regiment_129 (fun H locs hP hD hS => ?_)
            obtain ⟨f116, ef116, hP, hD⟩ : ∃ fz9, fz9 = upd2 f114 5 (upd (f114 5) l1_62.toNatClampNeg t115) ∧ va_P (dC, dI) vwCl (YW cy y0 r v62 fz9 w62 g62) H ∧ va_D A (YW cy y0 r v62 fz9 w62 g62) := ⟨_, rfl, hP, hD⟩
            have hCf116 : YC f116 := by rw [ef116]; exact hCf114
            have hs2_f116 : f116 2 = (f2 2) := by rw [ef116]; exact hs2_f114
            have hs3_f116 : f116 3 = (f2 3) := by rw [ef116]; exact hs3_f114
            have hs4_f116 : f116 4 = (upd (f62 4) (l1_62.toInt.toNat) t113) := by rw [ef116]; exact hs4_f114
            have hs5_f116 : f116 5 = (upd (f62 5) (l1_62.toInt.toNat) t115) := by rw [ef116]; show upd (f114 5) (l1_62.toInt.toNat) t115 = _; rw [hs5_f114]
            obtain ⟨t117, et117⟩ : ∃ y : Int32, y = l1_62 + 1 := ⟨_, rfl⟩
            have zt117 : t117.toInt = l1_62.toInt + 1 := by rw [et117]; exact add_i rfl (by decide) (by omega) (by omega)
            refine lv_iinc (v := t117) (lv' := [(1, .int t117), (0, .ref y0)]) hx hb dX11_regiment_130 hl (k := 0) rfl (by rw [et117]; rfl) (by decide) rfl (fun ls hl => ?_)
            refine lv_goto (tgt := 98) hx hb dX11_regiment_133 (by decide) ?_
            have rg118 := fb_rng t117
            exact ih62 t117 v62 f116 w62 g62 hIv62 hCf116 hq0_v62 hq1_v62 hq3_v62 hq4_v62 hq5_v62 hq8_v62 hq9_v62 hq10_v62 hq13_v62 hq14_v62 hq15_v62 hq17_v62 hq18_v62 hq24_v62 hq25_v62 hq35_v62 hq36_v62 hq38_v62 hq39_v62 ⟨show (0 : Int) ≤ t117.toInt by omega, show t117.toInt ≤ (2147483647 : Int) by omega⟩ (by show progOK (f116 2) (f116 3) ((v62 9).toInt).toNat; rw [hs2_f116, hs3_f116]; exact prog_n hPG (by omega)) (by show ∀ j, j < (t117.toInt).toNat → (f116 4) j = (f116 2) j ∧ (f116 5) j = (f116 3) j; rw [hs2_f116, hs3_f116, hs4_f116, hs5_f116]; exact cp_step hCP hO2 hO3 (by omega)) hs2_f116 hs3_f116 (by show (2147483647 - t117.toInt).toNat < n62; omega) _ _ _ hP hD hS (lv_sub hl [0, 1] rfl)
      exact lp62 _ 0 (upd (upd (upd (upd (upd (upd (upd (upd (upd v1 24 (v1 17)) 25 (v1 18)) 26 (v1 19)) 27 (v1 20)) 28 (v1 21)) 29 (v1 22)) 12 (v1 11)) 16 (v1 15)) 9 (v1 8)) f2 w3 g4 ⟨(YIb.upd (j := 9) (x := (v1 8)) (YIb.upd (j := 16) (x := (v1 15)) (YIb.upd (j := 12) (x := (v1 11)) (YIb.upd (j := 29) (x := (v1 22)) (YIb.upd (j := 28) (x := (v1 21)) (YIb.upd (j := 27) (x := (v1 20)) (YIb.upd (j := 26) (x := (v1 19)) (YIb.upd (j := 25) (x := (v1 18)) (YIb.upd (j := 24) (x := (v1 17)) hIv1.1 (show (0 : Int) ≤ (v1 17).toInt by omega) (show (v1 17).toInt ≤ (6 : Int) by omega)) (show (0 : Int) ≤ (v1 18).toInt by omega) (show (v1 18).toInt ≤ (6 : Int) by omega)) (rlo _) (rhi _)) (rlo _) (rhi _)) (rlo _) (rhi _)) (rlo _) (rhi _)) (rlo _) (rhi _)) (rlo _) (rhi _)) (show (0 : Int) ≤ (v1 8).toInt by omega) (show (v1 8).toInt ≤ (320 : Int) by omega)), hIv1.2⟩ hCf2 rfl rfl rfl rfl rfl rfl rfl rfl rfl rfl rfl rfl rfl rfl rfl hq35_v1 hq36_v1 hq38_v1 hq39_v1 ⟨by decide, by decide⟩ (by show progOK (f2 2) (f2 3) ((v1 8).toInt).toNat; first | exact prog_n (hPL (by omega) (by omega)) (by omega) | exact prog_0 (by decide)) (by show ∀ j, j < ((0 : Int32).toInt).toNat → (f2 4) j = (f2 2) j ∧ (f2 5) j = (f2 3) j; exact fun j hj => absurd hj (Nat.not_lt_zero _)) rfl rfl (Nat.lt_succ_self _) _ _ _ hP hD hS (lv_sub hl [0, 1] rfl)
  · skip
    have zc6 : ¬ ((v1 1).toInt ≤ 0) := by rw [fa_le, show (0 : Int32).toInt = 0 from by decide] at c6; exact c6
    refine lv_iconst (v := (-1)) hx hb dX11_regiment_11 (by decide) ?_
    exact ret (-1) (v1, f2, w3, g4) _ _ _ _ _ _ rfl ⟨hIv1, hCf2, hRf2, hk39_v1⟩ hP hD hS dX11_regiment_12 (Nat.le_refl _) (Nat.le_refl _)
