set_option maxHeartbeats 4000000 in
set_option maxRecDepth 100000 in
theorem sY_X11_readAll_1 (NF : Nat) (l : Launch) (dC : Nat → ClassId) (dI : Nat → Nat → Nat) (cy : Nat → ClassId) (y0 : Nat) (r : Nat → Nat)  (v : Nat → Int32) (f : Nat → Nat → Int32) (w : Int64) (g : Nat → Int64) (hIv : YI v) (hCf : YC f) (hRf : progOK (f 4) (f 5) (v 9).toInt.toNat)  : ctV l (dC, dI) cy yX11_readAll cX11_readAll 1 8 212 0 0 ((Nat → Int32) × (Nat → Nat → Int32) × (Int64) × (Nat → Int64)) [.ref y0] (YW cy y0 r v f w g) (fun u => gsY_X11_readAll_1 NF v f w g = u ∧ KV [0, 1, 2, 3, 4, 5, 6, 7, 8, 10, 11, 13, 14, 15, 17, 18, 19, 20, 21, 22, 23, 30, 31, 32, 33, 34] u.1 v ∧ KF [2, 3, 6, 9, 10, 11, 12, 13, 14, 15] u.2.1 f ∧ YI u.1 ∧ YC u.2.1 ∧ progOK (u.2.1 4) (u.2.1 5) (u.1 9).toInt.toNat ∧ u.1 9 = v 9 ∧ u.1 24 = v 24 ∧ u.1 25 = v 25 ∧ u.1 35 = v 35 ∧ u.1 36 = v 36 ∧ u.1 38 = v 38 ∧ u.1 39 = v 39 ∧ ((u.1 0).toInt = 0) ∧ (IM0 (u.1 1).toInt (IMn (u.1 15).toInt (progOK (u.2.1 2) (u.2.1 3) ((u.1 8).toInt).toNat)))) (fun u => YW cy y0 r u.1 u.2.1 u.2.2.1 u.2.2.2) := by
  refine ctV_of (by decide) (Nat.le_of_ble_eq_true rfl) (fun p e s m below meth c A ls Q hx hb hml hts hown hnm hE hP hD hA hl ret => ?_)
  have hUv : (v 35).toInt + (v 36).toInt ≤ 40 := hIv.2
  have hM_v : KV [0, 1, 2, 3, 4, 5, 6, 7, 8, 10, 11, 13, 14, 15, 17, 18, 19, 20, 21, 22, 23, 30, 31, 32, 33, 34] v v := fun _ _ => rfl
  have hA_f : KF [2, 3, 6, 9, 10, 11, 12, 13, 14, 15] f f := fun _ _ => rfl
  have b0_v : (0 : Int) ≤ (v 0).toInt ∧ (v 0).toInt ≤ 1600 := YIb.b hIv.1 0 (by decide)
  have b1_v : (0 : Int) ≤ (v 1).toInt ∧ (v 1).toInt ≤ 4 := YIb.b hIv.1 1 (by decide)
  have b8_v : (0 : Int) ≤ (v 8).toInt ∧ (v 8).toInt ≤ 320 := YIb.b hIv.1 8 (by decide)
  have b10_v : (0 : Int) ≤ (v 10).toInt ∧ (v 10).toInt ≤ 160 := YIb.b hIv.1 10 (by decide)
  have b13_v : (0 : Int) ≤ (v 13).toInt ∧ (v 13).toInt ≤ 31 := YIb.b hIv.1 13 (by decide)
  have b14_v : (0 : Int) ≤ (v 14).toInt ∧ (v 14).toInt ≤ 8 := YIb.b hIv.1 14 (by decide)
  have b15_v : (0 : Int) ≤ (v 15).toInt ∧ (v 15).toInt ≤ 1 := YIb.b hIv.1 15 (by decide)
  have b17_v : (0 : Int) ≤ (v 17).toInt ∧ (v 17).toInt ≤ 6 := YIb.b hIv.1 17 (by decide)
  have b18_v : (0 : Int) ≤ (v 18).toInt ∧ (v 18).toInt ≤ 6 := YIb.b hIv.1 18 (by decide)
  have hown : s.vm.findClass RX11 = some m.cls := hown
  have hS : va_S A s.heap s.heap [] := va_S.rf
  have hl : lv_has ls 1 [(0, .ref y0)] := hl
  refine lv_aload_n hx hb dX11_readAll_0 rfl (lv_at hl 0 rfl) ?_
  refine lv_aload_n hx hb dX11_readAll_1 rfl (lv_at hl 0 rfl) ?_
  refine va_get (D := (dC, dI)) (ci := 11) (v := .int (v 0)) (C := RX11) (T := TX11) (N := 79) hx hb hts inB_11 hown hE.1 hP 0 rfl rfl 1 (by decide) (hts _ k_1321) (fun _ h9 => h9) rfl dX11_readAll_2 ?_
  have b0_v : 0 ≤ (v 0).toInt ∧ (v 0).toInt ≤ 1600 := YIb.b hIv.1 0 (by decide)
  refine va_put (D := (dC, dI)) (ci := 11) (v := .int (v 0)) (ty := tyX11 5) (C := RX11) (T := TX11) (N := 79) hx hb hts inB_11 tyX11 tyX11_ok nmX11 hown hE.1 hP hD hS 0 rfl rfl 5 (by decide) (hts _ k_1325) (fun _ h9 => h9) rfl (tyX11_ok 5 (by decide)) rfl rfl (Nat.le_of_ble_eq_true rfl) dX11_readAll_5 (fun H locs hP hD hS => ?_)
  have hP : va_P (dC, dI) vwCl (YW cy y0 r (upd v 4 (v 0)) f w g) H := hP
  have hD : va_D A (YW cy y0 r (upd v 4 (v 0)) f w g) := hD
  refine lv_aload_n hx hb dX11_readAll_8 rfl (lv_at hl 0 rfl) ?_
  refine lv_iconst (v := 0) hx hb dX11_readAll_9 (by decide) ?_
  refine va_put (D := (dC, dI)) (ci := 11) (v := .int 0) (ty := tyX11 1) (C := RX11) (T := TX11) (N := 79) hx hb hts inB_11 tyX11 tyX11_ok nmX11 hown hE.1 hP hD hS 0 rfl rfl 1 (by decide) (hts _ k_1321) (fun _ h9 => h9) rfl (tyX11_ok 1 (by decide)) rfl rfl (Nat.le_of_ble_eq_true rfl) dX11_readAll_10 (fun H locs hP hD hS => ?_)
  have hP : va_P (dC, dI) vwCl (YW cy y0 r (upd (upd v 4 (v 0)) 0 0) f w g) H := hP
  have hD : va_D A (YW cy y0 r (upd (upd v 4 (v 0)) 0 0) f w g) := hD
  refine lv_aload_n hx hb dX11_readAll_13 rfl (lv_at hl 0 rfl) ?_
  refine lv_iconst (v := 0) hx hb dX11_readAll_14 (by decide) ?_
  refine va_put (D := (dC, dI)) (ci := 11) (v := .int 0) (ty := tyX11 4) (C := RX11) (T := TX11) (N := 79) hx hb hts inB_11 tyX11 tyX11_ok nmX11 hown hE.1 hP hD hS 0 rfl rfl 4 (by decide) (hts _ k_1324) (fun _ h9 => h9) rfl (tyX11_ok 4 (by decide)) rfl rfl (Nat.le_of_ble_eq_true rfl) dX11_readAll_15 (fun H locs hP hD hS => ?_)
  have hP : va_P (dC, dI) vwCl (YW cy y0 r (upd (upd (upd v 4 (v 0)) 0 0) 3 0) f w g) H := hP
  have hD : va_D A (YW cy y0 r (upd (upd (upd v 4 (v 0)) 0 0) 3 0) f w g) := hD
  refine lv_aload_n hx hb dX11_readAll_18 rfl (lv_at hl 0 rfl) ?_
  refine lv_iconst (v := 0) hx hb dX11_readAll_19 (by decide) ?_
  refine va_put (D := (dC, dI)) (ci := 11) (v := .int 0) (ty := tyX11 2) (C := RX11) (T := TX11) (N := 79) hx hb hts inB_11 tyX11 tyX11_ok nmX11 hown hE.1 hP hD hS 0 rfl rfl 2 (by decide) (hts _ k_1322) (fun _ h9 => h9) rfl (tyX11_ok 2 (by decide)) rfl rfl (Nat.le_of_ble_eq_true rfl) dX11_readAll_20 (fun H locs hP hD hS => ?_)
  have hP : va_P (dC, dI) vwCl (YW cy y0 r (upd (upd (upd (upd v 4 (v 0)) 0 0) 3 0) 1 0) f w g) H := hP
  have hD : va_D A (YW cy y0 r (upd (upd (upd (upd v 4 (v 0)) 0 0) 3 0) 1 0) f w g) := hD
  refine lv_aload_n hx hb dX11_readAll_23 rfl (lv_at hl 0 rfl) ?_
  refine lv_iconst (v := (-1)) hx hb dX11_readAll_24 (by decide) ?_
  refine va_put (D := (dC, dI)) (ci := 11) (v := .int (-1)) (ty := tyX11 3) (C := RX11) (T := TX11) (N := 79) hx hb hts inB_11 tyX11 tyX11_ok nmX11 hown hE.1 hP hD hS 0 rfl rfl 3 (by decide) (hts _ k_1323) (fun _ h9 => h9) rfl (tyX11_ok 3 (by decide)) rfl rfl (Nat.le_of_ble_eq_true rfl) dX11_readAll_25 (fun H locs hP hD hS => ?_)
  have hP : va_P (dC, dI) vwCl (YW cy y0 r (upd (upd (upd (upd (upd v 4 (v 0)) 0 0) 3 0) 1 0) 2 (-1)) f w g) H := hP
  have hD : va_D A (YW cy y0 r (upd (upd (upd (upd (upd v 4 (v 0)) 0 0) 3 0) 1 0) 2 (-1)) f w g) := hD
  refine lv_aload_n hx hb dX11_readAll_28 rfl (lv_at hl 0 rfl) ?_
  refine lv_iconst (v := 0) hx hb dX11_readAll_29 (by decide) ?_
  refine va_put (D := (dC, dI)) (ci := 11) (v := .int 0) (ty := tyX11 41) (C := RX11) (T := TX11) (N := 79) hx hb hts inB_11 tyX11 tyX11_ok nmX11 hown hE.1 hP hD hS 0 rfl rfl 41 (by decide) (hts _ k_1361) (fun _ h9 => h9) rfl (tyX11_ok 41 (by decide)) rfl rfl (Nat.le_of_ble_eq_true rfl) dX11_readAll_30 (fun H locs hP hD hS => ?_)
  have hP : va_P (dC, dI) vwCl (YW cy y0 r (upd (upd (upd (upd (upd (upd v 4 (v 0)) 0 0) 3 0) 1 0) 2 (-1)) 17 0) f w g) H := hP
  have hD : va_D A (YW cy y0 r (upd (upd (upd (upd (upd (upd v 4 (v 0)) 0 0) 3 0) 1 0) 2 (-1)) 17 0) f w g) := hD
  refine lv_aload_n hx hb dX11_readAll_33 rfl (lv_at hl 0 rfl) ?_
  refine lv_iconst (v := 0) hx hb dX11_readAll_34 (by decide) ?_
  refine va_put (D := (dC, dI)) (ci := 11) (v := .int 0) (ty := tyX11 42) (C := RX11) (T := TX11) (N := 79) hx hb hts inB_11 tyX11 tyX11_ok nmX11 hown hE.1 hP hD hS 0 rfl rfl 42 (by decide) (hts _ k_1362) (fun _ h9 => h9) rfl (tyX11_ok 42 (by decide)) rfl rfl (Nat.le_of_ble_eq_true rfl) dX11_readAll_35 (fun H locs hP hD hS => ?_)
  have hP : va_P (dC, dI) vwCl (YW cy y0 r (upd (upd (upd (upd (upd (upd (upd v 4 (v 0)) 0 0) 3 0) 1 0) 2 (-1)) 17 0) 18 0) f w g) H := hP
  have hD : va_D A (YW cy y0 r (upd (upd (upd (upd (upd (upd (upd v 4 (v 0)) 0 0) 3 0) 1 0) 2 (-1)) 17 0) 18 0) f w g) := hD
  refine lv_aload_n hx hb dX11_readAll_38 rfl (lv_at hl 0 rfl) ?_
  refine lv_bipush (v := 10) hx hb dX11_readAll_39 (by decide) ?_
  refine va_put (D := (dC, dI)) (ci := 11) (v := .int 10) (ty := tyX11 43) (C := RX11) (T := TX11) (N := 79) hx hb hts inB_11 tyX11 tyX11_ok nmX11 hown hE.1 hP hD hS 0 rfl rfl 43 (by decide) (hts _ k_1363) (fun _ h9 => h9) rfl (tyX11_ok 43 (by decide)) rfl rfl (Nat.le_of_ble_eq_true rfl) dX11_readAll_41 (fun H locs hP hD hS => ?_)
  have hP : va_P (dC, dI) vwCl (YW cy y0 r (upd (upd (upd (upd (upd (upd (upd (upd v 4 (v 0)) 0 0) 3 0) 1 0) 2 (-1)) 17 0) 18 0) 19 10) f w g) H := hP
  have hD : va_D A (YW cy y0 r (upd (upd (upd (upd (upd (upd (upd (upd v 4 (v 0)) 0 0) 3 0) 1 0) 2 (-1)) 17 0) 18 0) 19 10) f w g) := hD
  refine lv_aload_n hx hb dX11_readAll_44 rfl (lv_at hl 0 rfl) ?_
  refine lv_sipush (v := 150) hx hb dX11_readAll_45 (by decide) ?_
  refine va_put (D := (dC, dI)) (ci := 11) (v := .int 150) (ty := tyX11 44) (C := RX11) (T := TX11) (N := 79) hx hb hts inB_11 tyX11 tyX11_ok nmX11 hown hE.1 hP hD hS 0 rfl rfl 44 (by decide) (hts _ k_1364) (fun _ h9 => h9) rfl (tyX11_ok 44 (by decide)) rfl rfl (Nat.le_of_ble_eq_true rfl) dX11_readAll_48 (fun H locs hP hD hS => ?_)
  have hP : va_P (dC, dI) vwCl (YW cy y0 r (upd (upd (upd (upd (upd (upd (upd (upd (upd v 4 (v 0)) 0 0) 3 0) 1 0) 2 (-1)) 17 0) 18 0) 19 10) 20 150) f w g) H := hP
  have hD : va_D A (YW cy y0 r (upd (upd (upd (upd (upd (upd (upd (upd (upd v 4 (v 0)) 0 0) 3 0) 1 0) 2 (-1)) 17 0) 18 0) 19 10) 20 150) f w g) := hD
  refine lv_aload_n hx hb dX11_readAll_51 rfl (lv_at hl 0 rfl) ?_
  refine lv_iconst (v := 2) hx hb dX11_readAll_52 (by decide) ?_
  refine va_put (D := (dC, dI)) (ci := 11) (v := .int 2) (ty := tyX11 45) (C := RX11) (T := TX11) (N := 79) hx hb hts inB_11 tyX11 tyX11_ok nmX11 hown hE.1 hP hD hS 0 rfl rfl 45 (by decide) (hts _ k_1365) (fun _ h9 => h9) rfl (tyX11_ok 45 (by decide)) rfl rfl (Nat.le_of_ble_eq_true rfl) dX11_readAll_53 (fun H locs hP hD hS => ?_)
  have hP : va_P (dC, dI) vwCl (YW cy y0 r (upd (upd (upd (upd (upd (upd (upd (upd (upd (upd v 4 (v 0)) 0 0) 3 0) 1 0) 2 (-1)) 17 0) 18 0) 19 10) 20 150) 21 2) f w g) H := hP
  have hD : va_D A (YW cy y0 r (upd (upd (upd (upd (upd (upd (upd (upd (upd (upd v 4 (v 0)) 0 0) 3 0) 1 0) 2 (-1)) 17 0) 18 0) 19 10) 20 150) 21 2) f w g) := hD
  refine lv_aload_n hx hb dX11_readAll_56 rfl (lv_at hl 0 rfl) ?_
  refine lv_iconst (v := 0) hx hb dX11_readAll_57 (by decide) ?_
  refine va_put (D := (dC, dI)) (ci := 11) (v := .int 0) (ty := tyX11 46) (C := RX11) (T := TX11) (N := 79) hx hb hts inB_11 tyX11 tyX11_ok nmX11 hown hE.1 hP hD hS 0 rfl rfl 46 (by decide) (hts _ k_1366) (fun _ h9 => h9) rfl (tyX11_ok 46 (by decide)) rfl rfl (Nat.le_of_ble_eq_true rfl) dX11_readAll_58 (fun H locs hP hD hS => ?_)
  have hP : va_P (dC, dI) vwCl (YW cy y0 r (upd (upd (upd (upd (upd (upd (upd (upd (upd (upd (upd v 4 (v 0)) 0 0) 3 0) 1 0) 2 (-1)) 17 0) 18 0) 19 10) 20 150) 21 2) 22 0) f w g) H := hP
  have hD : va_D A (YW cy y0 r (upd (upd (upd (upd (upd (upd (upd (upd (upd (upd (upd v 4 (v 0)) 0 0) 3 0) 1 0) 2 (-1)) 17 0) 18 0) 19 10) 20 150) 21 2) 22 0) f w g) := hD
  refine lv_aload_n hx hb dX11_readAll_61 rfl (lv_at hl 0 rfl) ?_
  refine lv_iconst (v := 0) hx hb dX11_readAll_62 (by decide) ?_
  refine va_put (D := (dC, dI)) (ci := 11) (v := .int 0) (ty := tyX11 47) (C := RX11) (T := TX11) (N := 79) hx hb hts inB_11 tyX11 tyX11_ok nmX11 hown hE.1 hP hD hS 0 rfl rfl 47 (by decide) (hts _ k_1367) (fun _ h9 => h9) rfl (tyX11_ok 47 (by decide)) rfl rfl (Nat.le_of_ble_eq_true rfl) dX11_readAll_63 (fun H locs hP hD hS => ?_)
  have hP : va_P (dC, dI) vwCl (YW cy y0 r (upd (upd (upd (upd (upd (upd (upd (upd (upd (upd (upd (upd v 4 (v 0)) 0 0) 3 0) 1 0) 2 (-1)) 17 0) 18 0) 19 10) 20 150) 21 2) 22 0) 23 0) f w g) H := hP
  have hD : va_D A (YW cy y0 r (upd (upd (upd (upd (upd (upd (upd (upd (upd (upd (upd (upd v 4 (v 0)) 0 0) 3 0) 1 0) 2 (-1)) 17 0) 18 0) 19 10) 20 150) 21 2) 22 0) 23 0) f w g) := hD
  refine lv_aload_n hx hb dX11_readAll_66 rfl (lv_at hl 0 rfl) ?_
  refine lv_iconst (v := 0) hx hb dX11_readAll_67 (by decide) ?_
  refine va_put (D := (dC, dI)) (ci := 11) (v := .int 0) (ty := tyX11 54) (C := RX11) (T := TX11) (N := 79) hx hb hts inB_11 tyX11 tyX11_ok nmX11 hown hE.1 hP hD hS 0 rfl rfl 54 (by decide) (hts _ k_1374) (fun _ h9 => h9) rfl (tyX11_ok 54 (by decide)) rfl rfl (Nat.le_of_ble_eq_true rfl) dX11_readAll_68 (fun H locs hP hD hS => ?_)
  have hP : va_P (dC, dI) vwCl (YW cy y0 r (upd (upd (upd (upd (upd (upd (upd (upd (upd (upd (upd (upd (upd v 4 (v 0)) 0 0) 3 0) 1 0) 2 (-1)) 17 0) 18 0) 19 10) 20 150) 21 2) 22 0) 23 0) 30 0) f w g) H := hP
  have hD : va_D A (YW cy y0 r (upd (upd (upd (upd (upd (upd (upd (upd (upd (upd (upd (upd (upd v 4 (v 0)) 0 0) 3 0) 1 0) 2 (-1)) 17 0) 18 0) 19 10) 20 150) 21 2) 22 0) 23 0) 30 0) f w g) := hD
  refine lv_aload_n hx hb dX11_readAll_71 rfl (lv_at hl 0 rfl) ?_
  refine lv_iconst (v := 0) hx hb dX11_readAll_72 (by decide) ?_
  refine va_put (D := (dC, dI)) (ci := 11) (v := .int 0) (ty := tyX11 55) (C := RX11) (T := TX11) (N := 79) hx hb hts inB_11 tyX11 tyX11_ok nmX11 hown hE.1 hP hD hS 0 rfl rfl 55 (by decide) (hts _ k_1375) (fun _ h9 => h9) rfl (tyX11_ok 55 (by decide)) rfl rfl (Nat.le_of_ble_eq_true rfl) dX11_readAll_73 (fun H locs hP hD hS => ?_)
  have hP : va_P (dC, dI) vwCl (YW cy y0 r (upd (upd (upd (upd (upd (upd (upd (upd (upd (upd (upd (upd (upd (upd v 4 (v 0)) 0 0) 3 0) 1 0) 2 (-1)) 17 0) 18 0) 19 10) 20 150) 21 2) 22 0) 23 0) 30 0) 31 0) f w g) H := hP
  have hD : va_D A (YW cy y0 r (upd (upd (upd (upd (upd (upd (upd (upd (upd (upd (upd (upd (upd (upd v 4 (v 0)) 0 0) 3 0) 1 0) 2 (-1)) 17 0) 18 0) 19 10) 20 150) 21 2) 22 0) 23 0) 30 0) 31 0) f w g) := hD
  refine lv_aload_n hx hb dX11_readAll_76 rfl (lv_at hl 0 rfl) ?_
  refine lv_iconst (v := 0) hx hb dX11_readAll_77 (by decide) ?_
  refine va_put (D := (dC, dI)) (ci := 11) (v := .int 0) (ty := tyX11 56) (C := RX11) (T := TX11) (N := 79) hx hb hts inB_11 tyX11 tyX11_ok nmX11 hown hE.1 hP hD hS 0 rfl rfl 56 (by decide) (hts _ k_1376) (fun _ h9 => h9) rfl (tyX11_ok 56 (by decide)) rfl rfl (Nat.le_of_ble_eq_true rfl) dX11_readAll_78 (fun H locs hP hD hS => ?_)
  have hP : va_P (dC, dI) vwCl (YW cy y0 r (upd (upd (upd (upd (upd (upd (upd (upd (upd (upd (upd (upd (upd (upd (upd v 4 (v 0)) 0 0) 3 0) 1 0) 2 (-1)) 17 0) 18 0) 19 10) 20 150) 21 2) 22 0) 23 0) 30 0) 31 0) 32 0) f w g) H := hP
  have hD : va_D A (YW cy y0 r (upd (upd (upd (upd (upd (upd (upd (upd (upd (upd (upd (upd (upd (upd (upd v 4 (v 0)) 0 0) 3 0) 1 0) 2 (-1)) 17 0) 18 0) 19 10) 20 150) 21 2) 22 0) 23 0) 30 0) 31 0) 32 0) f w g) := hD
  refine lv_aload_n hx hb dX11_readAll_81 rfl (lv_at hl 0 rfl) ?_
  refine lv_iconst (v := 0) hx hb dX11_readAll_82 (by decide) ?_
  refine va_put (D := (dC, dI)) (ci := 11) (v := .int 0) (ty := tyX11 57) (C := RX11) (T := TX11) (N := 79) hx hb hts inB_11 tyX11 tyX11_ok nmX11 hown hE.1 hP hD hS 0 rfl rfl 57 (by decide) (hts _ k_1377) (fun _ h9 => h9) rfl (tyX11_ok 57 (by decide)) rfl rfl (Nat.le_of_ble_eq_true rfl) dX11_readAll_83 (fun H locs hP hD hS => ?_)
  have hP : va_P (dC, dI) vwCl (YW cy y0 r (upd (upd (upd (upd (upd (upd (upd (upd (upd (upd (upd (upd (upd (upd (upd (upd v 4 (v 0)) 0 0) 3 0) 1 0) 2 (-1)) 17 0) 18 0) 19 10) 20 150) 21 2) 22 0) 23 0) 30 0) 31 0) 32 0) 33 0) f w g) H := hP
  have hD : va_D A (YW cy y0 r (upd (upd (upd (upd (upd (upd (upd (upd (upd (upd (upd (upd (upd (upd (upd (upd v 4 (v 0)) 0 0) 3 0) 1 0) 2 (-1)) 17 0) 18 0) 19 10) 20 150) 21 2) 22 0) 23 0) 30 0) 31 0) 32 0) 33 0) f w g) := hD
  refine lv_aload_n hx hb dX11_readAll_86 rfl (lv_at hl 0 rfl) ?_
  refine lv_iconst (v := 0) hx hb dX11_readAll_87 (by decide) ?_
  refine va_put (D := (dC, dI)) (ci := 11) (v := .int 0) (ty := tyX11 58) (C := RX11) (T := TX11) (N := 79) hx hb hts inB_11 tyX11 tyX11_ok nmX11 hown hE.1 hP hD hS 0 rfl rfl 58 (by decide) (hts _ k_1378) (fun _ h9 => h9) rfl (tyX11_ok 58 (by decide)) rfl rfl (Nat.le_of_ble_eq_true rfl) dX11_readAll_88 (fun H locs hP hD hS => ?_)
  have hP : va_P (dC, dI) vwCl (YW cy y0 r (upd (upd (upd (upd (upd (upd (upd (upd (upd (upd (upd (upd (upd (upd (upd (upd (upd v 4 (v 0)) 0 0) 3 0) 1 0) 2 (-1)) 17 0) 18 0) 19 10) 20 150) 21 2) 22 0) 23 0) 30 0) 31 0) 32 0) 33 0) 34 0) f w g) H := hP
  have hD : va_D A (YW cy y0 r (upd (upd (upd (upd (upd (upd (upd (upd (upd (upd (upd (upd (upd (upd (upd (upd (upd v 4 (v 0)) 0 0) 3 0) 1 0) 2 (-1)) 17 0) 18 0) 19 10) 20 150) 21 2) 22 0) 23 0) 30 0) 31 0) 32 0) 33 0) 34 0) f w g) := hD
  refine lv_aload_n hx hb dX11_readAll_91 rfl (lv_at hl 0 rfl) ?_
  refine lv_iconst (v := 0) hx hb dX11_readAll_92 (by decide) ?_
  refine va_put (D := (dC, dI)) (ci := 11) (v := .int 0) (ty := tyX11 24) (C := RX11) (T := TX11) (N := 79) hx hb hts inB_11 tyX11 tyX11_ok nmX11 hown hE.1 hP hD hS 0 rfl rfl 24 (by decide) (hts _ k_1344) (fun _ h9 => h9) rfl (tyX11_ok 24 (by decide)) rfl rfl (Nat.le_of_ble_eq_true rfl) dX11_readAll_93 (fun H locs hP hD hS => ?_)
  have hP : va_P (dC, dI) vwCl (YW cy y0 r (upd (upd (upd (upd (upd (upd (upd (upd (upd (upd (upd (upd (upd (upd (upd (upd (upd (upd v 4 (v 0)) 0 0) 3 0) 1 0) 2 (-1)) 17 0) 18 0) 19 10) 20 150) 21 2) 22 0) 23 0) 30 0) 31 0) 32 0) 33 0) 34 0) 15 0) f w g) H := hP
  have hD : va_D A (YW cy y0 r (upd (upd (upd (upd (upd (upd (upd (upd (upd (upd (upd (upd (upd (upd (upd (upd (upd (upd v 4 (v 0)) 0 0) 3 0) 1 0) 2 (-1)) 17 0) 18 0) 19 10) 20 150) 21 2) 22 0) 23 0) 30 0) 31 0) 32 0) 33 0) 34 0) 15 0) f w g) := hD
  refine lv_aload_n hx hb dX11_readAll_96 rfl (lv_at hl 0 rfl) ?_
  refine lv_iconst (v := 0) hx hb dX11_readAll_97 (by decide) ?_
  refine va_put (D := (dC, dI)) (ci := 11) (v := .int 0) (ty := tyX11 20) (C := RX11) (T := TX11) (N := 79) hx hb hts inB_11 tyX11 tyX11_ok nmX11 hown hE.1 hP hD hS 0 rfl rfl 20 (by decide) (hts _ k_1340) (fun _ h9 => h9) rfl (tyX11_ok 20 (by decide)) rfl rfl (Nat.le_of_ble_eq_true rfl) dX11_readAll_98 (fun H locs hP hD hS => ?_)
  have hP : va_P (dC, dI) vwCl (YW cy y0 r (upd (upd (upd (upd (upd (upd (upd (upd (upd (upd (upd (upd (upd (upd (upd (upd (upd (upd (upd v 4 (v 0)) 0 0) 3 0) 1 0) 2 (-1)) 17 0) 18 0) 19 10) 20 150) 21 2) 22 0) 23 0) 30 0) 31 0) 32 0) 33 0) 34 0) 15 0) 11 0) f w g) H := hP
  have hD : va_D A (YW cy y0 r (upd (upd (upd (upd (upd (upd (upd (upd (upd (upd (upd (upd (upd (upd (upd (upd (upd (upd (upd v 4 (v 0)) 0 0) 3 0) 1 0) 2 (-1)) 17 0) 18 0) 19 10) 20 150) 21 2) 22 0) 23 0) 30 0) 31 0) 32 0) 33 0) 34 0) 15 0) 11 0) f w g) := hD
  refine lv_aload_n hx hb dX11_readAll_101 rfl (lv_at hl 0 rfl) ?_
  refine cbVv (n := 0) (rest := []) hx hb hml hown hts hE hP hD hS hA (sY_X11_token_1 NF l dC dI cy y0 r  (upd (upd (upd (upd (upd (upd (upd (upd (upd (upd (upd (upd (upd (upd (upd (upd (upd (upd (upd v 4 (v 0)) 0 0) 3 0) 1 0) 2 (-1)) 17 0) 18 0) 19 10) 20 150) 21 2) 22 0) 23 0) 30 0) 31 0) 32 0) 33 0) 34 0) 15 0) 11 0) f w g ⟨(YIb.upd (j := 11) (x := 0) (YIb.upd (j := 15) (x := 0) (YIb.upd (j := 34) (x := 0) (YIb.upd (j := 33) (x := 0) (YIb.upd (j := 32) (x := 0) (YIb.upd (j := 31) (x := 0) (YIb.upd (j := 30) (x := 0) (YIb.upd (j := 23) (x := 0) (YIb.upd (j := 22) (x := 0) (YIb.upd (j := 21) (x := 2) (YIb.upd (j := 20) (x := 150) (YIb.upd (j := 19) (x := 10) (YIb.upd (j := 18) (x := 0) (YIb.upd (j := 17) (x := 0) (YIb.upd (j := 2) (x := (-1)) (YIb.upd (j := 1) (x := 0) (YIb.upd (j := 3) (x := 0) (YIb.upd (j := 0) (x := 0) (YIb.upd (j := 4) (x := (v 0)) hIv.1 (show (0 : Int) ≤ (v 0).toInt by omega) (show (v 0).toInt ≤ (1600 : Int) by omega)) (by decide) (by decide)) (by decide) (by decide)) (by decide) (by decide)) (rlo _) (rhi _)) (by decide) (by decide)) (by decide) (by decide)) (rlo _) (rhi _)) (rlo _) (rhi _)) (rlo _) (rhi _)) (rlo _) (rhi _)) (rlo _) (rhi _)) (rlo _) (rhi _)) (rlo _) (rhi _)) (rlo _) (rhi _)) (rlo _) (rhi _)) (rlo _) (rhi _)) (by decide) (by decide)) (rlo _) (rhi _)), hIv.2⟩ hCf hRf ) k_1579 k_1581 k_42 k_114 k_1582 (by decide +kernel) ⟨Nat.le_of_ble_eq_true rfl, Nat.le_of_ble_eq_true rfl⟩ 0 11 rfl rfl (rfl) hl.1 rfl (Nat.le_of_ble_eq_true rfl) dX11_readAll_102 (fun u H locs hw hP hD hS => ?_)
  obtain ⟨hG1, hw⟩ := hw
  obtain ⟨v2, f3, w4, g5⟩ := u
  obtain ⟨kV_v2, kF_f3, hIv2, hCf3, hRf3, hk0_v2, hk1_v2, hk2_v2, hk4_v2, hk8_v2, hk9_v2, hk10_v2, hk13_v2, hk14_v2, hk15_v2, hk17_v2, hk18_v2, hk24_v2, hk25_v2, hk35_v2, hk36_v2, hk38_v2, hk39_v2, pv6, pv7, kq8, kq9, kq10⟩ := hw
  have hM_v2 : KV [0, 1, 2, 3, 4, 5, 6, 7, 8, 10, 11, 13, 14, 15, 17, 18, 19, 20, 21, 22, 23, 30, 31, 32, 33, 34] v2 v := KV.tr kV_v2 (KV.up (j := 11) (x := 0) (KV.up (j := 15) (x := 0) (KV.up (j := 34) (x := 0) (KV.up (j := 33) (x := 0) (KV.up (j := 32) (x := 0) (KV.up (j := 31) (x := 0) (KV.up (j := 30) (x := 0) (KV.up (j := 23) (x := 0) (KV.up (j := 22) (x := 0) (KV.up (j := 21) (x := 2) (KV.up (j := 20) (x := 150) (KV.up (j := 19) (x := 10) (KV.up (j := 18) (x := 0) (KV.up (j := 17) (x := 0) (KV.up (j := 2) (x := (-1)) (KV.up (j := 1) (x := 0) (KV.up (j := 3) (x := 0) (KV.up (j := 0) (x := 0) (KV.up (j := 4) (x := (v 0)) hM_v rfl) rfl) rfl) rfl) rfl) rfl) rfl) rfl) rfl) rfl) rfl) rfl) rfl) rfl) rfl) rfl) rfl) rfl) rfl) rfl
  have hA_f3 : KF [2, 3, 6, 9, 10, 11, 12, 13, 14, 15] f3 f := KF.tr kF_f3 hA_f rfl
  have hP : va_P (dC, dI) vwCl (YW cy y0 r v2 f3 w4 g5) H := hP
  have hD : va_D A (YW cy y0 r v2 f3 w4 g5) := hD
  have b3_v2 : 0 ≤ (v2 3).toInt ∧ (v2 3).toInt ≤ 1600 := YIb.b hIv2.1 3 (by decide)
  have pv6 : (0 : Int32).toInt ≤ (v2 3).toInt := pv6
  have pv7 : (v2 5).toInt = (v 5).toInt ∨ (0 : Int32).toInt < (v2 3).toInt ∨ ¬ (v2 5).toInt = 59 := pv7
  have hs2_f3 : f3 2 = (f 2) := kq8
  have hs3_f3 : f3 3 = (f 3) := kq9
  have hs6_f3 : f3 6 = (f 6) := kq10
  have hUv2 : (v2 35).toInt + (v2 36).toInt ≤ 40 := hIv2.2
  have hq0_v2 : v2 0 = 0 := hk0_v2
  have zq0_v2 : (v2 0).toInt = 0 := by rw [hq0_v2]; decide
  have hq1_v2 : v2 1 = 0 := hk1_v2
  have zq1_v2 : (v2 1).toInt = 0 := by rw [hq1_v2]; decide
  have hq2_v2 : v2 2 = (-1) := hk2_v2
  have zq2_v2 : (v2 2).toInt = -1 := by rw [hq2_v2]; decide
  have hq4_v2 : v2 4 = (v 0) := hk4_v2
  have hq8_v2 : v2 8 = (v 8) := hk8_v2
  have zq8_v2 := congrArg Int32.toInt hq8_v2
  have hq9_v2 : v2 9 = (v 9) := hk9_v2
  have zq9_v2 := congrArg Int32.toInt hq9_v2
  have hq10_v2 : v2 10 = (v 10) := hk10_v2
  have zq10_v2 := congrArg Int32.toInt hq10_v2
  have hq13_v2 : v2 13 = (v 13) := hk13_v2
  have zq13_v2 := congrArg Int32.toInt hq13_v2
  have hq14_v2 : v2 14 = (v 14) := hk14_v2
  have zq14_v2 := congrArg Int32.toInt hq14_v2
  have hq15_v2 : v2 15 = 0 := hk15_v2
  have zq15_v2 : (v2 15).toInt = 0 := by rw [hq15_v2]; decide
  have hq17_v2 : v2 17 = 0 := hk17_v2
  have zq17_v2 : (v2 17).toInt = 0 := by rw [hq17_v2]; decide
  have hq18_v2 : v2 18 = 0 := hk18_v2
  have zq18_v2 : (v2 18).toInt = 0 := by rw [hq18_v2]; decide
  have hq24_v2 : v2 24 = (v 24) := hk24_v2
  have hq25_v2 : v2 25 = (v 25) := hk25_v2
  have hq35_v2 : v2 35 = (v 35) := hk35_v2
  have hq36_v2 : v2 36 = (v 36) := hk36_v2
  have hq38_v2 : v2 38 = (v 38) := hk38_v2
  have hq39_v2 : v2 39 = (v 39) := hk39_v2
  have lp11 : ∀ (n11 : Nat)  (v11 : Nat → Int32) (f11 : Nat → Nat → Int32) (w11 : Int64) (g11 : Nat → Int64), YI v11 → YC f11 → progOK (f11 4) (f11 5) (v11 9).toInt.toNat → v11 0 = 0 → v11 4 = (v 0) → v11 9 = (v 9) → v11 24 = (v 24) → v11 25 = (v 25) → v11 35 = (v 35) → v11 36 = (v 36) → v11 38 = (v 38) → v11 39 = (v 39) → gsY_X11_readAll_1_L11 NF n11 v11 f11 w11 g11 = (gsY_X11_readAll_1 NF v f w g) → (IM0 (v11 1).toInt (IMn (v11 15).toInt (progOK (f11 2) (f11 3) ((v11 8).toInt).toNat))) → KV [0, 1, 2, 3, 4, 5, 6, 7, 8, 10, 11, 13, 14, 15, 17, 18, 19, 20, 21, 22, 23, 30, 31, 32, 33, 34] v11 v → KF [2, 3, 6, 9, 10, 11, 12, 13, 14, 15] f11 f → (2 * (1600 - (v11 3).toInt) + (1 - min (v11 1).toInt 1)).toNat < n11 → ∀ (H : Heap) (locs : List Loc) (ls : Array Slot), va_P (dC, dI) vwCl (YW cy y0 r v11 f11 w11 g11) H → va_D A (YW cy y0 r v11 f11 w11 g11) → va_S A s.heap H locs → lv_has ls 1 [(0, .ref y0)] → W p l e { frames := 8, cells := 0, slots := 0, locals := 212 } s m ([.ref y0] : List Value).toArray below meth c H locs 0 0 Q (F0 m 105 ls []) := by
    intro n11
    induction n11 with
    | zero => intro  v11 f11 w11 g11 hIv11 hCf11 hRf11 hq0_v11 hq4_v11 hq9_v11 hq24_v11 hq25_v11 hq35_v11 hq36_v11 hq38_v11 hq39_v11 hT11 hx0_11 hM_v11 hA_f11 hm; exact absurd hm (Nat.not_lt_zero _)
    | succ n11 ih11 =>
      intro  v11 f11 w11 g11 hIv11 hCf11 hRf11 hq0_v11 hq4_v11 hq9_v11 hq24_v11 hq25_v11 hq35_v11 hq36_v11 hq38_v11 hq39_v11 hT11 hx0_11 hM_v11 hA_f11 hm11 H locs ls hP hD hS hl
      have hUv11 : (v11 35).toInt + (v11 36).toInt ≤ 40 := hIv11.2
      have zq0_v11 : (v11 0).toInt = 0 := by rw [hq0_v11]; decide
      try clear zq0_v2
      have zq9_v11 := congrArg Int32.toInt hq9_v11
      try clear zq9_v2
      have b1_v11 : 0 ≤ (v11 1).toInt ∧ (v11 1).toInt ≤ 4 := YIb.b hIv11.1 1 (by decide)
      have b15_v11 : 0 ≤ (v11 15).toInt ∧ (v11 15).toInt ≤ 1 := YIb.b hIv11.1 15 (by decide)
      have b8_v11 : 0 ≤ (v11 8).toInt ∧ (v11 8).toInt ≤ 320 := YIb.b hIv11.1 8 (by decide)
      have hPL := hx0_11
      refine lv_aload_n hx hb dX11_readAll_105 rfl (lv_at hl 0 rfl) ?_
      refine va_get (D := (dC, dI)) (ci := 11) (v := .int (v11 1)) (C := RX11) (T := TX11) (N := 79) hx hb hts inB_11 hown hE.1 hP 0 rfl rfl 2 (by decide) (hts _ k_1322) (fun _ h9 => h9) rfl dX11_readAll_106 ?_
      refine lv_if_ne (tgt := 126) hx hb dX11_readAll_109 (by decide) (fun c12 => ?_) (fun c12 => ?_)
      · skip
        have zc12 : ¬ ((v11 1).toInt = 0) := by rw [fa_eq, show (0 : Int32).toInt = 0 from by decide] at c12; exact c12
        exact ret (v11, f11, w11, g11) _ _ _ _ _ _ ⟨(hT11.symm.trans (gsY_X11_readAll_1_q0 c12)), hM_v11, hA_f11, hIv11, hCf11, hRf11, hq9_v11, hq24_v11, hq25_v11, hq35_v11, hq36_v11, hq38_v11, hq39_v11, (by show (v11 0).toInt = 0; omega), (by show IM0 (v11 1).toInt (IMn (v11 15).toInt (progOK (f11 2) (f11 3) ((v11 8).toInt).toNat)); exact hPL)⟩ hP hD hS dX11_readAll_126 (Nat.le_refl _) (Nat.le_refl _)
      · skip
        have zc12 : (v11 1).toInt = 0 := by rw [fa_eq, show (0 : Int32).toInt = 0 from by decide] at c12; exact c12
        refine lv_aload_n hx hb dX11_readAll_112 rfl (lv_at hl 0 rfl) ?_
        refine va_get (D := (dC, dI)) (ci := 11) (v := .int (v11 5)) (C := RX11) (T := TX11) (N := 79) hx hb hts inB_11 hown hE.1 hP 0 rfl rfl 6 (by decide) (hts _ k_1326) (fun _ h9 => h9) rfl dX11_readAll_113 ?_
        refine lv_if_eq (tgt := 126) hx hb dX11_readAll_116 (by decide) (fun c13 => ?_) (fun c13 => ?_)
        · skip
          have zc13 : (v11 5).toInt = 0 := by rw [fa_eq, show (0 : Int32).toInt = 0 from by decide] at c13; exact c13
          exact ret (v11, f11, w11, g11) _ _ _ _ _ _ ⟨(hT11.symm.trans (gsY_X11_readAll_1_q1 c12 c13)), hM_v11, hA_f11, hIv11, hCf11, hRf11, hq9_v11, hq24_v11, hq25_v11, hq35_v11, hq36_v11, hq38_v11, hq39_v11, (by show (v11 0).toInt = 0; omega), (by show IM0 (v11 1).toInt (IMn (v11 15).toInt (progOK (f11 2) (f11 3) ((v11 8).toInt).toNat)); exact hPL)⟩ hP hD hS dX11_readAll_126 (Nat.le_refl _) (Nat.le_refl _)
        · skip
          have zc13 : ¬ ((v11 5).toInt = 0) := by rw [fa_eq, show (0 : Int32).toInt = 0 from by decide] at c13; exact c13
          refine lv_aload_n hx hb dX11_readAll_119 rfl (lv_at hl 0 rfl) ?_
          refine cbVv (n := 0) (rest := []) hx hb hml hown hts hE hP hD hS hA (sY_X11_readLine_1 NF l dC dI cy y0 r  v11 f11 w11 g11 hIv11 hCf11 hRf11 (by show (v11 1).toInt = 0; omega) (by show IMn (v11 15).toInt (progOK (f11 2) (f11 3) ((v11 8).toInt).toNat); exact hPL (by omega))) k_1596 k_1598 k_44 k_114 k_1599 (by decide +kernel) ⟨Nat.le_of_ble_eq_true rfl, Nat.le_of_ble_eq_true rfl⟩ 0 11 rfl rfl (rfl) hl.1 rfl (Nat.le_of_ble_eq_true rfl) dX11_readAll_120 (fun u H locs hw hP hD hS => ?_)
          obtain ⟨hG14, hw⟩ := hw
          obtain ⟨v15, f16, w17, g18⟩ := u
          obtain ⟨kV_v15, kF_f16, hIv15, hCf16, hRf16, hk0_v15, hk4_v15, hk9_v15, hk24_v15, hk25_v15, hk35_v15, hk36_v15, hk38_v15, hk39_v15, pg19, pg20⟩ := hw
          have hM_v15 : KV [0, 1, 2, 3, 4, 5, 6, 7, 8, 10, 11, 13, 14, 15, 17, 18, 19, 20, 21, 22, 23, 30, 31, 32, 33, 34] v15 v := KV.tr kV_v15 hM_v11 rfl
          have hA_f16 : KF [2, 3, 6, 9, 10, 11, 12, 13, 14, 15] f16 f := KF.tr kF_f16 hA_f11 rfl
          have hP : va_P (dC, dI) vwCl (YW cy y0 r v15 f16 w17 g18) H := hP
          have hD : va_D A (YW cy y0 r v15 f16 w17 g18) := hD
          have b1_v15 : 0 ≤ (v15 1).toInt ∧ (v15 1).toInt ≤ 4 := YIb.b hIv15.1 1 (by decide)
          have b3_v15 : 0 ≤ (v15 3).toInt ∧ (v15 3).toInt ≤ 1600 := YIb.b hIv15.1 3 (by decide)
          have b15_v15 : 0 ≤ (v15 15).toInt ∧ (v15 15).toInt ≤ 1 := YIb.b hIv15.1 15 (by decide)
          have b8_v15 : 0 ≤ (v15 8).toInt ∧ (v15 8).toInt ≤ 320 := YIb.b hIv15.1 8 (by decide)
          have pg19 : GA (v15 1).toInt (v11 3).toInt (v15 3).toInt := pg19
          have pg20 : IM0 (v15 1).toInt (IMn (v15 15).toInt (progOK (f16 2) (f16 3) ((v15 8).toInt).toNat)) := pg20
          have hUv15 : (v15 35).toInt + (v15 36).toInt ≤ 40 := hIv15.2
          have hq0_v15 : v15 0 = 0 := hk0_v15.trans hq0_v11
          have zq0_v15 : (v15 0).toInt = 0 := by rw [hq0_v15]; decide
          try clear zq0_v11
          have hq4_v15 : v15 4 = (v 0) := hk4_v15.trans hq4_v11
          have hq9_v15 : v15 9 = (v 9) := hk9_v15.trans hq9_v11
          have zq9_v15 := congrArg Int32.toInt hq9_v15
          try clear zq9_v11
          have hq24_v15 : v15 24 = (v 24) := hk24_v15.trans hq24_v11
          have hq25_v15 : v15 25 = (v 25) := hk25_v15.trans hq25_v11
          have hq35_v15 : v15 35 = (v 35) := hk35_v15.trans hq35_v11
          have hq36_v15 : v15 36 = (v 36) := hk36_v15.trans hq36_v11
          have hq38_v15 : v15 38 = (v 38) := hk38_v15.trans hq38_v11
          have hq39_v15 : v15 39 = (v 39) := hk39_v15.trans hq39_v11
          have hPL := pg20
          have hga := GA.or pg19
          refine lv_goto (tgt := 105) hx hb dX11_readAll_123 (by decide) ?_
          exact ih11  v15 f16 w17 g18 hIv15 hCf16 hRf16 hq0_v15 hq4_v15 hq9_v15 hq24_v15 hq25_v15 hq35_v15 hq36_v15 hq38_v15 hq39_v15 ((gsY_X11_readAll_1_q2 c12 c13 hG14).symm.trans hT11) (by show IM0 (v15 1).toInt (IMn (v15 15).toInt (progOK (f16 2) (f16 3) ((v15 8).toInt).toNat)); exact hPL) hM_v15 hA_f16 (by show (2 * (1600 - (v15 3).toInt) + (1 - min (v15 1).toInt 1)).toNat < n11; omega) _ _ _ hP hD hS (lv_sub hl [0] rfl)
  exact lp11 (4294967296 + NF)  v2 f3 w4 g5 hIv2 hCf3 hRf3 hq0_v2 hq4_v2 hq9_v2 hq24_v2 hq25_v2 hq35_v2 hq36_v2 hq38_v2 hq39_v2 (gsY_X11_readAll_1_q3 hG1).symm (by show IM0 (v2 1).toInt (IMn (v2 15).toInt (progOK (f3 2) (f3 3) ((v2 8).toInt).toNat)); rw [hs2_f3, hs3_f3]; intro hz8 hz9; exfalso; omega) hM_v2 hA_f3 (by have qr0 := fb_rng (v2 1); have qr1 := fb_rng (v2 3); show (2 * (1600 - (v2 3).toInt) + (1 - min (v2 1).toInt 1)).toNat < 4294967296 + NF; omega) _ _ _ hP hD hS (lv_sub hl [0] rfl)
