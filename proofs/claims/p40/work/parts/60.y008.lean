set_option maxHeartbeats 4000000 in
set_option maxRecDepth 100000 in
theorem sY_X11_readAll_1 (NF : Nat) (l : Launch) (dC : Nat → ClassId) (dI : Nat → Nat → Nat) (cy : Nat → ClassId) (y0 : Nat) (r : Nat → Nat)  (v : Nat → Int32) (f : Nat → Nat → Int32) (w : Int64) (g : Nat → Int64) (hIv : YI v) (hCf : YC f) (hRf : progOK (f 4) (f 5) (v 9).toInt.toNat)  : ctV l (dC, dI) cy yX11_readAll cX11_readAll 1 8 212 0 0 ((Nat → Int32) × (Nat → Nat → Int32) × (Int64) × (Nat → Int64)) [.ref y0] (YW cy y0 r v f w g) (fun u => gsY_X11_readAll_1 NF v f w g = u ∧ KV [0, 1, 2, 3, 4, 5, 6, 7, 8, 10, 11, 13, 14, 15, 17, 18, 19, 20, 21, 22, 23, 30, 31, 32, 33, 34] u.1 v ∧ KF [2, 3, 6, 9, 10, 11, 12, 13, 14, 15] u.2.1 f ∧ YI u.1 ∧ YC u.2.1 ∧ progOK (u.2.1 4) (u.2.1 5) (u.1 9).toInt.toNat ∧ u.1 9 = v 9 ∧ u.1 24 = v 24 ∧ u.1 25 = v 25 ∧ u.1 35 = v 35 ∧ u.1 36 = v 36 ∧ u.1 38 = v 38 ∧ u.1 39 = v 39 ∧ ((u.1 0).toInt = 0) ∧ (IM0 (u.1 1).toInt (IMn (u.1 15).toInt (progOK (u.2.1 2) (u.2.1 3) ((u.1 8).toInt).toNat)))) (fun u => YW cy y0 r u.1 u.2.1 u.2.2.1 u.2.2.2) := by
  refine ctV_of (by decide) (Nat.le_of_ble_eq_true rfl) (fun p e s m below meth c A ls Q hx hb hml hts hown hnm hE hP hD hA hl ret => ?_)
  have hUv : (v 35).toInt + (v 36).toInt ≤ 40 := hIv.2
  have hM_v : KV [0, 1, 2, 3, 4, 5, 6, 7, 8, 10, 11, 13, 14, 15, 17, 18, 19, 20, 21, 22, 23, 30, 31, 32, 33, 34] v v := fun _ _ => rfl
  have hA_f : KF [2, 3, 6, 9, 10, 11, 12, 13, 14, 15] f f := fun _ _ => rfl
  have b0_v : (0 : Int) ≤ (v 0).toInt ∧ (v 0).toInt ≤ 1600 := YIb.b hIv.1 0 (by decide)
  have b1_v : (0 : Int) ≤ (v 1).toInt ∧ (v 1).toInt ≤ 4 := YIb.b hIv.1 1 (by decide)
  have b8_v : (0 : Int) ≤ (v 8).toInt ∧ (v 8).toInt ≤ 320 := YIb.b hIv.1 8 (by decide)
  have b10_v : (0 : Int) ≤ (v 10).toInt ∧ (v 10).toInt ≤ 160 := YIb.b hIv.1 10 (by decide)
  have b13_v : (0 : Int) ≤ (v 13).toInt ∧ (v 13).toInt ≤ 31 := YIb.b hIv.1 13 (by decide)
  have b14_v : (0 : Int) ≤ (v 14).toInt ∧ (v 14).toInt ≤ 8 := YIb.b hIv.1 14 (by decide)
  have b15_v : (0 : Int) ≤ (v 15).toInt ∧ (v 15).toInt ≤ 1 := YIb.b hIv.1 15 (by decide)
  have b17_v : (0 : Int) ≤ (v 17).toInt ∧ (v 17).toInt ≤ 6 := YIb.b hIv.1 17 (by decide)
  have b18_v : (0 : Int) ≤ (v 18).toInt ∧ (v 18).toInt ≤ 6 := YIb.b hIv.1 18 (by decide)
  have hown : s.vm.findClass RX11 = some m.cls := hown
  have hS : va_S A s.heap s.heap [] := va_S.rf
  have hl : lv_has ls 1 [(0, .ref y0)] := hl
  refine lv_aload_n hx hb dX11_readAll_0 rfl (lv_at hl 0 rfl) ?_
  refine lv_aload_n hx hb dX11_readAll_1 rfl (lv_at hl 0 rfl) ?_
  refine va_get (D := (dC, dI)) (ci := 11) (v := .int (v 0)) (C := RX11) (T := TX11) (N := 79) hx hb hts inB_11 hown hE.1 hP 0 rfl rfl 1 (by decide) (hts _ k_1321) (fun _ h9 => h9) rfl dX11_readAll_2 ?_
  have b0_v : 0 ≤ (v 0).toInt ∧ (v 0).toInt ≤ 1600 := YIb.b hIv.1 0 (by decide)
  refine va_put (D := (dC, dI)) (ci := 11) (v := .int (v 0)) (ty := tyX11 5) (C := RX11) (T := TX11) (N := 79) hx hb hts inB_11 tyX11 tyX11_ok nmX11 hown hE.1 hP hD hS 0 rfl rfl 5 (by decide) (hts _ k_1325) (fun _ h9 => h9) rfl (tyX11_ok 5 (by decide)) rfl rfl (Nat.le_of_ble_eq_true rfl) dX11_readAll_5 (fun H locs hP hD hS => ?_)
  have hP : va_P (dC, dI) vwCl (YW cy y0 r (upd v 4 (v 0)) f w g) H := hP
  have hD : va_D A (YW cy y0 r (upd v 4 (v 0)) f w g) := hD
  refine lv_aload_n hx hb dX11_readAll_8 rfl (lv_at hl 0 rfl) ?_
  refine lv_iconst (v := 0) hx hb dX11_readAll_9 (by decide) ?_
  refine va_put (D := (dC, dI)) (ci := 11) (v := .int 0) (ty := tyX11 1) (C := RX11) (T := TX11) (N := 79) hx hb hts inB_11 tyX11 tyX11_ok nmX11 hown hE.1 hP hD hS 0 rfl rfl 1 (by decide) (hts _ k_1321) (fun _ h9 => h9) rfl (tyX11_ok 1 (by decide)) rfl rfl (Nat.le_of_ble_eq_true rfl) dX11_readAll_10 (fun H locs hP hD hS => ?_)
  have hP : va_P (dC, dI) vwCl (YW cy y0 r (upd (upd v 4 (v 0)) 0 0) f w g) H := hP
  have hD : va_D A (YW cy y0 r (upd (upd v 4 (v 0)) 0 0) f w g) := hD
  refine lv_aload_n hx hb dX11_readAll_13 rfl (lv_at hl 0 rfl) ?_
  refine lv_iconst (v := 0) hx hb dX11_readAll_14 (by decide) ?_
  refine va_put (D := (dC, dI)) (ci := 11) (v := .int 0) (ty := tyX11 4) (C := RX11) (T := TX11) (N := 79) hx hb hts inB_11 tyX11 tyX11_ok nmX11 hown hE.1 hP hD hS 0 rfl rfl 4 (by decide) (hts _ k_1324) (fun _ h9 => h9) rfl (tyX11_ok 4 (by decide)) rfl rfl (Nat.le_of_ble_eq_true rfl) dX11_readAll_15 (fun H locs hP hD hS => ?_)
  have hP : va_P (dC, dI) vwCl (YW cy y0 r (upd (upd (upd v 4 (v 0)) 0 0) 3 0) f w g) H := hP
  have hD : va_D A (YW cy y0 r (upd (upd (upd v 4 (v 0)) 0 0) 3 0) f w g) := hD
  refine lv_aload_n hx hb dX11_readAll_18 rfl (lv_at hl 0 rfl) ?_
  refine lv_iconst (v := 0) hx hb dX11_readAll_19 (by decide) ?_
  refine va_put (D := (dC, dI)) (ci := 11) (v := .int 0) (ty := tyX11 2) (C := RX11) (T := TX11) (N := 79) hx hb hts inB_11 tyX11 tyX11_ok nmX11 hown hE.1 hP hD hS 0 rfl rfl 2 (by decide) (hts _ k_1322) (fun _ h9 => h9) rfl (tyX11_ok 2 (by decide)) rfl rfl (Nat.le_of_ble_eq_true rfl) dX11_readAll_20 (fun H locs hP hD hS => ?_)
  have hP : va_P (dC, dI) vwCl (YW cy y0 r (upd (upd (upd (upd v 4 (v 0)) 0 0) 3 0) 1 0) f w g) H := hP
  have hD : va_D A (YW cy y0 r (upd (upd (upd (upd v 4 (v 0)) 0 0) 3 0) 1 0) f w g) := hD
  refine lv_aload_n hx hb dX11_readAll_23 rfl (lv_at hl 0 rfl) ?_
  refine lv_iconst (v := (-1)) hx hb dX11_readAll_24 (by decide) ?_
  refine va_put (D := (dC, dI)) (ci := 11) (v := .int (-1)) (ty := tyX11 3) (C := RX11) (T := TX11) (N := 79) hx hb hts inB_11 tyX11 tyX11_ok nmX11 hown hE.1 hP hD hS 0 rfl rfl 3 (by decide) (hts _ k_1323) (fun _ h9 => h9) rfl (tyX11_ok 3 (by decide)) rfl rfl (Nat.le_of_ble_eq_true rfl) dX11_readAll_25 (fun H locs hP hD hS => ?_)
  have hP : va_P (dC, dI) vwCl (YW cy y0 r (upd (upd (upd (upd (upd v 4 (v 0)) 0 0) 3 0) 1 0) 2 (-1)) f w g) H := hP
  have hD : va_D A (YW cy y0 r (upd (upd (upd (upd (upd v 4 (v 0)) 0 0) 3 0) 1 0) 2 (-1)) f w g) := hD
  refine lv_aload_n hx hb dX11_readAll_28 rfl (lv_at hl 0 rfl) ?_
  refine lv_iconst (v := 0) hx hb dX11_readAll_29 (by decide) ?_
  refine va_put (D := (dC, dI)) (ci := 11) (v := .int 0) (ty := tyX11 41) (C := RX11) (T := TX11) (N := 79) hx hb hts inB_11 tyX11 tyX11_ok nmX11 hown hE.1 hP hD hS 0 rfl rfl 41 (by decide) (hts _ k_1361) (fun _ h9 => h9) rfl (tyX11_ok 41 (by decide)) rfl rfl (Nat.le_of_ble_eq_true rfl) dX11_readAll_30 (fun H locs hP hD hS => ?_)
  have hP : va_P (dC, dI) vwCl (YW cy y0 r (upd (upd (upd (upd (upd (upd v 4 (v 0)) 0 0) 3 0) 1 0) 2 (-1)) 17 0) f w g) H := hP
  have hD : va_D A (YW cy y0 r (upd (upd (upd (upd (upd (upd v 4 (v 0)) 0 0) 3 0) 1 0) 2 (-1)) 17 0) f w g) := hD
  refine lv_aload_n hx hb dX11_readAll_33 rfl (lv_at hl 0 rfl) ?_
  refine lv_iconst (v := 0) hx hb dX11_readAll_34 (by decide) ?_
  refine va_put (D := (dC, dI)) (ci := 11) (v := .int 0) (ty := tyX11 42) (C := RX11) (T := TX11) (N := 79) hx hb hts inB_11 tyX11 tyX11_ok nmX11 hown hE.1 hP hD hS 0 rfl rfl 42 (by decide) (hts _ k_1362) (fun _ h9 => h9) rfl (tyX11_ok 42 (by decide)) rfl rfl (Nat.le_of_ble_eq_true rfl) dX11_readAll_35 (fun H locs hP hD hS => ?_)
  have hP : va_P (dC, dI) vwCl (YW cy y0 r (upd (upd (upd (upd (upd (upd (upd v 4 (v 0)) 0 0) 3 0) 1 0) 2 (-1)) 17 0) 18 0) f w g) H := hP
  have hD : va_D A (YW cy y0 r (upd (upd (upd (upd (upd (upd (upd v 4 (v 0)) 0 0) 3 0) 1 0) 2 (-1)) 17 0) 18 0) f w g) := hD
  refine lv_aload_n hx hb dX11_readAll_38 rfl (lv_at hl 0 rfl) ?_
  refine lv_bipush (v := 10) hx hb dX11_readAll_39 (by decide) ?_
  refine va_put (D := (dC, dI)) (ci := 11) (v := .int 10) (ty := tyX11 43) (C := RX11) (T := TX11) (N := 79) hx hb hts inB_11 tyX11 tyX11_ok nmX11 hown hE.1 hP hD hS 0 rfl rfl 43 (by decide) (hts _ k_1363) (fun _ h9 => h9) rfl (tyX11_ok 43 (by decide)) rfl rfl (Nat.le_of_ble_eq_true rfl) dX11_readAll_41 (fun H locs hP hD hS => ?_)
  have hP : va_P (dC, dI) vwCl (YW cy y0 r (upd (upd (upd (upd (upd (upd (upd (upd v 4 (v 0)) 0 0) 3 0) 1 0) 2 (-1)) 17 0) 18 0) 19 10) f w g) H := hP
  have hD : va_D A (YW cy y0 r (upd (upd (upd (upd (upd (upd (upd (upd v 4 (v 0)) 0 0) 3 0) 1 0) 2 (-1)) 17 0) 18 0) 19 10) f w g) := hD
  refine lv_aload_n hx hb dX11_readAll_44 rfl (lv_at hl 0 rfl) ?_
  refine lv_sipush (v := 150) hx hb dX11_readAll_45 (by decide) ?_
  refine va_put (D := (dC, dI)) (ci := 11) (v := .int 150) (ty := tyX11 44) (C := RX11) (T := TX11) (N := 79) hx hb hts inB_11 tyX11 tyX11_ok nmX11 hown hE.1 hP hD hS 0 rfl rfl 44 (by decide) (hts _ k_1364) (fun _ h9 => h9) rfl (tyX11_ok 44 (by decide)) rfl rfl (Nat.le_of_ble_eq_true rfl) dX11_readAll_48 (fun H locs hP hD hS => ?_)
  have hP : va_P (dC, dI) vwCl (YW cy y0 r (upd (upd (upd (upd (upd (upd (upd (upd (upd v 4 (v 0)) 0 0) 3 0) 1 0) 2 (-1)) 17 0) 18 0) 19 10) 20 150) f w g) H := hP
  have hD : va_D A (YW cy y0 r (upd (upd (upd (upd (upd (upd (upd (upd (upd v 4 (v 0)) 0 0) 3 0) 1 0) 2 (-1)) 17 0) 18 0) 19 10) 20 150) f w g) := hD
  refine lv_aload_n hx hb dX11_readAll_51 rfl (lv_at hl 0 rfl) ?_
  refine lv_iconst (v := 2) hx hb dX11_readAll_52 (by decide) ?_
  refine va_put (D := (dC, dI)) (ci := 11) (v := .int 2) (ty := tyX11 45) (C := RX11) (T := TX11) (N := 79) hx hb hts inB_11 tyX11 tyX11_ok nmX11 hown hE.1 hP hD hS 0 rfl rfl 45 (by decide) (hts _ k_1365) (fun _ h9 => h9) rfl (tyX11_ok 45 (by decide)) rfl rfl (Nat.le_of_ble_eq_true rfl) dX11_readAll_53 (fun H locs hP hD hS => ?_)
  have hP : va_P (dC, dI) vwCl (YW cy y0 r (upd (upd (upd (upd (upd (upd (upd (upd (upd (upd v 4 (v 0)) 0 0) 3 0) 1 0) 2 (-1)) 17 0) 18 0) 19 10) 20 150) 21 2) f w g) H := hP
  have hD : va_D A (YW cy y0 r (upd (upd (upd (upd (upd (upd (upd (upd (upd (upd v 4 (v 0)) 0 0) 3 0) 1 0) 2 (-1)) 17 0) 18 0) 19 10) 20 150) 21 2) f w g) := hD
  refine lv_aload_n hx hb dX11_readAll_56 rfl (lv_at hl 0 rfl) ?_
  refine lv_iconst (v := 0) hx hb dX11_readAll_57 (by decide) ?_
  refine va_put (D := (dC, dI)) (ci := 11) (v := .int 0) (ty := tyX11 46) (C := RX11) (T := TX11) (N := 79) hx hb hts inB_11 tyX11 tyX11_ok nmX11 hown hE.1 hP hD hS 0 rfl rfl 46 (by decide) (hts _ k_1366) (fun _ h9 => h9) rfl (tyX11_ok 46 (by decide)) rfl rfl (Nat.le_of_ble_eq_true rfl) dX11_readAll_58 (fun H locs hP hD hS => ?_)
  have hP : va_P (dC, dI) vwCl (YW cy y0 r (upd (upd (upd (upd (upd (upd (upd (upd (upd (upd (upd v 4 (v 0)) 0 0) 3 0) 1 0) 2 (-1)) 17 0) 18 0) 19 10) 20 150) 21 2) 22 0) f w g) H := hP
  have hD : va_D A (YW cy y0 r (upd (upd (upd (upd (upd (upd (upd (upd (upd (upd (upd v 4 (v 0)) 0 0) 3 0) 1 0) 2 (-1)) 17 0) 18 0) 19 10) 20 150) 21 2) 22 0) f w g) := hD
  refine lv_aload_n hx hb dX11_readAll_61 rfl (lv_at hl 0 rfl) ?_
  refine lv_iconst (v := 0) hx hb dX11_readAll_62 (by decide) ?_
  refine va_put (D := (dC, dI)) (ci := 11) (v := .int 0) (ty := tyX11 47) (C := RX11) (T := TX11) (N := 79) hx hb hts inB_11 tyX11 tyX11_ok nmX11 hown hE.1 hP hD hS 0 rfl rfl 47 (by decide) (hts _ k_1367) (fun _ h9 => h9) rfl (tyX11_ok 47 (by decide)) rfl rfl (Nat.le_of_ble_eq_true rfl) dX11_readAll_63 (fun H locs hP hD hS => ?_)
  have hP : va_P (dC, dI) vwCl (YW cy y0 r (upd (upd (upd (upd (upd (upd (upd (upd (upd (upd (upd (upd v 4 (v 0)) 0 0) 3 0) 1 0) 2 (-1)) 17 0) 18 0) 19 10) 20 150) 21 2) 22 0) 23 0) f w g) H := hP
  have hD : va_D A (YW cy y0 r (upd (upd (upd (upd (upd (upd (upd (upd (upd (upd (upd (upd v 4 (v 0)) 0 0) 3 0) 1 0) 2 (-1)) 17 0) 18 0) 19 10) 20 150) 21 2) 22 0) 23 0) f w g) := hD
  refine lv_aload_n hx hb dX11_readAll_66 rfl (lv_at hl 0 rfl) ?_
  refine lv_iconst (v := 0) hx hb dX11_readAll_67 (by decide) ?_
  refine va_put (D := (dC, dI)) (ci := 11) (v := .int 0) (ty := tyX11 54) (C := RX11) (T := TX11) (N := 79) hx hb hts inB_11 tyX11 tyX11_ok nmX11 hown hE.1 hP hD hS 0 rfl rfl 54 (by decide) (hts _ k_1374) (fun _ h9 => h9) rfl (tyX11_ok 54 (by decide)) rfl rfl (Nat.le_of_ble_eq_true rfl) dX11_readAll_68 (fun H locs hP hD hS => ?_)
  have hP : va_P (dC, dI) vwCl (YW cy y0 r (upd (upd (upd (upd (upd (upd (upd (upd (upd (upd (upd (upd (upd v 4 (v 0)) 0 0) 3 0) 1 0) 2 (-1)) 17 0) 18 0) 19 10) 20 150) 21 2) 22 0) 23 0) 30 0) f w g) H := hP
  have hD : va_D A (YW cy y0 r (upd (upd (upd (upd (upd (upd (upd (upd (upd (upd (upd (upd (upd v 4 (v 0)) 0 0) 3 0) 1 0) 2 (-1)) 17 0) 18 0) 19 10) 20 150) 21 2) 22 0) 23 0) 30 0) f w g) := hD
  refine lv_aload_n hx hb dX11_readAll_71 rfl (lv_at hl 0 rfl) ?_
  refine lv_iconst (v := 0) hx hb dX11_readAll_72 (by decide) ?_
  refine va_put (D := (dC, dI)) (ci := 11) (v := .int 0) (ty := tyX11 55) (C := RX11) (T := TX11) (N := 79) hx hb hts inB_11 tyX11 tyX11_ok nmX11 hown hE.1 hP hD hS 0 rfl rfl 55 (by decide) (hts _ k_1375) (fun _ h9 => h9) rfl (tyX11_ok 55 (by decide)) rfl rfl (Nat.le_of_ble_eq_true rfl) dX11_readAll_73 (fun H locs hP hD hS => ?_)
  have hP : va_P (dC, dI) vwCl (YW cy y0 r (upd (upd (upd (upd (upd (upd (upd (upd (upd (upd (upd (upd (upd (upd v 4 (v 0)) 0 0) 3 0) 1 0) 2 (-1)) 17 0) 18 0) 19 10) 20 150) 21 2) 22 0) 23 0) 30 0) 31 0) f w g) H := hP
  have hD : va_D A (YW cy y0 r (upd (upd (upd (upd (upd (upd (upd (upd (upd (upd (upd (upd (upd (upd v 4 (v 0)) 0 0) 3 0) 1 0) 2 (-1)) 17 0) 18 0) 19 10) 20 150) 21 2) 22 0) 23 0) 30 0) 31 0) f w g) := hD
  refine lv_aload_n hx hb dX11_readAll_76 rfl (lv_at hl 0 rfl) ?_
  refine lv_iconst (v := 0) hx hb dX11_readAll_77 (by decide) ?_
  refine va_put (D := (dC, dI)) (ci := 11) (v := .int 0) (ty := tyX11 56) (C := RX11) (T := TX11) (N := 79) hx hb hts inB_11 tyX11 tyX11_ok nmX11 hown hE.1 hP hD hS 0 rfl rfl 56 (by decide) (hts _ k_1376) (fun _ h9 => h9) rfl (tyX11_ok 56 (by decide)) rfl rfl (Nat.le_of_ble_eq_true rfl) dX11_readAll_78 (fun H locs hP hD hS => ?_)
  have hP : va_P (dC, dI) vwCl (YW cy y0 r (upd (upd (upd (upd (upd (upd (upd (upd (upd (upd (upd (upd (upd (upd (upd v 4 (v 0)) 0 0) 3 0) 1 0) 2 (-1)) 17 0) 18 0) 19 10) 20 150) 21 2) 22 0) 23 0) 30 0) 31 0) 32 0) f w g) H := hP
  have hD : va_D A (YW cy y0 r (upd (upd (upd (upd (upd (upd (upd (upd (upd (upd (upd (upd (upd (upd (upd v 4 (v 0)) 0 0) 3 0) 1 0) 2 (-1)) 17 0) 18 0) 19 10) 20 150) 21 2) 22 0) 23 0) 30 0) 31 0) 32 0) f w g) := hD
  refine lv_aload_n hx hb dX11_readAll_81 rfl (lv_at hl 0 rfl) ?_
  refine lv_iconst (v := 0) hx hb dX11_readAll_82 (by decide) ?_
  refine va_put (D := (dC, dI)) (ci := 11) (v := .int 0) (ty := tyX11 57) (C := RX11) (T := TX11) (N := 79) hx hb hts inB_11 tyX11 tyX11_ok nmX11 hown hE.1 hP hD hS 0 rfl rfl 57 (by decide) (hts _ k_1377) (fun _ h9 => h9) rfl (tyX11_ok 57 (by decide)) rfl rfl (Nat.le_of_ble_eq_true rfl) dX11_readAll_83 (fun H locs hP hD hS => ?_)
  have hP : va_P (dC, dI) vwCl (YW cy y0 r (upd (upd (upd (upd (upd (upd (upd (upd (upd (upd (upd (upd (upd (upd (upd (upd v 4 (v 0)) 0 0) 3 0) 1 0) 2 (-1)) 17 0) 18 0) 19 10) 20 150) 21 2) 22 0) 23 0) 30 0) 31 0) 32 0) 33 0) f w g) H := hP
  have hD : va_D A (YW cy y0 r (upd (upd (upd (upd (upd (upd (upd (upd (upd (upd (upd (upd (upd (upd (upd (upd v 4 (v 0)) 0 0) 3 0) 1 0) 2 (-1)) 17 0) 18 0) 19 10) 20 150) 21 2) 22 0) 23 0) 30 0) 31 0) 32 0) 33 0) f w g) := hD
  refine lv_aload_n hx hb dX11_readAll_86 rfl (lv_at hl 0 rfl) ?_
  refine lv_iconst (v := 0) hx hb dX11_readAll_87 (by decide) ?_
  refine va_put (D := (dC, dI)) (ci := 11) (v := .int 0) (ty := tyX11 58) (C := RX11) (T := TX11) (N := 79) hx hb hts inB_11 tyX11 tyX11_ok nmX11 hown hE.1 hP hD hS 0 rfl rfl 58 (by decide) (hts _ k_1378) (fun _ h9 => h9) rfl (tyX11_ok 58 (by decide)) rfl rfl (Nat.le_of_ble_eq_true rfl) dX11_readAll_88 (fun H locs hP hD hS => ?_)
  have hP : va_P (dC, dI) vwCl (YW cy y0 r (upd (upd (upd (upd (upd (upd (upd (upd (upd (upd (upd (upd (upd (upd (upd (upd (upd v 4 (v 0)) 0 0) 3 0) 1 0) 2 (-1)) 17 0) 18 0) 19 10) 20 150) 21 2) 22 0) 23 0) 30 0) 31 0) 32 0) 33 0) 34 0) f w g) H := hP
  have hD : va_D A (YW cy y0 r (upd (upd (upd (upd (upd (upd (upd (upd (upd (upd (upd (upd (upd (upd (upd (upd (upd v 4 (v 0)) 0 0) 3 0) 1 0) 2 (-1)) 17 0) 18 0) 19 10) 20 150) 21 2) 22 0) 23 0) 30 0) 31 0) 32 0) 33 0) 34 0) f w g) := hD
  refine lv_aload_n hx hb dX11_readAll_91 rfl (lv_at hl 0 rfl) ?_
  refine lv_iconst (v := 0) hx hb dX11_readAll_92 (by decide) ?_
  refine va_put (D := (dC, dI)) (ci := 11) (v := .int 0) (ty := tyX11 24) (C := RX11) (T := TX11) (N := 79) hx hb hts inB_11 tyX11 tyX11_ok nmX11 hown hE.1 hP hD hS 0 rfl rfl 24 (by decide) (hts _ k_1344) (fun _ h9 => h9) rfl (tyX11_ok 24 (by decide)) rfl rfl (Nat.le_of_ble_eq_true rfl) dX11_readAll_93 (fun H locs hP hD hS => ?_)
  have hP : va_P (dC, dI) vwCl (YW cy y0 r (upd (upd (upd (upd (upd (upd (upd (upd (upd (upd (upd (upd (upd (upd (upd (upd (upd (upd v 4 (v 0)) 0 0) 3 0) 1 0) 2 (-1)) 17 0) 18 0) 19 10) 20 150) 21 2) 22 0) 23 0) 30 0) 31 0) 32 0) 33 0) 34 0) 15 0) f w g) H := hP
  have hD : va_D A (YW cy y0 r (upd (upd (upd (upd (upd (upd (upd (upd (upd (upd (upd (upd (upd (upd (upd (upd (upd (upd v 4 (v 0)) 0 0) 3 0) 1 0) 2 (-1)) 17 0) 18 0) 19 10) 20 150) 21 2) 22 0) 23 0) 30 0) 31 0) 32 0) 33 0) 34 0) 15 0) f w g) := hD
  refine lv_aload_n hx hb dX11_readAll_96 rfl (lv_at hl 0 rfl) ?_
  refine lv_iconst (v := 0) hx hb dX11_readAll_97 (by decide) ?_
  refine va_put (D := (dC, dI)) (ci := 11) (v := .int 0) (ty := tyX11 20) (C := RX11) (T := TX11) (N := 79) hx hb hts inB_11 tyX11 tyX11_ok nmX11 hown hE.1 hP hD hS 0 rfl rfl 20 (by decide) (hts _ k_1340) (fun _ h9 => h9) rfl (tyX11_ok 20 (by decide)) rfl rfl (Nat.le_of_ble_eq_true rfl) dX11_readAll_98 (fun H locs hP hD hS => ?_)
  have hP : va_P (dC, dI) vwCl (YW cy y0 r (upd (upd (upd (upd (upd (upd (upd (upd (upd (upd (upd (upd (upd (upd (upd (upd (upd (upd (upd v 4 (v 0)) 0 0) 3 0) 1 0) 2 (-1)) 17 0) 18 0) 19 10) 20 150) 21 2) 22 0) 23 0) 30 0) 31 0) 32 0) 33 0) 34 0) 15 0) 11 0) f w g) H := hP
  have hD : va_D A (YW cy y0 r (upd (upd (upd (upd (upd (upd (upd (upd (upd (upd (upd (upd (upd (upd (upd (upd (upd (upd (upd v 4 (v 0)) 0 0) 3 0) 1 0) 2 (-1)) 17 0) 18 0) 19 10) 20 150) 21 2) 22 0) 23 0) 30 0) 31 0) 32 0) 33 0) 34 0) 15 0) 11 0) f w g) := hD
  refine lv_aload_n hx hb dX11_readAll_101 rfl (lv_at hl 0 rfl) ?_
  refine cbVv (n := 0) (rest := []) hx hb hml hown hts hE hP hD hS hA (sY_X11_token_1 NF l dC dI cy y0 r  (upd (upd (upd (upd (upd (upd (upd (upd (upd (upd (upd (upd (upd (upd (upd (upd (upd (upd (upd v 4 (v 0)) 0 0) 3 0) 1 0) 2 (-1)) 17 0) 18 0) 19 10) 20 150) 21 2) 22 0) 23 0) 30 0) 31 0) 32 0) 33 0) 34 0) 15 0) 11 0) f w g ⟨(YIb.upd (j := 11) (x := 0) (YIb.upd (j := 15) (x := 0) (YIb.upd (j := 34) (x := 0) (YIb.upd (j := 33) (x := 0) (YIb.upd (j := 32) (x := 0) (YIb.upd (j := 31) (x := 0) (YIb.upd (j := 30) (x := 0) (YIb.upd (j := 23) (x := 0) (YIb.upd (j := 22) (x := 0) (YIb.upd (j := 21) (x := 2) (YIb.upd (j := 20) (x := 150) (YIb.upd (j := 19) (x := 10) (YIb.upd (j := 18) (x := 0) (YIb.upd (j := 17) (x := 0) (YIb.upd (j := 2) (x := (-1)) (YIb.upd (j := 1) (x := 0) (YIb.upd (j := 3) (x := 0) (YIb.upd (j := 0) (x := 0) (YIb.upd (j := 4) (x := (v 0)) hIv.1 (show (0 : Int) ≤ (v 0).toInt by omega) (show (v 0).toInt ≤ (1600 : Int) by omega)) (by decide) (by decide)) (by decide) (by decide)) (by decide) (by decide)) (rlo _) (rhi _)) (by decide) (by decide)) (by decide) (by decide)) (rlo _) (rhi _)) (rlo _) (rhi _)) (rlo _) (rhi _)) (rlo _) (rhi _)) (rlo _) (rhi _)) (rlo _) (rhi _)) (rlo _) (rhi _)) (rlo _) (rhi _)) (rlo _) (rhi _)) (rlo _) (rhi _)) (by decide) (by decide)) (rlo _) (rhi _)), hIv.2⟩ hCf hRf ) k_1579 k_1581 k_42 k_114 k_1582 (by decide +kernel) ⟨Nat.le_of_ble_eq_true rfl, Nat.le_of_ble_eq_true rfl⟩ 0 11 rfl rfl (rfl) hl.1 rfl (Nat.le_of_ble_eq_true rfl) dX11_readAll_102 (fun u H locs hw hP hD hS => ?_)
  obtain ⟨hG1, hw⟩ := hw
  obtain ⟨v2, f3, w4, g5⟩ := u
  obtain ⟨kV_v2, kF_f3, hIv2, hCf3, hRf3, hk0_v2, hk1_v2, hk2_v2, hk4_v2, hk8_v2, hk9_v2, hk10_v2, hk13_v2, hk14_v2, hk15_v2, hk17_v2, hk18_v2, hk24_v2, hk25_v2, hk35_v2, hk36_v2, hk38_v2, hk39_v2, pv6, pv7, kq8, kq9, kq10⟩ := hw
  have hM_v2 : KV [0, 1, 2, 3, 4, 5, 6, 7, 8, 10, 11, 13, 14, 15, 17, 18, 19, 20, 21, 22, 23, 30, 31, 32, 33, 34] v2 v := KV.tr kV_v2 (KV.up (j := 11) (x := 0) (KV.up (j := 15) (x := 0) (KV.up (j := 34) (x := 0) (KV.up (j := 33) (x := 0) (KV.up (j := 32) (x := 0) (KV.up (j := 31) (x := 0) (KV.up (j := 30) (x := 0) (KV.up (j := 23) (x := 0) (KV.up (j := 22) (x := 0) (KV.up (j := 21) (x := 2) (KV.up (j := 20) (x := 150) (KV.up (j := 19) (x := 10) (KV.up (j := 18) (x := 0) (KV.up (j := 17) (x := 0) (KV.up (j := 2) (x := (-1)) (KV.up (j := 1) (x := 0) (KV.up (j := 3) (x := 0) (KV.up (j := 0) (x := 0) (KV.up (j := 4) (x := (v 0)) hM_v (by decide +kernel)) (by decide +kernel)) (by decide +kernel)) (by decide +kernel)) (by decide +kernel)) (by decide +kernel)) (by decide +kernel)) (by decide +kernel)) (by decide +kernel)) (by decide +kernel)) (by decide +kernel)) (by decide +kernel)) (by decide +kernel)) (by decide +kernel)) (by decide +kernel)) (by decide +kernel)) (by decide +kernel)) (by decide +kernel)) (by decide +kernel)) (by decide +kernel)
  have hA_f3 : KF [2, 3, 6, 9, 10, 11, 12, 13, 14, 15] f3 f := KF.tr kF_f3 hA_f rfl
  have hP : va_P (dC, dI) vwCl (YW cy y0 r v2 f3 w4 g5) H := hP
  have hD : va_D A (YW cy y0 r v2 f3 w4 g5) := hD
  have b3_v2 : 0 ≤ (v2 3).toInt ∧ (v2 3).toInt ≤ 1600 := YIb.b hIv2.1 3 (by decide)
  have pv6 : (0 : Int32).toInt ≤ (v2 3).toInt := pv6
  have pv7 : (v2 5).toInt = (v 5).toInt ∨ (0 : Int32).toInt < (v2 3).toInt ∨ ¬ (v2 5).toInt = 59 := pv7
  have hs2_f3 : f3 2 = (f 2) := kq8
  have hs3_f3 : f3 3 = (f 3) := kq9
  have hs6_f3 : f3 6 = (f 6) := kq10
  have hUv2 : (v2 35).toInt + (v2 36).toInt ≤ 40 := hIv2.2
  have hq0_v2 : v2 0 = 0 := hk0_v2
  have zq0_v2 : (v2 0).toInt = 0 := by rw [hq0_v2]; decide
  have hq1_v2 : v2 1 = 0 := hk1_v2
  have zq1_v2 : (v2 1).toInt = 0 := by rw [hq1_v2]; decide
  have hq2_v2 : v2 2 = (-1) := hk2_v2
  have zq2_v2 : (v2 2).toInt = -1 := by rw [hq2_v2]; decide
  have hq4_v2 : v2 4 = (v 0) := hk4_v2
  have hq8_v2 : v2 8 = (v 8) := hk8_v2
  have zq8_v2 := congrArg Int32.toInt hq8_v2
  have hq9_v2 : v2 9 = (v 9) := hk9_v2
  have zq9_v2 := congrArg Int32.toInt hq9_v2
  have hq10_v2 : v2 10 = (v 10) := hk10_v2
  have zq10_v2 := congrArg Int32.toInt hq10_v2
  have hq13_v2 : v2 13 = (v 13) := hk13_v2
  have zq13_v2 := congrArg Int32.toInt hq13_v2
  have hq14_v2 : v2 14 = (v 14) := hk14_v2
  have zq14_v2 := congrArg Int32.toInt hq14_v2
  have hq15_v2 : v2 15 = 0 := hk15_v2
  have zq15_v2 : (v2 15).toInt = 0 := by rw [hq15_v2]; decide
  have hq17_v2 : v2 17 = 0 := hk17_v2
  have zq17_v2 : (v2 17).toInt = 0 := by rw [hq17_v2]; decide
  have hq18_v2 : v2 18 = 0 := hk18_v2
  have zq18_v2 : (v2 18).toInt = 0 := by rw [hq18_v2]; decide
  have hq24_v2 : v2 24 = (v 24) := hk24_v2
  have hq25_v2 : v2 25 = (v 25) := hk25_v2
  have hq35_v2 : v2 35 = (v 35) := hk35_v2
  have hq36_v2 : v2 36 = (v 36) := hk36_v2
  have hq38_v2 : v2 38 = (v 38) := hk38_v2
  have hq39_v2 : v2 39 = (v 39) := hk39_v2
  have lp11 : ∀ (n11 : Nat)  (v11 : Nat → Int32) (f11 : Nat → Nat → Int32) (w11 : Int64) (g11 : Nat → Int64), YI v11 → YC f11 → progOK (f11 4) (f11 5) (v11 9).toInt.toNat → v11 0 = 0 → v11 4 = (v 0) → v11 9 = (v 9) → v11 24 = (v 24) → v11 25 = (v 25) → v11 35 = (v 35) → v11 36 = (v 36) → v11 38 = (v 38) → v11 39 = (v 39) → gsY_X11_readAll_1_L11 NF n11 v11 f11 w11 g11 = (gsY_X11_readAll_1 NF v f w g) → (IM0 (v11 1).toInt (IMn (v11 15).toInt (progOK (f11 2) (f11 3) ((v11 8).toInt).toNat))) → KV [0, 1, 2, 3, 4, 5, 6, 7, 8, 10, 11, 13, 14, 15, 17, 18, 19, 20, 21, 22, 23, 30, 31, 32, 33, 34] v11 v → KF [2, 3, 6, 9, 10, 11, 12, 13, 14, 15] f11 f → (2 * (1600 - (v11 3).toInt) + (1 - min (v11 1).toInt 1)).toNat < n11 → ∀ (H : Heap) (locs : List Loc) (ls : Array Slot), va_P (dC, dI) vwCl (YW cy y0 r v11 f11 w11 g11) H → va_D A (YW cy y0 r v11 f11 w11 g11) → va_S A s.heap H locs → lv_has ls 1 [(0, .ref y0)] → W p l e { frames := 8, cells := 0, slots := 0, locals := 212 } s m ([.ref y0] : List Value).toArray below meth c H locs 0 0 Q (F0 m 105 ls []) := by
    intro n11
    induction n11 with
    | zero => intro  v11 f11 w11 g11 hIv11 hCf11 hRf11 hq0_v11 hq4_v11 hq9_v11 hq24_v11 hq25_v11 hq35_v11 hq36_v11 hq38_v11 hq39_v11 hT11 hx0_11 hM_v11 hA_f11 hm; exact absurd hm (Nat.not_lt_zero _)
    | succ n11 ih11 =>
      intro  v11 f11 w11 g11 hIv11 hCf11 hRf11 hq0_v11 hq4_v11 hq9_v11 hq24_v11 hq25_v11 hq35_v11 hq36_v11 hq38_v11 hq39_v11 hT11 hx0_11 hM_v11 hA_f11 hm11 H locs ls hP hD hS hl
      have hUv11 : (v11 35).toInt + (v11 36).toInt ≤ 40 := hIv11.2
      have zq0_v11 : (v11 0).toInt = 0 := by rw [hq0_v11]; decide
      try clear zq0_v2
      have zq9_v11 := congrArg Int32.toInt hq9_v11
      try clear zq9_v2
      have b1_v11 : 0 ≤ (v11 1).toInt ∧ (v11 1).toInt ≤ 4 := YIb.b hIv11.1 1 (by decide)
      have b15_v11 : 0 ≤ (v11 15).toInt ∧ (v11 15).toInt ≤ 1 := YIb.b hIv11.1 15 (by decide)
      have b8_v11 : 0 ≤ (v11 8).toInt ∧ (v11 8).toInt ≤ 320 := YIb.b hIv11.1 8 (by decide)
      have hPL := hx0_11
      refine lv_aload_n hx hb dX11_readAll_105 rfl (lv_at hl 0 rfl) ?_
      refine va_get (D := (dC, dI)) (ci := 11) (v := .int (v11 1)) (C := RX11) (T := TX11) (N := 79) hx hb hts inB_11 hown hE.1 hP 0 rfl rfl 2 (by decide) (hts _ k_1322) (fun _ h9 => h9) rfl dX11_readAll_106 ?_
      refine lv_if_ne (tgt := 126) hx hb dX11_readAll_109 (by decide) (fun c12 => ?_) (fun c12 => ?_)
      · skip
        have zc12 : ¬ ((v11 1).toInt = 0) := by rw [fa_eq, show (0 : Int32).toInt = 0 from by decide] at c12; exact c12
        exact ret (v11, f11, w11, g11) _ _ _ _ _ _ ⟨(hT11.symm.trans (gsY_X11_readAll_1_q0 c12)), hM_v11, hA_f11, hIv11, hCf11, hRf11, hq9_v11, hq24_v11, hq25_v11, hq35_v11, hq36_v11, hq38_v11, hq39_v11, (by show (v11 0).toInt = 0; omega), (by show IM0 (v11 1).toInt (IMn (v11 15).toInt (progOK (f11 2) (f11 3) ((v11 8).toInt).toNat)); exact hPL)⟩ hP hD hS dX11_readAll_126 (Nat.le_refl _) (Nat.le_refl _)
      · skip
        have zc12 : (v11 1).toInt = 0 := by rw [fa_eq, show (0 : Int32).toInt = 0 from by decide] at c12; exact c12
        refine lv_aload_n hx hb dX11_readAll_112 rfl (lv_at hl 0 rfl) ?_
        refine va_get (D := (dC, dI)) (ci := 11) (v := .int (v11 5)) (C := RX11) (T := TX11) (N := 79) hx hb hts inB_11 hown hE.1 hP 0 rfl rfl 6 (by decide) (hts _ k_1326) (fun _ h9 => h9) rfl dX11_readAll_113 ?_
        refine lv_if_eq (tgt := 126) hx hb dX11_readAll_116 (by decide) (fun c13 => ?_) (fun c13 => ?_)
        · skip
          have zc13 : (v11 5).toInt = 0 := by rw [fa_eq, show (0 : Int32).toInt = 0 from by decide] at c13; exact c13
          exact ret (v11, f11, w11, g11) _ _ _ _ _ _ ⟨(hT11.symm.trans (gsY_X11_readAll_1_q1 c12 c13)), hM_v11, hA_f11, hIv11, hCf11, hRf11, hq9_v11, hq24_v11, hq25_v11, hq35_v11, hq36_v11, hq38_v11, hq39_v11, (by show (v11 0).toInt = 0; omega), (by show IM0 (v11 1).toInt (IMn (v11 15).toInt (progOK (f11 2) (f11 3) ((v11 8).toInt).toNat)); exact hPL)⟩ hP hD hS dX11_readAll_126 (Nat.le_refl _) (Nat.le_refl _)
        · skip
          have zc13 : ¬ ((v11 5).toInt = 0) := by rw [fa_eq, show (0 : Int32).toInt = 0 from by decide] at c13; exact c13
          refine lv_aload_n hx hb dX11_readAll_119 rfl (lv_at hl 0 rfl) ?_
          refine cbVv (n := 0) (rest := []) hx hb hml hown hts hE hP hD hS hA (sY_X11_readLine_1 NF l dC dI cy y0 r  v11 f11 w11 g11 hIv11 hCf11 hRf11 (by show (v11 1).toInt = 0; omega) (by show IMn (v11 15).toInt (progOK (f11 2) (f11 3) ((v11 8).toInt).toNat); exact hPL (by omega))) k_1596 k_1598 k_44 k_114 k_1599 (by decide +kernel) ⟨Nat.le_of_ble_eq_true rfl, Nat.le_of_ble_eq_true rfl⟩ 0 11 rfl rfl (rfl) hl.1 rfl (Nat.le_of_ble_eq_true rfl) dX11_readAll_120 (fun u H locs hw hP hD hS => ?_)
          obtain ⟨hG14, hw⟩ := hw
          obtain ⟨v15, f16, w17, g18⟩ := u
          obtain ⟨kV_v15, kF_f16, hIv15, hCf16, hRf16, hk0_v15, hk4_v15, hk9_v15, hk24_v15, hk25_v15, hk35_v15, hk36_v15, hk38_v15, hk39_v15, pg19, pg20⟩ := hw
          have hM_v15 : KV [0, 1, 2, 3, 4, 5, 6, 7, 8, 10, 11, 13, 14, 15, 17, 18, 19, 20, 21, 22, 23, 30, 31, 32, 33, 34] v15 v := KV.tr kV_v15 hM_v11 (by decide +kernel)
          have hA_f16 : KF [2, 3, 6, 9, 10, 11, 12, 13, 14, 15] f16 f := KF.tr kF_f16 hA_f11 rfl
          have hP : va_P (dC, dI) vwCl (YW cy y0 r v15 f16 w17 g18) H := hP
          have hD : va_D A (YW cy y0 r v15 f16 w17 g18) := hD
          have b1_v15 : 0 ≤ (v15 1).toInt ∧ (v15 1).toInt ≤ 4 := YIb.b hIv15.1 1 (by decide)
          have b3_v15 : 0 ≤ (v15 3).toInt ∧ (v15 3).toInt ≤ 1600 := YIb.b hIv15.1 3 (by decide)
          have b15_v15 : 0 ≤ (v15 15).toInt ∧ (v15 15).toInt ≤ 1 := YIb.b hIv15.1 15 (by decide)
          have b8_v15 : 0 ≤ (v15 8).toInt ∧ (v15 8).toInt ≤ 320 := YIb.b hIv15.1 8 (by decide)
          have pg19 : GA (v15 1).toInt (v11 3).toInt (v15 3).toInt := pg19
          have pg20 : IM0 (v15 1).toInt (IMn (v15 15).toInt (progOK (f16 2) (f16 3) ((v15 8).toInt).toNat)) := pg20
          have hUv15 : (v15 35).toInt + (v15 36).toInt ≤ 40 := hIv15.2
          have hq0_v15 : v15 0 = 0 := hk0_v15.trans hq0_v11
          have zq0_v15 : (v15 0).toInt = 0 := by rw [hq0_v15]; decide
          try clear zq0_v11
          have hq4_v15 : v15 4 = (v 0) := hk4_v15.trans hq4_v11
          have hq9_v15 : v15 9 = (v 9) := hk9_v15.trans hq9_v11
          have zq9_v15 := congrArg Int32.toInt hq9_v15
          try clear zq9_v11
          have hq24_v15 : v15 24 = (v 24) := hk24_v15.trans hq24_v11
          have hq25_v15 : v15 25 = (v 25) := hk25_v15.trans hq25_v11
          have hq35_v15 : v15 35 = (v 35) := hk35_v15.trans hq35_v11
          have hq36_v15 : v15 36 = (v 36) := hk36_v15.trans hq36_v11
          have hq38_v15 : v15 38 = (v 38) := hk38_v15.trans hq38_v11
          have hq39_v15 : v15 39 = (v 39) := hk39_v15.trans hq39_v11
          have hPL := pg20
          have hga := GA.or pg19
          refine lv_goto (tgt := 105) hx hb dX11_readAll_123 (by decide) ?_
          exact ih11  v15 f16 w17 g18 hIv15 hCf16 hRf16 hq0_v15 hq4_v15 hq9_v15 hq24_v15 hq25_v15 hq35_v15 hq36_v15 hq38_v15 hq39_v15 ((gsY_X11_readAll_1_q2 c12 c13 hG14).symm.trans hT11) (by show IM0 (v15 1).toInt (IMn (v15 15).toInt (progOK (f16 2) (f16 3) ((v15 8).toInt).toNat)); exact hPL) hM_v15 hA_f16 (by show (2 * (1600 - (v15 3).toInt) + (1 - min (v15 1).toInt 1)).toNat < n11; omega) _ _ _ hP hD hS (lv_sub hl [0] rfl)
  exact lp11 (4294967296 + NF)  v2 f3 w4 g5 hIv2 hCf3 hRf3 hq0_v2 hq4_v2 hq9_v2 hq24_v2 hq25_v2 hq35_v2 hq36_v2 hq38_v2 hq39_v2 (gsY_X11_readAll_1_q3 hG1).symm (by show IM0 (v2 1).toInt (IMn (v2 15).toInt (progOK (f3 2) (f3 3) ((v2 8).toInt).toNat)); rw [hs2_f3, hs3_f3]; intro hz8 hz9; exfalso; omega) hM_v2 hA_f3 (by have qr0 := fb_rng (v2 1); have qr1 := fb_rng (v2 3); show (2 * (1600 - (v2 3).toInt) + (1 - min (v2 1).toInt 1)).toNat < 4294967296 + NF; omega) _ _ _ hP hD hS (lv_sub hl [0] rfl)
set_option maxHeartbeats 4000000 in
set_option maxRecDepth 100000 in
theorem sY_X11_begin_1 (NF : Nat) (l : Launch) (dC : Nat → ClassId) (dI : Nat → Nat → Nat) (cy : Nat → ClassId) (y0 : Nat) (r : Nat → Nat)  (v : Nat → Int32) (f : Nat → Nat → Int32) (w : Int64) (g : Nat → Int64) (hIv : YI v) (hCf : YC f) (hRf : progOK (f 4) (f 5) (v 9).toInt.toNat)  : ctV l (dC, dI) cy yX11_begin cX11_begin 2 1 60 0 0 ((Nat → Int32) × (Nat → Nat → Int32) × (Int64) × (Nat → Int64)) [.ref y0] (YW cy y0 r v f w g) (fun u => gsY_X11_begin_1 NF v f w g = u ∧ KV [] u.1 v ∧ KF [24] u.2.1 f ∧ YI u.1 ∧ YC u.2.1 ∧ progOK (u.2.1 4) (u.2.1 5) (u.1 9).toInt.toNat ∧ u.1 0 = v 0 ∧ u.1 1 = v 1 ∧ u.1 2 = v 2 ∧ u.1 3 = v 3 ∧ u.1 4 = v 4 ∧ u.1 5 = v 5 ∧ u.1 8 = v 8 ∧ u.1 9 = v 9 ∧ u.1 10 = v 10 ∧ u.1 13 = v 13 ∧ u.1 14 = v 14 ∧ u.1 15 = v 15 ∧ u.1 17 = v 17 ∧ u.1 18 = v 18 ∧ u.1 24 = v 24 ∧ u.1 25 = v 25 ∧ u.1 35 = v 35 ∧ u.1 36 = v 36 ∧ u.1 38 = v 38 ∧ u.1 39 = v 39) (fun u => YW cy y0 r u.1 u.2.1 u.2.2.1 u.2.2.2) := by
  refine ctV_of (by decide) (Nat.le_of_ble_eq_true rfl) (fun p e s m below meth c A ls Q hx hb hml hts hown hnm hE hP hD hA hl ret => ?_)
  have hUv : (v 35).toInt + (v 36).toInt ≤ 40 := hIv.2
  have hM_v : KV [] v v := fun _ _ => rfl
  have hA_f : KF [24] f f := fun _ _ => rfl
  have hown : s.vm.findClass RX11 = some m.cls := hown
  have hS : va_S A s.heap s.heap [] := va_S.rf
  have hl : lv_has ls 2 [(0, .ref y0)] := hl
  refine lv_iconst (v := 0) hx hb dX11_begin_0 (by decide) ?_
  refine lv_istore_n (lv' := [(1, .int 0), (0, .ref y0)]) hx hb dX11_begin_1 rfl hl (by decide) rfl (fun ls hl => ?_)
  have lp1 : ∀ (n1 : Nat) (l1_1 : Int32) (v1 : Nat → Int32) (f1 : Nat → Nat → Int32) (w1 : Int64) (g1 : Nat → Int64), YI v1 → YC f1 → progOK (f1 4) (f1 5) (v1 9).toInt.toNat → v1 0 = (v 0) → v1 1 = (v 1) → v1 2 = (v 2) → v1 3 = (v 3) → v1 4 = (v 4) → v1 5 = (v 5) → v1 8 = (v 8) → v1 9 = (v 9) → v1 10 = (v 10) → v1 13 = (v 13) → v1 14 = (v 14) → v1 15 = (v 15) → v1 17 = (v 17) → v1 18 = (v 18) → v1 24 = (v 24) → v1 25 = (v 25) → v1 35 = (v 35) → v1 36 = (v 36) → v1 38 = (v 38) → v1 39 = (v 39) → gsY_X11_begin_1_L1 NF v n1 l1_1 v1 f1 w1 g1 = (gsY_X11_begin_1 NF v f w g) → ((0 : Int) ≤ l1_1.toInt ∧ l1_1.toInt ≤ 2147483647) → KV [] v1 v → KF [24] f1 f → (2147483647 - l1_1.toInt).toNat < n1 → ∀ (H : Heap) (locs : List Loc) (ls : Array Slot), va_P (dC, dI) vwCl (YW cy y0 r v1 f1 w1 g1) H → va_D A (YW cy y0 r v1 f1 w1 g1) → va_S A s.heap H locs → lv_has ls 2 [(1, .int l1_1), (0, .ref y0)] → W p l e { frames := 1, cells := 0, slots := 0, locals := 60 } s m ([.ref y0] : List Value).toArray below meth c H locs 0 0 Q (F0 m 2 ls []) := by
    intro n1
    induction n1 with
    | zero => intro l1_1 v1 f1 w1 g1 hIv1 hCf1 hRf1 hq0_v1 hq1_v1 hq2_v1 hq3_v1 hq4_v1 hq5_v1 hq8_v1 hq9_v1 hq10_v1 hq13_v1 hq14_v1 hq15_v1 hq17_v1 hq18_v1 hq24_v1 hq25_v1 hq35_v1 hq36_v1 hq38_v1 hq39_v1 hT1 hr1_1 hM_v1 hA_f1 hm; exact absurd hm (Nat.not_lt_zero _)
    | succ n1 ih1 =>
      intro l1_1 v1 f1 w1 g1 hIv1 hCf1 hRf1 hq0_v1 hq1_v1 hq2_v1 hq3_v1 hq4_v1 hq5_v1 hq8_v1 hq9_v1 hq10_v1 hq13_v1 hq14_v1 hq15_v1 hq17_v1 hq18_v1 hq24_v1 hq25_v1 hq35_v1 hq36_v1 hq38_v1 hq39_v1 hT1 hr1_1 hM_v1 hA_f1 hm1 H locs ls hP hD hS hl
      have hUv1 : (v1 35).toInt + (v1 36).toInt ≤ 40 := hIv1.2
      have zq9_v1 := congrArg Int32.toInt hq9_v1
      refine lv_iload_n hx hb dX11_begin_2 rfl (lv_at hl 0 rfl) ?_
      refine lv_bipush (v := 39) hx hb dX11_begin_3 (by decide) ?_
      refine lv_icmp_ge (tgt := 21) hx hb dX11_begin_5 (by decide) (fun c2 => ?_) (fun c2 => ?_)
      · skip
        have zc2 : 39 ≤ l1_1.toInt := by rw [fa_le, show (39 : Int32).toInt = 39 from by decide] at c2; exact c2
        refine lv_iconst (v := 0) hx hb dX11_begin_21 (by decide) ?_
        refine lv_istore_n (lv' := [(1, .int 0), (0, .ref y0)]) hx hb dX11_begin_22 rfl hl (by decide) rfl (fun ls hl => ?_)
        have lp3 : ∀ (n3 : Nat) (l1_3 : Int32) (v3 : Nat → Int32) (f3 : Nat → Nat → Int32) (w3 : Int64) (g3 : Nat → Int64), YI v3 → YC f3 → progOK (f3 4) (f3 5) (v3 9).toInt.toNat → v3 0 = (v 0) → v3 1 = (v 1) → v3 2 = (v 2) → v3 3 = (v 3) → v3 4 = (v 4) → v3 5 = (v 5) → v3 8 = (v 8) → v3 9 = (v 9) → v3 10 = (v 10) → v3 13 = (v 13) → v3 14 = (v 14) → v3 15 = (v 15) → v3 17 = (v 17) → v3 18 = (v 18) → v3 24 = (v 24) → v3 25 = (v 25) → v3 35 = (v 35) → v3 36 = (v 36) → v3 38 = (v 38) → v3 39 = (v 39) → gsY_X11_begin_1_L3 NF v n3 l1_3 v3 f3 w3 g3 = (gsY_X11_begin_1 NF v f w g) → ((0 : Int) ≤ l1_3.toInt ∧ l1_3.toInt ≤ 2147483647) → KV [] v3 v → KF [24] f3 f → (2147483647 - l1_3.toInt).toNat < n3 → ∀ (H : Heap) (locs : List Loc) (ls : Array Slot), va_P (dC, dI) vwCl (YW cy y0 r v3 f3 w3 g3) H → va_D A (YW cy y0 r v3 f3 w3 g3) → va_S A s.heap H locs → lv_has ls 2 [(1, .int l1_3), (0, .ref y0)] → W p l e { frames := 1, cells := 0, slots := 0, locals := 60 } s m ([.ref y0] : List Value).toArray below meth c H locs 0 0 Q (F0 m 23 ls []) := by
          intro n3
          induction n3 with
          | zero => intro l1_3 v3 f3 w3 g3 hIv3 hCf3 hRf3 hq0_v3 hq1_v3 hq2_v3 hq3_v3 hq4_v3 hq5_v3 hq8_v3 hq9_v3 hq10_v3 hq13_v3 hq14_v3 hq15_v3 hq17_v3 hq18_v3 hq24_v3 hq25_v3 hq35_v3 hq36_v3 hq38_v3 hq39_v3 hT3 hr1_3 hM_v3 hA_f3 hm; exact absurd hm (Nat.not_lt_zero _)
          | succ n3 ih3 =>
            intro l1_3 v3 f3 w3 g3 hIv3 hCf3 hRf3 hq0_v3 hq1_v3 hq2_v3 hq3_v3 hq4_v3 hq5_v3 hq8_v3 hq9_v3 hq10_v3 hq13_v3 hq14_v3 hq15_v3 hq17_v3 hq18_v3 hq24_v3 hq25_v3 hq35_v3 hq36_v3 hq38_v3 hq39_v3 hT3 hr1_3 hM_v3 hA_f3 hm3 H locs ls hP hD hS hl
            have hUv3 : (v3 35).toInt + (v3 36).toInt ≤ 40 := hIv3.2
            have zq9_v3 := congrArg Int32.toInt hq9_v3
            refine lv_iload_n hx hb dX11_begin_23 rfl (lv_at hl 0 rfl) ?_
            refine lv_aload_n hx hb dX11_begin_24 rfl (lv_at hl 1 rfl) ?_
            refine va_get (D := (dC, dI)) (ci := 11) (v := .int (v3 24)) (C := RX11) (T := TX11) (N := 79) hx hb hts inB_11 hown hE.1 hP 0 rfl rfl 48 (by decide) (hts _ k_1368) (fun _ h9 => h9) rfl dX11_begin_25 ?_
            refine tI (y := (v 24)) hq24_v3 ?_
            have b24_v : 0 ≤ (v 24).toInt ∧ (v 24).toInt ≤ 6 := YIb.b hIv.1 24 (by decide)
            refine lv_icmp_ge (tgt := 59) hx hb dX11_begin_28 (by decide) (fun c4 => ?_) (fun c4 => ?_)
            · skip
              have zc4 : (v 24).toInt ≤ l1_3.toInt := by rw [fa_le] at c4; exact c4
              have rg5 := fb_rng l1_3
              have rg6 := fb_rng (v 24)
              refine lv_iconst (v := 0) hx hb dX11_begin_59 (by decide) ?_
              refine lv_istore_n (lv' := [(1, .int 0), (0, .ref y0)]) hx hb dX11_begin_60 rfl hl (by decide) rfl (fun ls hl => ?_)
              have lp7 : ∀ (n7 : Nat) (l1_7 : Int32) (v7 : Nat → Int32) (f7 : Nat → Nat → Int32) (w7 : Int64) (g7 : Nat → Int64), YI v7 → YC f7 → progOK (f7 4) (f7 5) (v7 9).toInt.toNat → v7 0 = (v 0) → v7 1 = (v 1) → v7 2 = (v 2) → v7 3 = (v 3) → v7 4 = (v 4) → v7 5 = (v 5) → v7 8 = (v 8) → v7 9 = (v 9) → v7 10 = (v 10) → v7 13 = (v 13) → v7 14 = (v 14) → v7 15 = (v 15) → v7 17 = (v 17) → v7 18 = (v 18) → v7 24 = (v 24) → v7 25 = (v 25) → v7 35 = (v 35) → v7 36 = (v 36) → v7 38 = (v 38) → v7 39 = (v 39) → gsY_X11_begin_1_L7 NF v n7 l1_7 v7 f7 w7 g7 = (gsY_X11_begin_1 NF v f w g) → ((0 : Int) ≤ l1_7.toInt ∧ l1_7.toInt ≤ 2147483647) → KV [] v7 v → KF [24] f7 f → (2147483647 - l1_7.toInt).toNat < n7 → ∀ (H : Heap) (locs : List Loc) (ls : Array Slot), va_P (dC, dI) vwCl (YW cy y0 r v7 f7 w7 g7) H → va_D A (YW cy y0 r v7 f7 w7 g7) → va_S A s.heap H locs → lv_has ls 2 [(1, .int l1_7), (0, .ref y0)] → W p l e { frames := 1, cells := 0, slots := 0, locals := 60 } s m ([.ref y0] : List Value).toArray below meth c H locs 0 0 Q (F0 m 61 ls []) := by
                intro n7
                induction n7 with
                | zero => intro l1_7 v7 f7 w7 g7 hIv7 hCf7 hRf7 hq0_v7 hq1_v7 hq2_v7 hq3_v7 hq4_v7 hq5_v7 hq8_v7 hq9_v7 hq10_v7 hq13_v7 hq14_v7 hq15_v7 hq17_v7 hq18_v7 hq24_v7 hq25_v7 hq35_v7 hq36_v7 hq38_v7 hq39_v7 hT7 hr1_7 hM_v7 hA_f7 hm; exact absurd hm (Nat.not_lt_zero _)
                | succ n7 ih7 =>
                  intro l1_7 v7 f7 w7 g7 hIv7 hCf7 hRf7 hq0_v7 hq1_v7 hq2_v7 hq3_v7 hq4_v7 hq5_v7 hq8_v7 hq9_v7 hq10_v7 hq13_v7 hq14_v7 hq15_v7 hq17_v7 hq18_v7 hq24_v7 hq25_v7 hq35_v7 hq36_v7 hq38_v7 hq39_v7 hT7 hr1_7 hM_v7 hA_f7 hm7 H locs ls hP hD hS hl
                  have hUv7 : (v7 35).toInt + (v7 36).toInt ≤ 40 := hIv7.2
                  have zq9_v7 := congrArg Int32.toInt hq9_v7
                  refine lv_iload_n hx hb dX11_begin_61 rfl (lv_at hl 0 rfl) ?_
                  refine lv_aload_n hx hb dX11_begin_62 rfl (lv_at hl 1 rfl) ?_
                  refine va_get (D := (dC, dI)) (ci := 11) (v := .int (v7 25)) (C := RX11) (T := TX11) (N := 79) hx hb hts inB_11 hown hE.1 hP 0 rfl rfl 49 (by decide) (hts _ k_1369) (fun _ h9 => h9) rfl dX11_begin_63 ?_
                  refine tI (y := (v 25)) hq25_v7 ?_
                  have b25_v : 0 ≤ (v 25).toInt ∧ (v 25).toInt ≤ 6 := YIb.b hIv.1 25 (by decide)
                  refine lv_icmp_ge (tgt := 135) hx hb dX11_begin_66 (by decide) (fun c8 => ?_) (fun c8 => ?_)
                  · skip
                    have zc8 : (v 25).toInt ≤ l1_7.toInt := by rw [fa_le] at c8; exact c8
                    have rg9 := fb_rng l1_7
                    have rg10 := fb_rng (v 25)
                    exact ret (v7, f7, w7, g7) _ _ _ _ _ _ ⟨(hT7.symm.trans (gsY_X11_begin_1_q0 c8)), hM_v7, hA_f7, hIv7, hCf7, hRf7, hq0_v7, hq1_v7, hq2_v7, hq3_v7, hq4_v7, hq5_v7, hq8_v7, hq9_v7, hq10_v7, hq13_v7, hq14_v7, hq15_v7, hq17_v7, hq18_v7, hq24_v7, hq25_v7, hq35_v7, hq36_v7, hq38_v7, hq39_v7⟩ hP hD hS dX11_begin_135 (Nat.le_refl _) (Nat.le_refl _)
                  · skip
                    have zc8 : ¬ ((v 25).toInt ≤ l1_7.toInt) := by rw [fa_le] at c8; exact c8
                    have rg11 := fb_rng l1_7
                    have rg12 := fb_rng (v 25)
                    refine lv_aload_n hx hb dX11_begin_69 rfl (lv_at hl 1 rfl) ?_
                    refine va_get (D := (dC, dI)) (ci := 11) (v := .ref (r 60)) (C := RX11) (T := TX11) (N := 79) hx hb hts inB_11 hown hE.1 hP 0 rfl rfl 60 (by decide) (hts _ k_1380) (fun _ h9 => h9) rfl dX11_begin_70 ?_
                    refine lv_bipush (v := 12) hx hb dX11_begin_73 (by decide) ?_
                    refine lv_iload_n hx hb dX11_begin_75 rfl (lv_at hl 0 rfl) ?_
                    refine lv_iadd hx hb dX11_begin_76 ?_
                    refine lv_topi (fun t13 et13 => ?_)
                    have zt13 : t13.toInt = 12 + l1_7.toInt := by rw [et13]; exact add_i (by decide) rfl (by omega) (by omega)
                    refine lv_aload_n hx hb dX11_begin_77 rfl (lv_at hl 1 rfl) ?_
                    refine va_get (D := (dC, dI)) (ci := 11) (v := .ref (r 37)) (C := RX11) (T := TX11) (N := 79) hx hb hts inB_11 hown hE.1 hP 0 rfl rfl 37 (by decide) (hts _ k_1357) (fun _ h9 => h9) rfl dX11_begin_78 ?_
                    refine lv_iload_n hx hb dX11_begin_81 rfl (lv_at hl 0 rfl) ?_
                    refine ldI hx hb hE hP 20 rfl (vp_in_iff.mpr ⟨by omega, by omega⟩) rfl rfl dX11_begin_82 ?_
                    refine lv_topi (fun t14 et14 => ?_)
                    refine stI hx hb hE hP hD hS 25 rfl (vp_in_iff.mpr ⟨by omega, by omega⟩) rfl dX11_begin_83 (fun H locs hP hD hS => ?_)
                    obtain ⟨f15, ef15, hP, hD⟩ : ∃ fz9, fz9 = upd2 f7 24 (upd (f7 24) t13.toNatClampNeg t14) ∧ va_P (dC, dI) vwCl (YW cy y0 r v7 fz9 w7 g7) H ∧ va_D A (YW cy y0 r v7 fz9 w7 g7) := ⟨_, rfl, hP, hD⟩
                    have hCf15 : YC f15 := by rw [ef15]; exact ⟨hCf7.1, (wear_st hCf7.2.1 (by show t13.toInt.toNat % 39 < 6 ∨ 12 ≤ t13.toInt.toNat % 39 ∨ (-1 ≤ t14.toInt ∧ t14.toInt ≤ 5); omega)), hCf7.2.2.1, hCf7.2.2.2.1, hCf7.2.2.2.2.1, hCf7.2.2.2.2.2⟩
                    have hRf15 : progOK (f15 4) (f15 5) (v7 9).toInt.toNat := by rw [ef15]; exact hRf7
                    have hA_f15 : KF [24] f15 f := by rw [ef15]; exact KF.up hA_f7 rfl
                    refine lv_aload_n hx hb dX11_begin_84 rfl (lv_at hl 1 rfl) ?_
                    refine va_get (D := (dC, dI)) (ci := 11) (v := .ref (r 60)) (C := RX11) (T := TX11) (N := 79) hx hb hts inB_11 hown hE.1 hP 0 rfl rfl 60 (by decide) (hts _ k_1380) (fun _ h9 => h9) rfl dX11_begin_85 ?_
                    refine lv_bipush (v := 18) hx hb dX11_begin_88 (by decide) ?_
                    refine lv_iload_n hx hb dX11_begin_90 rfl (lv_at hl 0 rfl) ?_
                    refine lv_iadd hx hb dX11_begin_91 ?_
                    refine lv_topi (fun t16 et16 => ?_)
                    have zt16 : t16.toInt = 18 + l1_7.toInt := by rw [et16]; exact add_i (by decide) rfl (by omega) (by omega)
                    refine lv_aload_n hx hb dX11_begin_92 rfl (lv_at hl 1 rfl) ?_
                    refine va_get (D := (dC, dI)) (ci := 11) (v := .ref (r 38)) (C := RX11) (T := TX11) (N := 79) hx hb hts inB_11 hown hE.1 hP 0 rfl rfl 38 (by decide) (hts _ k_1358) (fun _ h9 => h9) rfl dX11_begin_93 ?_
                    refine lv_iload_n hx hb dX11_begin_96 rfl (lv_at hl 0 rfl) ?_
                    refine ldI hx hb hE hP 21 rfl (vp_in_iff.mpr ⟨by omega, by omega⟩) rfl rfl dX11_begin_97 ?_
                    refine lv_topi (fun t17 et17 => ?_)
                    refine stI hx hb hE hP hD hS 25 rfl (vp_in_iff.mpr ⟨by omega, by omega⟩) rfl dX11_begin_98 (fun H locs hP hD hS => ?_)
                    obtain ⟨f18, ef18, hP, hD⟩ : ∃ fz9, fz9 = upd2 f15 24 (upd (f15 24) t16.toNatClampNeg t17) ∧ va_P (dC, dI) vwCl (YW cy y0 r v7 fz9 w7 g7) H ∧ va_D A (YW cy y0 r v7 fz9 w7 g7) := ⟨_, rfl, hP, hD⟩
                    have hCf18 : YC f18 := by rw [ef18]; exact ⟨hCf15.1, (wear_st hCf15.2.1 (by show t16.toInt.toNat % 39 < 6 ∨ 12 ≤ t16.toInt.toNat % 39 ∨ (-1 ≤ t17.toInt ∧ t17.toInt ≤ 5); omega)), hCf15.2.2.1, hCf15.2.2.2.1, hCf15.2.2.2.2.1, hCf15.2.2.2.2.2⟩
                    have hRf18 : progOK (f18 4) (f18 5) (v7 9).toInt.toNat := by rw [ef18]; exact hRf15
                    have hA_f18 : KF [24] f18 f := by rw [ef18]; exact KF.up hA_f15 rfl
                    refine lv_aload_n hx hb dX11_begin_99 rfl (lv_at hl 1 rfl) ?_
                    refine va_get (D := (dC, dI)) (ci := 11) (v := .ref (r 60)) (C := RX11) (T := TX11) (N := 79) hx hb hts inB_11 hown hE.1 hP 0 rfl rfl 60 (by decide) (hts _ k_1380) (fun _ h9 => h9) rfl dX11_begin_100 ?_
                    refine lv_bipush (v := 24) hx hb dX11_begin_103 (by decide) ?_
                    refine lv_iload_n hx hb dX11_begin_105 rfl (lv_at hl 0 rfl) ?_
                    refine lv_iadd hx hb dX11_begin_106 ?_
                    refine lv_topi (fun t19 et19 => ?_)
                    have zt19 : t19.toInt = 24 + l1_7.toInt := by rw [et19]; exact add_i (by decide) rfl (by omega) (by omega)
                    refine lv_aload_n hx hb dX11_begin_107 rfl (lv_at hl 1 rfl) ?_
                    refine va_get (D := (dC, dI)) (ci := 11) (v := .ref (r 39)) (C := RX11) (T := TX11) (N := 79) hx hb hts inB_11 hown hE.1 hP 0 rfl rfl 39 (by decide) (hts _ k_1359) (fun _ h9 => h9) rfl dX11_begin_108 ?_
                    refine lv_iload_n hx hb dX11_begin_111 rfl (lv_at hl 0 rfl) ?_
                    refine ldI hx hb hE hP 22 rfl (vp_in_iff.mpr ⟨by omega, by omega⟩) rfl rfl dX11_begin_112 ?_
                    refine lv_topi (fun t20 et20 => ?_)
                    refine stI hx hb hE hP hD hS 25 rfl (vp_in_iff.mpr ⟨by omega, by omega⟩) rfl dX11_begin_113 (fun H locs hP hD hS => ?_)
                    obtain ⟨f21, ef21, hP, hD⟩ : ∃ fz9, fz9 = upd2 f18 24 (upd (f18 24) t19.toNatClampNeg t20) ∧ va_P (dC, dI) vwCl (YW cy y0 r v7 fz9 w7 g7) H ∧ va_D A (YW cy y0 r v7 fz9 w7 g7) := ⟨_, rfl, hP, hD⟩
                    have hCf21 : YC f21 := by rw [ef21]; exact ⟨hCf18.1, (wear_st hCf18.2.1 (by show t19.toInt.toNat % 39 < 6 ∨ 12 ≤ t19.toInt.toNat % 39 ∨ (-1 ≤ t20.toInt ∧ t20.toInt ≤ 5); omega)), hCf18.2.2.1, hCf18.2.2.2.1, hCf18.2.2.2.2.1, hCf18.2.2.2.2.2⟩
                    have hRf21 : progOK (f21 4) (f21 5) (v7 9).toInt.toNat := by rw [ef21]; exact hRf18
                    have hA_f21 : KF [24] f21 f := by rw [ef21]; exact KF.up hA_f18 rfl
                    refine lv_aload_n hx hb dX11_begin_114 rfl (lv_at hl 1 rfl) ?_
                    refine va_get (D := (dC, dI)) (ci := 11) (v := .ref (r 60)) (C := RX11) (T := TX11) (N := 79) hx hb hts inB_11 hown hE.1 hP 0 rfl rfl 60 (by decide) (hts _ k_1380) (fun _ h9 => h9) rfl dX11_begin_115 ?_
                    refine lv_bipush (v := 30) hx hb dX11_begin_118 (by decide) ?_
                    refine lv_iload_n hx hb dX11_begin_120 rfl (lv_at hl 0 rfl) ?_
                    refine lv_iadd hx hb dX11_begin_121 ?_
                    refine lv_topi (fun t22 et22 => ?_)
                    have zt22 : t22.toInt = 30 + l1_7.toInt := by rw [et22]; exact add_i (by decide) rfl (by omega) (by omega)
                    refine lv_aload_n hx hb dX11_begin_122 rfl (lv_at hl 1 rfl) ?_
                    refine va_get (D := (dC, dI)) (ci := 11) (v := .ref (r 40)) (C := RX11) (T := TX11) (N := 79) hx hb hts inB_11 hown hE.1 hP 0 rfl rfl 40 (by decide) (hts _ k_1360) (fun _ h9 => h9) rfl dX11_begin_123 ?_
                    refine lv_iload_n hx hb dX11_begin_126 rfl (lv_at hl 0 rfl) ?_
                    refine ldI hx hb hE hP 23 rfl (vp_in_iff.mpr ⟨by omega, by omega⟩) rfl rfl dX11_begin_127 ?_
                    refine lv_topi (fun t23 et23 => ?_)
                    refine stI hx hb hE hP hD hS 25 rfl (vp_in_iff.mpr ⟨by omega, by omega⟩) rfl dX11_begin_128 (fun H locs hP hD hS => ?_)
                    obtain ⟨f24, ef24, hP, hD⟩ : ∃ fz9, fz9 = upd2 f21 24 (upd (f21 24) t22.toNatClampNeg t23) ∧ va_P (dC, dI) vwCl (YW cy y0 r v7 fz9 w7 g7) H ∧ va_D A (YW cy y0 r v7 fz9 w7 g7) := ⟨_, rfl, hP, hD⟩
                    have hCf24 : YC f24 := by rw [ef24]; exact ⟨hCf21.1, (wear_st hCf21.2.1 (by show t22.toInt.toNat % 39 < 6 ∨ 12 ≤ t22.toInt.toNat % 39 ∨ (-1 ≤ t23.toInt ∧ t23.toInt ≤ 5); omega)), hCf21.2.2.1, hCf21.2.2.2.1, hCf21.2.2.2.2.1, hCf21.2.2.2.2.2⟩
                    have hRf24 : progOK (f24 4) (f24 5) (v7 9).toInt.toNat := by rw [ef24]; exact hRf21
                    have hA_f24 : KF [24] f24 f := by rw [ef24]; exact KF.up hA_f21 rfl
                    obtain ⟨t25, et25⟩ : ∃ y : Int32, y = l1_7 + 1 := ⟨_, rfl⟩
                    have zt25 : t25.toInt = l1_7.toInt + 1 := by rw [et25]; exact add_i rfl (by decide) (by omega) (by omega)
                    refine lv_iinc (v := t25) (lv' := [(1, .int t25), (0, .ref y0)]) hx hb dX11_begin_129 hl (k := 0) rfl (by rw [et25]; rfl) (by decide) rfl (fun ls hl => ?_)
                    refine lv_goto (tgt := 61) hx hb dX11_begin_132 (by decide) ?_
                    have rg26 := fb_rng t25
                    exact ih7 t25 v7 f24 w7 g7 hIv7 hCf24 hRf24 hq0_v7 hq1_v7 hq2_v7 hq3_v7 hq4_v7 hq5_v7 hq8_v7 hq9_v7 hq10_v7 hq13_v7 hq14_v7 hq15_v7 hq17_v7 hq18_v7 hq24_v7 hq25_v7 hq35_v7 hq36_v7 hq38_v7 hq39_v7 ((gsY_X11_begin_1_q1 c8 et13 et14 ef15 et16 et17 ef18 et19 et20 ef21 et22 et23 ef24 et25).symm.trans hT7) ⟨show (0 : Int) ≤ t25.toInt by omega, show t25.toInt ≤ (2147483647 : Int) by omega⟩ hM_v7 hA_f24 (by show (2147483647 - t25.toInt).toNat < n7; omega) _ _ _ hP hD hS (lv_sub hl [0, 1] rfl)
              exact lp7 (4294967296 + NF) 0 v3 f3 w3 g3 hIv3 hCf3 hRf3 hq0_v3 hq1_v3 hq2_v3 hq3_v3 hq4_v3 hq5_v3 hq8_v3 hq9_v3 hq10_v3 hq13_v3 hq14_v3 hq15_v3 hq17_v3 hq18_v3 hq24_v3 hq25_v3 hq35_v3 hq36_v3 hq38_v3 hq39_v3 ((gsY_X11_begin_1_q2 c4).symm.trans hT3) ⟨by decide, by decide⟩ hM_v3 hA_f3 (by have q1 : (0 : Int32).toInt = 0 := (by decide); show (2147483647 - (0 : Int32).toInt).toNat < 4294967296 + NF; omega) _ _ _ hP hD hS (lv_sub hl [0, 1] rfl)
            · skip
              have zc4 : ¬ ((v 24).toInt ≤ l1_3.toInt) := by rw [fa_le] at c4; exact c4
              have rg27 := fb_rng l1_3
              have rg28 := fb_rng (v 24)
              refine lv_aload_n hx hb dX11_begin_31 rfl (lv_at hl 1 rfl) ?_
              refine va_get (D := (dC, dI)) (ci := 11) (v := .ref (r 60)) (C := RX11) (T := TX11) (N := 79) hx hb hts inB_11 hown hE.1 hP 0 rfl rfl 60 (by decide) (hts _ k_1380) (fun _ h9 => h9) rfl dX11_begin_32 ?_
              refine lv_iload_n hx hb dX11_begin_35 rfl (lv_at hl 0 rfl) ?_
              refine lv_aload_n hx hb dX11_begin_36 rfl (lv_at hl 1 rfl) ?_
              refine va_get (D := (dC, dI)) (ci := 11) (v := .ref (r 35)) (C := RX11) (T := TX11) (N := 79) hx hb hts inB_11 hown hE.1 hP 0 rfl rfl 35 (by decide) (hts _ k_1355) (fun _ h9 => h9) rfl dX11_begin_37 ?_
              refine lv_iload_n hx hb dX11_begin_40 rfl (lv_at hl 0 rfl) ?_
              refine ldI hx hb hE hP 18 rfl (vp_in_iff.mpr ⟨by omega, by omega⟩) rfl rfl dX11_begin_41 ?_
              refine lv_topi (fun t29 et29 => ?_)
              refine stI hx hb hE hP hD hS 25 rfl (vp_in_iff.mpr ⟨by omega, by omega⟩) rfl dX11_begin_42 (fun H locs hP hD hS => ?_)
              obtain ⟨f30, ef30, hP, hD⟩ : ∃ fz9, fz9 = upd2 f3 24 (upd (f3 24) l1_3.toNatClampNeg t29) ∧ va_P (dC, dI) vwCl (YW cy y0 r v3 fz9 w3 g3) H ∧ va_D A (YW cy y0 r v3 fz9 w3 g3) := ⟨_, rfl, hP, hD⟩
              have hCf30 : YC f30 := by rw [ef30]; exact ⟨hCf3.1, (wear_st hCf3.2.1 (by show l1_3.toInt.toNat % 39 < 6 ∨ 12 ≤ l1_3.toInt.toNat % 39 ∨ (-1 ≤ t29.toInt ∧ t29.toInt ≤ 5); omega)), hCf3.2.2.1, hCf3.2.2.2.1, hCf3.2.2.2.2.1, hCf3.2.2.2.2.2⟩
              have hRf30 : progOK (f30 4) (f30 5) (v3 9).toInt.toNat := by rw [ef30]; exact hRf3
              have hA_f30 : KF [24] f30 f := by rw [ef30]; exact KF.up hA_f3 rfl
              refine lv_aload_n hx hb dX11_begin_43 rfl (lv_at hl 1 rfl) ?_
              refine va_get (D := (dC, dI)) (ci := 11) (v := .ref (r 60)) (C := RX11) (T := TX11) (N := 79) hx hb hts inB_11 hown hE.1 hP 0 rfl rfl 60 (by decide) (hts _ k_1380) (fun _ h9 => h9) rfl dX11_begin_44 ?_
              refine lv_bipush (v := 6) hx hb dX11_begin_47 (by decide) ?_
              refine lv_iload_n hx hb dX11_begin_49 rfl (lv_at hl 0 rfl) ?_
              refine lv_iadd hx hb dX11_begin_50 ?_
              refine lv_topi (fun t31 et31 => ?_)
              have zt31 : t31.toInt = 6 + l1_3.toInt := by rw [et31]; exact add_i (by decide) rfl (by omega) (by omega)
              refine lv_iconst (v := (-1)) hx hb dX11_begin_51 (by decide) ?_
              refine stI hx hb hE hP hD hS 25 rfl (vp_in_iff.mpr ⟨by omega, by omega⟩) rfl dX11_begin_52 (fun H locs hP hD hS => ?_)
              obtain ⟨f32, ef32, hP, hD⟩ : ∃ fz9, fz9 = upd2 f30 24 (upd (f30 24) t31.toNatClampNeg (-1)) ∧ va_P (dC, dI) vwCl (YW cy y0 r v3 fz9 w3 g3) H ∧ va_D A (YW cy y0 r v3 fz9 w3 g3) := ⟨_, rfl, hP, hD⟩
              have hCf32 : YC f32 := by rw [ef32]; exact ⟨hCf30.1, (wear_st hCf30.2.1 (by have q9 : ((-1) : Int32).toInt = -1 := (by decide); show t31.toInt.toNat % 39 < 6 ∨ 12 ≤ t31.toInt.toNat % 39 ∨ (-1 ≤ ((-1) : Int32).toInt ∧ ((-1) : Int32).toInt ≤ 5); omega)), hCf30.2.2.1, hCf30.2.2.2.1, hCf30.2.2.2.2.1, hCf30.2.2.2.2.2⟩
              have hRf32 : progOK (f32 4) (f32 5) (v3 9).toInt.toNat := by rw [ef32]; exact hRf30
              have hA_f32 : KF [24] f32 f := by rw [ef32]; exact KF.up hA_f30 rfl
              obtain ⟨t33, et33⟩ : ∃ y : Int32, y = l1_3 + 1 := ⟨_, rfl⟩
              have zt33 : t33.toInt = l1_3.toInt + 1 := by rw [et33]; exact add_i rfl (by decide) (by omega) (by omega)
              refine lv_iinc (v := t33) (lv' := [(1, .int t33), (0, .ref y0)]) hx hb dX11_begin_53 hl (k := 0) rfl (by rw [et33]; rfl) (by decide) rfl (fun ls hl => ?_)
              refine lv_goto (tgt := 23) hx hb dX11_begin_56 (by decide) ?_
              have rg34 := fb_rng t33
              exact ih3 t33 v3 f32 w3 g3 hIv3 hCf32 hRf32 hq0_v3 hq1_v3 hq2_v3 hq3_v3 hq4_v3 hq5_v3 hq8_v3 hq9_v3 hq10_v3 hq13_v3 hq14_v3 hq15_v3 hq17_v3 hq18_v3 hq24_v3 hq25_v3 hq35_v3 hq36_v3 hq38_v3 hq39_v3 ((gsY_X11_begin_1_q3 c4 et29 ef30 et31 ef32 et33).symm.trans hT3) ⟨show (0 : Int) ≤ t33.toInt by omega, show t33.toInt ≤ (2147483647 : Int) by omega⟩ hM_v3 hA_f32 (by show (2147483647 - t33.toInt).toNat < n3; omega) _ _ _ hP hD hS (lv_sub hl [0, 1] rfl)
        exact lp3 (4294967296 + NF) 0 v1 f1 w1 g1 hIv1 hCf1 hRf1 hq0_v1 hq1_v1 hq2_v1 hq3_v1 hq4_v1 hq5_v1 hq8_v1 hq9_v1 hq10_v1 hq13_v1 hq14_v1 hq15_v1 hq17_v1 hq18_v1 hq24_v1 hq25_v1 hq35_v1 hq36_v1 hq38_v1 hq39_v1 ((gsY_X11_begin_1_q4 c2).symm.trans hT1) ⟨by decide, by decide⟩ hM_v1 hA_f1 (by have q1 : (0 : Int32).toInt = 0 := (by decide); show (2147483647 - (0 : Int32).toInt).toNat < 4294967296 + NF; omega) _ _ _ hP hD hS (lv_sub hl [0, 1] rfl)
      · skip
        have zc2 : ¬ (39 ≤ l1_1.toInt) := by rw [fa_le, show (39 : Int32).toInt = 39 from by decide] at c2; exact c2
        refine lv_aload_n hx hb dX11_begin_8 rfl (lv_at hl 1 rfl) ?_
        refine va_get (D := (dC, dI)) (ci := 11) (v := .ref (r 60)) (C := RX11) (T := TX11) (N := 79) hx hb hts inB_11 hown hE.1 hP 0 rfl rfl 60 (by decide) (hts _ k_1380) (fun _ h9 => h9) rfl dX11_begin_9 ?_
        refine lv_iload_n hx hb dX11_begin_12 rfl (lv_at hl 0 rfl) ?_
        refine lv_iconst (v := 0) hx hb dX11_begin_13 (by decide) ?_
        refine stI hx hb hE hP hD hS 25 rfl (vp_in_iff.mpr ⟨by omega, by omega⟩) rfl dX11_begin_14 (fun H locs hP hD hS => ?_)
        obtain ⟨f35, ef35, hP, hD⟩ : ∃ fz9, fz9 = upd2 f1 24 (upd (f1 24) l1_1.toNatClampNeg 0) ∧ va_P (dC, dI) vwCl (YW cy y0 r v1 fz9 w1 g1) H ∧ va_D A (YW cy y0 r v1 fz9 w1 g1) := ⟨_, rfl, hP, hD⟩
        have hCf35 : YC f35 := by rw [ef35]; exact ⟨hCf1.1, (wear_st hCf1.2.1 (by have q9 : (0 : Int32).toInt = 0 := (by decide); show l1_1.toInt.toNat % 39 < 6 ∨ 12 ≤ l1_1.toInt.toNat % 39 ∨ (-1 ≤ (0 : Int32).toInt ∧ (0 : Int32).toInt ≤ 5); omega)), hCf1.2.2.1, hCf1.2.2.2.1, hCf1.2.2.2.2.1, hCf1.2.2.2.2.2⟩
        have hRf35 : progOK (f35 4) (f35 5) (v1 9).toInt.toNat := by rw [ef35]; exact hRf1
        have hA_f35 : KF [24] f35 f := by rw [ef35]; exact KF.up hA_f1 rfl
        obtain ⟨t36, et36⟩ : ∃ y : Int32, y = l1_1 + 1 := ⟨_, rfl⟩
        have rg37 := fb_rng l1_1
        have zt36 : t36.toInt = l1_1.toInt + 1 := by rw [et36]; exact add_i rfl (by decide) (by omega) (by omega)
        refine lv_iinc (v := t36) (lv' := [(1, .int t36), (0, .ref y0)]) hx hb dX11_begin_15 hl (k := 0) rfl (by rw [et36]; rfl) (by decide) rfl (fun ls hl => ?_)
        refine lv_goto (tgt := 2) hx hb dX11_begin_18 (by decide) ?_
        have rg38 := fb_rng t36
        exact ih1 t36 v1 f35 w1 g1 hIv1 hCf35 hRf35 hq0_v1 hq1_v1 hq2_v1 hq3_v1 hq4_v1 hq5_v1 hq8_v1 hq9_v1 hq10_v1 hq13_v1 hq14_v1 hq15_v1 hq17_v1 hq18_v1 hq24_v1 hq25_v1 hq35_v1 hq36_v1 hq38_v1 hq39_v1 ((gsY_X11_begin_1_q5 c2 ef35 et36).symm.trans hT1) ⟨show (0 : Int) ≤ t36.toInt by omega, show t36.toInt ≤ (2147483647 : Int) by omega⟩ hM_v1 hA_f35 (by show (2147483647 - t36.toInt).toNat < n1; omega) _ _ _ hP hD hS (lv_sub hl [0, 1] rfl)
  exact lp1 (4294967296 + NF) 0 v f w g hIv hCf hRf rfl rfl rfl rfl rfl rfl rfl rfl rfl rfl rfl rfl rfl rfl rfl rfl rfl rfl rfl rfl gsY_X11_begin_1_q6.symm ⟨by decide, by decide⟩ hM_v hA_f (by have q1 : (0 : Int32).toInt = 0 := (by decide); show (2147483647 - (0 : Int32).toInt).toNat < 4294967296 + NF; omega) _ _ _ hP hD hS (lv_sub hl [0, 1] rfl)
set_option maxHeartbeats 4000000 in
set_option maxRecDepth 100000 in
theorem sY_X11_keepAir_1 (NF : Nat) (l : Launch) (dC : Nat → ClassId) (dI : Nat → Nat → Nat) (cy : Nat → ClassId) (y0 : Nat) (r : Nat → Nat)  (v : Nat → Int32) (f : Nat → Nat → Int32) (w : Int64) (g : Nat → Int64) (hIv : YI v) (hCf : YC f) (hRf : progOK (f 4) (f 5) (v 9).toInt.toNat)  : ctV l (dC, dI) cy yX11_keepAir cX11_keepAir 2 1 60 0 0 ((Nat → Int32) × (Nat → Nat → Int32) × (Int64) × (Nat → Int64)) [.ref y0] (YW cy y0 r v f w g) (fun u => gsY_X11_keepAir_1 NF v f w g = u ∧ KV [] u.1 v ∧ KF [23] u.2.1 f ∧ YI u.1 ∧ YC u.2.1 ∧ progOK (u.2.1 4) (u.2.1 5) (u.1 9).toInt.toNat ∧ u.1 0 = v 0 ∧ u.1 1 = v 1 ∧ u.1 2 = v 2 ∧ u.1 3 = v 3 ∧ u.1 4 = v 4 ∧ u.1 5 = v 5 ∧ u.1 8 = v 8 ∧ u.1 9 = v 9 ∧ u.1 10 = v 10 ∧ u.1 13 = v 13 ∧ u.1 14 = v 14 ∧ u.1 15 = v 15 ∧ u.1 17 = v 17 ∧ u.1 18 = v 18 ∧ u.1 24 = v 24 ∧ u.1 25 = v 25 ∧ u.1 35 = v 35 ∧ u.1 36 = v 36 ∧ u.1 38 = v 38 ∧ u.1 39 = v 39) (fun u => YW cy y0 r u.1 u.2.1 u.2.2.1 u.2.2.2) := by
  refine ctV_of (by decide) (Nat.le_of_ble_eq_true rfl) (fun p e s m below meth c A ls Q hx hb hml hts hown hnm hE hP hD hA hl ret => ?_)
  have hUv : (v 35).toInt + (v 36).toInt ≤ 40 := hIv.2
  have hM_v : KV [] v v := fun _ _ => rfl
  have hA_f : KF [23] f f := fun _ _ => rfl
  have hown : s.vm.findClass RX11 = some m.cls := hown
  have hS : va_S A s.heap s.heap [] := va_S.rf
  have hl : lv_has ls 2 [(0, .ref y0)] := hl
  refine lv_iconst (v := 0) hx hb dX11_keepAir_0 (by decide) ?_
  refine lv_istore_n (lv' := [(1, .int 0), (0, .ref y0)]) hx hb dX11_keepAir_1 rfl hl (by decide) rfl (fun ls hl => ?_)
  have lp1 : ∀ (n1 : Nat) (l1_1 : Int32) (v1 : Nat → Int32) (f1 : Nat → Nat → Int32) (w1 : Int64) (g1 : Nat → Int64), YI v1 → YC f1 → progOK (f1 4) (f1 5) (v1 9).toInt.toNat → v1 0 = (v 0) → v1 1 = (v 1) → v1 2 = (v 2) → v1 3 = (v 3) → v1 4 = (v 4) → v1 5 = (v 5) → v1 8 = (v 8) → v1 9 = (v 9) → v1 10 = (v 10) → v1 13 = (v 13) → v1 14 = (v 14) → v1 15 = (v 15) → v1 17 = (v 17) → v1 18 = (v 18) → v1 24 = (v 24) → v1 25 = (v 25) → v1 35 = (v 35) → v1 36 = (v 36) → v1 38 = (v 38) → v1 39 = (v 39) → gsY_X11_keepAir_1_L1 NF n1 l1_1 v1 f1 w1 g1 = (gsY_X11_keepAir_1 NF v f w g) → ((0 : Int) ≤ l1_1.toInt ∧ l1_1.toInt ≤ 2147483647) → KV [] v1 v → KF [23] f1 f → (2147483647 - l1_1.toInt).toNat < n1 → ∀ (H : Heap) (locs : List Loc) (ls : Array Slot), va_P (dC, dI) vwCl (YW cy y0 r v1 f1 w1 g1) H → va_D A (YW cy y0 r v1 f1 w1 g1) → va_S A s.heap H locs → lv_has ls 2 [(1, .int l1_1), (0, .ref y0)] → W p l e { frames := 1, cells := 0, slots := 0, locals := 60 } s m ([.ref y0] : List Value).toArray below meth c H locs 0 0 Q (F0 m 2 ls []) := by
    intro n1
    induction n1 with
    | zero => intro l1_1 v1 f1 w1 g1 hIv1 hCf1 hRf1 hq0_v1 hq1_v1 hq2_v1 hq3_v1 hq4_v1 hq5_v1 hq8_v1 hq9_v1 hq10_v1 hq13_v1 hq14_v1 hq15_v1 hq17_v1 hq18_v1 hq24_v1 hq25_v1 hq35_v1 hq36_v1 hq38_v1 hq39_v1 hT1 hr1_1 hM_v1 hA_f1 hm; exact absurd hm (Nat.not_lt_zero _)
    | succ n1 ih1 =>
      intro l1_1 v1 f1 w1 g1 hIv1 hCf1 hRf1 hq0_v1 hq1_v1 hq2_v1 hq3_v1 hq4_v1 hq5_v1 hq8_v1 hq9_v1 hq10_v1 hq13_v1 hq14_v1 hq15_v1 hq17_v1 hq18_v1 hq24_v1 hq25_v1 hq35_v1 hq36_v1 hq38_v1 hq39_v1 hT1 hr1_1 hM_v1 hA_f1 hm1 H locs ls hP hD hS hl
      have hUv1 : (v1 35).toInt + (v1 36).toInt ≤ 40 := hIv1.2
      have zq9_v1 := congrArg Int32.toInt hq9_v1
      refine lv_iload_n hx hb dX11_keepAir_2 rfl (lv_at hl 0 rfl) ?_
      refine lv_bipush (v := 39) hx hb dX11_keepAir_3 (by decide) ?_
      refine lv_icmp_ge (tgt := 26) hx hb dX11_keepAir_5 (by decide) (fun c2 => ?_) (fun c2 => ?_)
      · skip
        have zc2 : 39 ≤ l1_1.toInt := by rw [fa_le, show (39 : Int32).toInt = 39 from by decide] at c2; exact c2
        exact ret (v1, f1, w1, g1) _ _ _ _ _ _ ⟨(hT1.symm.trans (gsY_X11_keepAir_1_q0 c2)), hM_v1, hA_f1, hIv1, hCf1, hRf1, (show v1 0 = v 0 from hq0_v1), (show v1 1 = v 1 from hq1_v1), (show v1 2 = v 2 from hq2_v1), (show v1 3 = v 3 from hq3_v1), (show v1 4 = v 4 from hq4_v1), (show v1 5 = v 5 from hq5_v1), (show v1 8 = v 8 from hq8_v1), (show v1 9 = v 9 from hq9_v1), (show v1 10 = v 10 from hq10_v1), (show v1 13 = v 13 from hq13_v1), (show v1 14 = v 14 from hq14_v1), (show v1 15 = v 15 from hq15_v1), (show v1 17 = v 17 from hq17_v1), (show v1 18 = v 18 from hq18_v1), (show v1 24 = v 24 from hq24_v1), (show v1 25 = v 25 from hq25_v1), (show v1 35 = v 35 from hq35_v1), (show v1 36 = v 36 from hq36_v1), (show v1 38 = v 38 from hq38_v1), (show v1 39 = v 39 from hq39_v1)⟩ hP hD hS dX11_keepAir_26 (Nat.le_refl _) (Nat.le_refl _)
      · skip
        have zc2 : ¬ (39 ≤ l1_1.toInt) := by rw [fa_le, show (39 : Int32).toInt = 39 from by decide] at c2; exact c2
        refine lv_aload_n hx hb dX11_keepAir_8 rfl (lv_at hl 1 rfl) ?_
        refine va_get (D := (dC, dI)) (ci := 11) (v := .ref (r 59)) (C := RX11) (T := TX11) (N := 79) hx hb hts inB_11 hown hE.1 hP 0 rfl rfl 59 (by decide) (hts _ k_1379) (fun _ h9 => h9) rfl dX11_keepAir_9 ?_
        refine lv_iload_n hx hb dX11_keepAir_12 rfl (lv_at hl 0 rfl) ?_
        refine lv_aload_n hx hb dX11_keepAir_13 rfl (lv_at hl 1 rfl) ?_
        refine va_get (D := (dC, dI)) (ci := 11) (v := .ref (r 60)) (C := RX11) (T := TX11) (N := 79) hx hb hts inB_11 hown hE.1 hP 0 rfl rfl 60 (by decide) (hts _ k_1380) (fun _ h9 => h9) rfl dX11_keepAir_14 ?_
        refine lv_iload_n hx hb dX11_keepAir_17 rfl (lv_at hl 0 rfl) ?_
        refine ldI hx hb hE hP 25 rfl (vp_in_iff.mpr ⟨by omega, by omega⟩) rfl rfl dX11_keepAir_18 ?_
        refine lv_topi (fun t3 et3 => ?_)
        have zt3 : l1_1.toInt.toNat % 39 < 6 ∨ 12 ≤ l1_1.toInt.toNat % 39 ∨ (-1 ≤ t3.toInt ∧ t3.toInt ≤ 5) := by rw [et3]; exact wear_ld hCf1.2.1 (show l1_1.toInt.toNat < 39 by omega)
        refine stI hx hb hE hP hD hS 24 rfl (vp_in_iff.mpr ⟨by omega, by omega⟩) rfl dX11_keepAir_19 (fun H locs hP hD hS => ?_)
        obtain ⟨f4, ef4, hP, hD⟩ : ∃ fz9, fz9 = upd2 f1 23 (upd (f1 23) l1_1.toNatClampNeg t3) ∧ va_P (dC, dI) vwCl (YW cy y0 r v1 fz9 w1 g1) H ∧ va_D A (YW cy y0 r v1 fz9 w1 g1) := ⟨_, rfl, hP, hD⟩
        have hCf4 : YC f4 := by rw [ef4]; exact ⟨(wear_st hCf1.1 (by show l1_1.toInt.toNat % 39 < 6 ∨ 12 ≤ l1_1.toInt.toNat % 39 ∨ (-1 ≤ t3.toInt ∧ t3.toInt ≤ 5); omega)), hCf1.2.1, hCf1.2.2.1, hCf1.2.2.2.1, hCf1.2.2.2.2.1, hCf1.2.2.2.2.2⟩
        have hRf4 : progOK (f4 4) (f4 5) (v1 9).toInt.toNat := by rw [ef4]; exact hRf1
        have hA_f4 : KF [23] f4 f := by rw [ef4]; exact KF.up hA_f1 rfl
        obtain ⟨t5, et5⟩ : ∃ y : Int32, y = l1_1 + 1 := ⟨_, rfl⟩
        have rg6 := fb_rng l1_1
        have zt5 : t5.toInt = l1_1.toInt + 1 := by rw [et5]; exact add_i rfl (by decide) (by omega) (by omega)
        refine lv_iinc (v := t5) (lv' := [(1, .int t5), (0, .ref y0)]) hx hb dX11_keepAir_20 hl (k := 0) rfl (by rw [et5]; rfl) (by decide) rfl (fun ls hl => ?_)
        refine lv_goto (tgt := 2) hx hb dX11_keepAir_23 (by decide) ?_
        have rg7 := fb_rng t5
        exact ih1 t5 v1 f4 w1 g1 hIv1 hCf4 hRf4 hq0_v1 hq1_v1 hq2_v1 hq3_v1 hq4_v1 hq5_v1 hq8_v1 hq9_v1 hq10_v1 hq13_v1 hq14_v1 hq15_v1 hq17_v1 hq18_v1 hq24_v1 hq25_v1 hq35_v1 hq36_v1 hq38_v1 hq39_v1 ((gsY_X11_keepAir_1_q1 c2 et3 ef4 et5).symm.trans hT1) ⟨show (0 : Int) ≤ t5.toInt by omega, show t5.toInt ≤ (2147483647 : Int) by omega⟩ hM_v1 hA_f4 (by show (2147483647 - t5.toInt).toNat < n1; omega) _ _ _ hP hD hS (lv_sub hl [0, 1] rfl)
  exact lp1 (4294967296 + NF) 0 v f w g hIv hCf hRf rfl rfl rfl rfl rfl rfl rfl rfl rfl rfl rfl rfl rfl rfl rfl rfl rfl rfl rfl rfl gsY_X11_keepAir_1_q2.symm ⟨by decide, by decide⟩ hM_v hA_f (by have q1 : (0 : Int32).toInt = 0 := (by decide); show (2147483647 - (0 : Int32).toInt).toNat < 4294967296 + NF; omega) _ _ _ hP hD hS (lv_sub hl [0, 1] rfl)
