set_option maxHeartbeats 4000000 in
set_option maxRecDepth 100000 in
theorem sY_X11_readMan_1 (l : Launch) (dC : Nat → ClassId) (dI : Nat → Nat → Nat) (cy : Nat → ClassId) (y0 : Nat) (r : Nat → Nat)  (v : Nat → Int32) (f : Nat → Nat → Int32) (w : Int64) (g : Nat → Int64) (hIv : YI v) (hCf : YC f) (hRf : progOK (f 4) (f 5) (v 9).toInt.toNat)  (hf0 : (v 17).toInt ≤ 5) : ctV l (dC, dI) cy yX11_readMan cX11_readMan 1 6 172 0 0 ((Nat → Int32) × (Nat → Nat → Int32) × (Int64) × (Nat → Int64)) [.ref y0] (YW cy y0 r v f w g) (fun u => YI u.1 ∧ YC u.2.1 ∧ progOK (u.2.1 4) (u.2.1 5) (u.1 9).toInt.toNat ∧ u.1 0 = v 0 ∧ u.1 4 = v 4 ∧ u.1 8 = v 8 ∧ u.1 9 = v 9 ∧ u.1 10 = v 10 ∧ u.1 13 = v 13 ∧ u.1 14 = v 14 ∧ u.1 15 = v 15 ∧ u.1 18 = v 18 ∧ u.1 24 = v 24 ∧ u.1 25 = v 25 ∧ u.1 35 = v 35 ∧ u.1 36 = v 36 ∧ u.1 38 = v 38 ∧ u.1 39 = v 39 ∧ ((v 3).toInt ≤ (u.1 3).toInt) ∧ ((u.1 5).toInt = (v 5).toInt ∨ (v 3).toInt < (u.1 3).toInt ∨ ¬ (u.1 5).toInt = 59) ∧ u.2.1 2 = f 2 ∧ u.2.1 3 = f 3 ∧ u.2.1 6 = f 6) (fun u => YW cy y0 r u.1 u.2.1 u.2.2.1 u.2.2.2) := by
  refine ctV_of (by decide) (Nat.le_of_ble_eq_true rfl) (fun p e s m below meth c A ls Q hx hb hml hts hown hnm hE hP hD hA hl ret => ?_)
  have hUv : (v 35).toInt + (v 36).toInt ≤ 40 := hIv.2
  have b0_v : (0 : Int) ≤ (v 0).toInt ∧ (v 0).toInt ≤ 1600 := YIb.b hIv.1 0 (by decide)
  have b1_v : (0 : Int) ≤ (v 1).toInt ∧ (v 1).toInt ≤ 4 := YIb.b hIv.1 1 (by decide)
  have b3_v : (0 : Int) ≤ (v 3).toInt ∧ (v 3).toInt ≤ 1600 := YIb.b hIv.1 3 (by decide)
  have b4_v : (0 : Int) ≤ (v 4).toInt ∧ (v 4).toInt ≤ 1600 := YIb.b hIv.1 4 (by decide)
  have b8_v : (0 : Int) ≤ (v 8).toInt ∧ (v 8).toInt ≤ 320 := YIb.b hIv.1 8 (by decide)
  have b9_v : (0 : Int) ≤ (v 9).toInt ∧ (v 9).toInt ≤ 320 := YIb.b hIv.1 9 (by decide)
  have b10_v : (0 : Int) ≤ (v 10).toInt ∧ (v 10).toInt ≤ 160 := YIb.b hIv.1 10 (by decide)
  have b13_v : (0 : Int) ≤ (v 13).toInt ∧ (v 13).toInt ≤ 31 := YIb.b hIv.1 13 (by decide)
  have b14_v : (0 : Int) ≤ (v 14).toInt ∧ (v 14).toInt ≤ 8 := YIb.b hIv.1 14 (by decide)
  have b17_v : (0 : Int) ≤ (v 17).toInt ∧ (v 17).toInt ≤ 6 := YIb.b hIv.1 17 (by decide)
  have b18_v : (0 : Int) ≤ (v 18).toInt ∧ (v 18).toInt ≤ 6 := YIb.b hIv.1 18 (by decide)
  have b24_v : (0 : Int) ≤ (v 24).toInt ∧ (v 24).toInt ≤ 6 := YIb.b hIv.1 24 (by decide)
  have b25_v : (0 : Int) ≤ (v 25).toInt ∧ (v 25).toInt ≤ 6 := YIb.b hIv.1 25 (by decide)
  have b35_v : (0 : Int) ≤ (v 35).toInt ∧ (v 35).toInt ≤ 40 := YIb.b hIv.1 35 (by decide)
  have b36_v : (0 : Int) ≤ (v 36).toInt ∧ (v 36).toInt ≤ 40 := YIb.b hIv.1 36 (by decide)
  have b37_v : (0 : Int) ≤ (v 37).toInt ∧ (v 37).toInt ≤ 6 := YIb.b hIv.1 37 (by decide)
  have b38_v : (0 : Int) ≤ (v 38).toInt ∧ (v 38).toInt ≤ 30 := YIb.b hIv.1 38 (by decide)
  have b39_v : (0 : Int) ≤ (v 39).toInt ∧ (v 39).toInt ≤ 100000 := YIb.b hIv.1 39 (by decide)
  have hown : s.vm.findClass RX11 = some m.cls := hown
  have hS : va_S A s.heap s.heap [] := va_S.rf
  have hl : lv_has ls 1 [(0, .ref y0)] := hl
  refine lv_aload_n hx hb dX11_readMan_0 rfl (lv_at hl 0 rfl) ?_
  refine lv_iconst (v := 0) hx hb dX11_readMan_1 (by decide) ?_
  refine lv_aload_n hx hb dX11_readMan_2 rfl (lv_at hl 0 rfl) ?_
  refine va_get (D := (dC, dI)) (ci := 11) (v := .int (v 17)) (C := RX11) (T := TX11) (N := 79) hx hb hts inB_11 hown hE.1 hP 0 rfl rfl 41 (by decide) (hts _ k_1361) (fun _ h9 => h9) rfl dX11_readMan_3 ?_
  have b17_v : 0 ≤ (v 17).toInt ∧ (v 17).toInt ≤ 6 := YIb.b hIv.1 17 (by decide)
  refine cbVv (n := 2) (rest := []) hx hb hml hown hts hE hP hD hS hA (sY_X11_newName_1 l dC dI cy y0 r 0 (v 17) v f w g hIv hCf hRf ⟨by decide, by decide⟩ ⟨show (0 : Int) ≤ (v 17).toInt by omega, show (v 17).toInt ≤ (5 : Int) by omega⟩) k_1609 k_1611 k_47 k_114 k_1612 (by decide +kernel) ⟨Nat.le_of_ble_eq_true rfl, Nat.le_of_ble_eq_true rfl⟩ 0 11 rfl rfl (rfl) hl.1 rfl (Nat.le_of_ble_eq_true rfl) dX11_readMan_6 (fun u H locs hw hP hD hS => ?_)
  obtain ⟨v1, f2, w3, g4⟩ := u
  obtain ⟨hIv1, hCf2, hRf2, hk0_v1, hk4_v1, hk8_v1, hk9_v1, hk10_v1, hk13_v1, hk14_v1, hk15_v1, hk17_v1, hk18_v1, hk24_v1, hk25_v1, hk35_v1, hk36_v1, hk38_v1, hk39_v1, pv5, pv6, kq7, kq8, kq9⟩ := hw
  have hP : va_P (dC, dI) vwCl (YW cy y0 r v1 f2 w3 g4) H := hP
  have hD : va_D A (YW cy y0 r v1 f2 w3 g4) := hD
  have b3_v1 : 0 ≤ (v1 3).toInt ∧ (v1 3).toInt ≤ 1600 := YIb.b hIv1.1 3 (by decide)
  have pv5 : (v 3).toInt ≤ (v1 3).toInt := pv5
  have pv6 : (v1 5).toInt = (v 5).toInt ∨ (v 3).toInt < (v1 3).toInt ∨ ¬ (v1 5).toInt = 59 := pv6
  have hs2_f2 : f2 2 = (f 2) := kq7
  have hs3_f2 : f2 3 = (f 3) := kq8
  have hs6_f2 : f2 6 = (f 6) := kq9
  have hUv1 : (v1 35).toInt + (v1 36).toInt ≤ 40 := hIv1.2
  have hq0_v1 : v1 0 = (v 0) := hk0_v1
  have hq4_v1 : v1 4 = (v 4) := hk4_v1
  have zq4_v1 := congrArg Int32.toInt hq4_v1
  have hq8_v1 : v1 8 = (v 8) := hk8_v1
  have zq8_v1 := congrArg Int32.toInt hq8_v1
  have hq9_v1 : v1 9 = (v 9) := hk9_v1
  have zq9_v1 := congrArg Int32.toInt hq9_v1
  have hq10_v1 : v1 10 = (v 10) := hk10_v1
  have zq10_v1 := congrArg Int32.toInt hq10_v1
  have hq13_v1 : v1 13 = (v 13) := hk13_v1
  have zq13_v1 := congrArg Int32.toInt hq13_v1
  have hq14_v1 : v1 14 = (v 14) := hk14_v1
  have zq14_v1 := congrArg Int32.toInt hq14_v1
  have hq15_v1 : v1 15 = (v 15) := hk15_v1
  have zq15_v1 := congrArg Int32.toInt hq15_v1
  have hq17_v1 : v1 17 = (v 17) := hk17_v1
  have zq17_v1 := congrArg Int32.toInt hq17_v1
  have hq18_v1 : v1 18 = (v 18) := hk18_v1
  have zq18_v1 := congrArg Int32.toInt hq18_v1
  have hq24_v1 : v1 24 = (v 24) := hk24_v1
  have hq25_v1 : v1 25 = (v 25) := hk25_v1
  have hq35_v1 : v1 35 = (v 35) := hk35_v1
  have zq35_v1 := congrArg Int32.toInt hq35_v1
  have hq36_v1 : v1 36 = (v 36) := hk36_v1
  have zq36_v1 := congrArg Int32.toInt hq36_v1
  have hq38_v1 : v1 38 = (v 38) := hk38_v1
  have hq39_v1 : v1 39 = (v 39) := hk39_v1
  refine lv_aload_n hx hb dX11_readMan_9 rfl (lv_at hl 0 rfl) ?_
  refine va_get (D := (dC, dI)) (ci := 11) (v := .ref (r 27)) (C := RX11) (T := TX11) (N := 79) hx hb hts inB_11 hown hE.1 hP 0 rfl rfl 27 (by decide) (hts _ k_1347) (fun _ h9 => h9) rfl dX11_readMan_10 ?_
  refine lv_aload_n hx hb dX11_readMan_13 rfl (lv_at hl 0 rfl) ?_
  refine va_get (D := (dC, dI)) (ci := 11) (v := .int (v1 17)) (C := RX11) (T := TX11) (N := 79) hx hb hts inB_11 hown hE.1 hP 0 rfl rfl 41 (by decide) (hts _ k_1361) (fun _ h9 => h9) rfl dX11_readMan_14 ?_
  refine tI (y := (v 17)) hq17_v1 ?_
  have b17_v : 0 ≤ (v 17).toInt ∧ (v 17).toInt ≤ 6 := YIb.b hIv.1 17 (by decide)
  refine lv_aload_n hx hb dX11_readMan_17 rfl (lv_at hl 0 rfl) ?_
  refine lv_ldc2 (v := 1952541804) hx hb hown (hts _ k_1621) dX11_readMan_18 ?_
  refine lv_bipush (v := 99) hx hb dX11_readMan_21 (by decide) ?_
  refine cbVi (n := 2) (rest := [.int (v 17), .ref (r 27)]) hx hb hml hown hts hE hP hD hS hA (sY_X11_told_1 l dC dI cy y0 r 1952541804 99 v1 f2 w3 g4 hIv1 hCf2 hRf2 ) k_1645 k_1647 k_51 k_114 k_1648 (by decide +kernel) ⟨Nat.le_of_ble_eq_true rfl, Nat.le_of_ble_eq_true rfl⟩ 0 11 rfl rfl (rfl) hl.1 rfl (Nat.le_of_ble_eq_true rfl) dX11_readMan_23 (fun r10 u H locs hw hP hD hS => ?_)
  obtain ⟨v11, f12, w13, g14⟩ := u
  obtain ⟨hIv11, hCf12, hRf12, hk0_v11, hk4_v11, hk8_v11, hk9_v11, hk10_v11, hk13_v11, hk14_v11, hk15_v11, hk17_v11, hk18_v11, hk24_v11, hk25_v11, hk35_v11, hk36_v11, hk38_v11, hk39_v11, pv15, pv16, kq17, kq18, kq19⟩ := hw
  have hP : va_P (dC, dI) vwCl (YW cy y0 r v11 f12 w13 g14) H := hP
  have hD : va_D A (YW cy y0 r v11 f12 w13 g14) := hD
  have b3_v11 : 0 ≤ (v11 3).toInt ∧ (v11 3).toInt ≤ 1600 := YIb.b hIv11.1 3 (by decide)
  have pv15 : (v1 3).toInt ≤ (v11 3).toInt := pv15
  have pv16 : (v11 5).toInt = (v1 5).toInt ∨ (v1 3).toInt < (v11 3).toInt ∨ ¬ (v11 5).toInt = 59 := pv16
  have hs2_f12 : f12 2 = (f 2) := kq17.trans hs2_f2
  have hs3_f12 : f12 3 = (f 3) := kq18.trans hs3_f2
  have hs6_f12 : f12 6 = (f 6) := kq19.trans hs6_f2
  have hUv11 : (v11 35).toInt + (v11 36).toInt ≤ 40 := hIv11.2
  have hq0_v11 : v11 0 = (v 0) := hk0_v11.trans hq0_v1
  have hq4_v11 : v11 4 = (v 4) := hk4_v11.trans hq4_v1
  have zq4_v11 := congrArg Int32.toInt hq4_v11
  have hq8_v11 : v11 8 = (v 8) := hk8_v11.trans hq8_v1
  have zq8_v11 := congrArg Int32.toInt hq8_v11
  have hq9_v11 : v11 9 = (v 9) := hk9_v11.trans hq9_v1
  have zq9_v11 := congrArg Int32.toInt hq9_v11
  have hq10_v11 : v11 10 = (v 10) := hk10_v11.trans hq10_v1
  have zq10_v11 := congrArg Int32.toInt hq10_v11
  have hq13_v11 : v11 13 = (v 13) := hk13_v11.trans hq13_v1
  have zq13_v11 := congrArg Int32.toInt hq13_v11
  have hq14_v11 : v11 14 = (v 14) := hk14_v11.trans hq14_v1
  have zq14_v11 := congrArg Int32.toInt hq14_v11
  have hq15_v11 : v11 15 = (v 15) := hk15_v11.trans hq15_v1
  have zq15_v11 := congrArg Int32.toInt hq15_v11
  have hq17_v11 : v11 17 = (v 17) := hk17_v11.trans hq17_v1
  have zq17_v11 := congrArg Int32.toInt hq17_v11
  have hq18_v11 : v11 18 = (v 18) := hk18_v11.trans hq18_v1
  have zq18_v11 := congrArg Int32.toInt hq18_v11
  have hq24_v11 : v11 24 = (v 24) := hk24_v11.trans hq24_v1
  have hq25_v11 : v11 25 = (v 25) := hk25_v11.trans hq25_v1
  have hq35_v11 : v11 35 = (v 35) := hk35_v11.trans hq35_v1
  have zq35_v11 := congrArg Int32.toInt hq35_v11
  have hq36_v11 : v11 36 = (v 36) := hk36_v11.trans hq36_v1
  have zq36_v11 := congrArg Int32.toInt hq36_v11
  have hq38_v11 : v11 38 = (v 38) := hk38_v11.trans hq38_v1
  have hq39_v11 : v11 39 = (v 39) := hk39_v11.trans hq39_v1
  refine stI hx hb hE hP hD hS 10 rfl (vp_in_iff.mpr ⟨by omega, by omega⟩) rfl dX11_readMan_26 (fun H locs hP hD hS => ?_)
  obtain ⟨f20, ef20, hP, hD⟩ : ∃ fz9, fz9 = upd2 f12 9 (upd (f12 9) (v 17).toNatClampNeg r10) ∧ va_P (dC, dI) vwCl (YW cy y0 r v11 fz9 w13 g14) H ∧ va_D A (YW cy y0 r v11 fz9 w13 g14) := ⟨_, rfl, hP, hD⟩
  have hCf20 : YC f20 := by rw [ef20]; exact hCf12
  have hRf20 : progOK (f20 4) (f20 5) (v11 9).toInt.toNat := by rw [ef20]; exact hRf12
  have hs2_f20 : f20 2 = (f 2) := by rw [ef20]; exact hs2_f12
  have hs3_f20 : f20 3 = (f 3) := by rw [ef20]; exact hs3_f12
  have hs6_f20 : f20 6 = (f 6) := by rw [ef20]; exact hs6_f12
  refine lv_aload_n hx hb dX11_readMan_27 rfl (lv_at hl 0 rfl) ?_
  refine va_get (D := (dC, dI)) (ci := 11) (v := .ref (r 28)) (C := RX11) (T := TX11) (N := 79) hx hb hts inB_11 hown hE.1 hP 0 rfl rfl 28 (by decide) (hts _ k_1348) (fun _ h9 => h9) rfl dX11_readMan_28 ?_
  refine lv_aload_n hx hb dX11_readMan_31 rfl (lv_at hl 0 rfl) ?_
  refine va_get (D := (dC, dI)) (ci := 11) (v := .int (v11 17)) (C := RX11) (T := TX11) (N := 79) hx hb hts inB_11 hown hE.1 hP 0 rfl rfl 41 (by decide) (hts _ k_1361) (fun _ h9 => h9) rfl dX11_readMan_32 ?_
  refine tI (y := (v 17)) hq17_v11 ?_
  have b17_v : 0 ≤ (v 17).toInt ∧ (v 17).toInt ≤ 6 := YIb.b hIv.1 17 (by decide)
  refine lv_aload_n hx hb dX11_readMan_35 rfl (lv_at hl 0 rfl) ?_
  refine lv_ldc2 (v := 2003395685) hx hb hown (hts _ k_1622) dX11_readMan_36 ?_
  refine lv_bipush (v := 99) hx hb dX11_readMan_39 (by decide) ?_
  refine cbVi (n := 2) (rest := [.int (v 17), .ref (r 28)]) hx hb hml hown hts hE hP hD hS hA (sY_X11_told_1 l dC dI cy y0 r 2003395685 99 v11 f20 w13 g14 hIv11 hCf20 hRf20 ) k_1645 k_1647 k_51 k_114 k_1648 (by decide +kernel) ⟨Nat.le_of_ble_eq_true rfl, Nat.le_of_ble_eq_true rfl⟩ 0 11 rfl rfl (rfl) hl.1 rfl (Nat.le_of_ble_eq_true rfl) dX11_readMan_41 (fun r21 u H locs hw hP hD hS => ?_)
  obtain ⟨v22, f23, w24, g25⟩ := u
  obtain ⟨hIv22, hCf23, hRf23, hk0_v22, hk4_v22, hk8_v22, hk9_v22, hk10_v22, hk13_v22, hk14_v22, hk15_v22, hk17_v22, hk18_v22, hk24_v22, hk25_v22, hk35_v22, hk36_v22, hk38_v22, hk39_v22, pv26, pv27, kq28, kq29, kq30⟩ := hw
  have hP : va_P (dC, dI) vwCl (YW cy y0 r v22 f23 w24 g25) H := hP
  have hD : va_D A (YW cy y0 r v22 f23 w24 g25) := hD
  have b3_v22 : 0 ≤ (v22 3).toInt ∧ (v22 3).toInt ≤ 1600 := YIb.b hIv22.1 3 (by decide)
  have pv26 : (v11 3).toInt ≤ (v22 3).toInt := pv26
  have pv27 : (v22 5).toInt = (v11 5).toInt ∨ (v11 3).toInt < (v22 3).toInt ∨ ¬ (v22 5).toInt = 59 := pv27
  have hs2_f23 : f23 2 = (f 2) := kq28.trans hs2_f20
  have hs3_f23 : f23 3 = (f 3) := kq29.trans hs3_f20
  have hs6_f23 : f23 6 = (f 6) := kq30.trans hs6_f20
  have hUv22 : (v22 35).toInt + (v22 36).toInt ≤ 40 := hIv22.2
  have hq0_v22 : v22 0 = (v 0) := hk0_v22.trans hq0_v11
  have hq4_v22 : v22 4 = (v 4) := hk4_v22.trans hq4_v11
  have zq4_v22 := congrArg Int32.toInt hq4_v22
  have hq8_v22 : v22 8 = (v 8) := hk8_v22.trans hq8_v11
  have zq8_v22 := congrArg Int32.toInt hq8_v22
  have hq9_v22 : v22 9 = (v 9) := hk9_v22.trans hq9_v11
  have zq9_v22 := congrArg Int32.toInt hq9_v22
  have hq10_v22 : v22 10 = (v 10) := hk10_v22.trans hq10_v11
  have zq10_v22 := congrArg Int32.toInt hq10_v22
  have hq13_v22 : v22 13 = (v 13) := hk13_v22.trans hq13_v11
  have zq13_v22 := congrArg Int32.toInt hq13_v22
  have hq14_v22 : v22 14 = (v 14) := hk14_v22.trans hq14_v11
  have zq14_v22 := congrArg Int32.toInt hq14_v22
  have hq15_v22 : v22 15 = (v 15) := hk15_v22.trans hq15_v11
  have zq15_v22 := congrArg Int32.toInt hq15_v22
  have hq17_v22 : v22 17 = (v 17) := hk17_v22.trans hq17_v11
  have zq17_v22 := congrArg Int32.toInt hq17_v22
  have hq18_v22 : v22 18 = (v 18) := hk18_v22.trans hq18_v11
  have zq18_v22 := congrArg Int32.toInt hq18_v22
  have hq24_v22 : v22 24 = (v 24) := hk24_v22.trans hq24_v11
  have hq25_v22 : v22 25 = (v 25) := hk25_v22.trans hq25_v11
  have hq35_v22 : v22 35 = (v 35) := hk35_v22.trans hq35_v11
  have zq35_v22 := congrArg Int32.toInt hq35_v22
  have hq36_v22 : v22 36 = (v 36) := hk36_v22.trans hq36_v11
  have zq36_v22 := congrArg Int32.toInt hq36_v22
  have hq38_v22 : v22 38 = (v 38) := hk38_v22.trans hq38_v11
  have hq39_v22 : v22 39 = (v 39) := hk39_v22.trans hq39_v11
  refine stI hx hb hE hP hD hS 11 rfl (vp_in_iff.mpr ⟨by omega, by omega⟩) rfl dX11_readMan_44 (fun H locs hP hD hS => ?_)
  obtain ⟨f31, ef31, hP, hD⟩ : ∃ fz9, fz9 = upd2 f23 10 (upd (f23 10) (v 17).toNatClampNeg r21) ∧ va_P (dC, dI) vwCl (YW cy y0 r v22 fz9 w24 g25) H ∧ va_D A (YW cy y0 r v22 fz9 w24 g25) := ⟨_, rfl, hP, hD⟩
  have hCf31 : YC f31 := by rw [ef31]; exact hCf23
  have hRf31 : progOK (f31 4) (f31 5) (v22 9).toInt.toNat := by rw [ef31]; exact hRf23
  have hs2_f31 : f31 2 = (f 2) := by rw [ef31]; exact hs2_f23
  have hs3_f31 : f31 3 = (f 3) := by rw [ef31]; exact hs3_f23
  have hs6_f31 : f31 6 = (f 6) := by rw [ef31]; exact hs6_f23
  refine lv_aload_n hx hb dX11_readMan_45 rfl (lv_at hl 0 rfl) ?_
  refine va_get (D := (dC, dI)) (ci := 11) (v := .ref (r 29)) (C := RX11) (T := TX11) (N := 79) hx hb hts inB_11 hown hE.1 hP 0 rfl rfl 29 (by decide) (hts _ k_1349) (fun _ h9 => h9) rfl dX11_readMan_46 ?_
  refine lv_aload_n hx hb dX11_readMan_49 rfl (lv_at hl 0 rfl) ?_
  refine va_get (D := (dC, dI)) (ci := 11) (v := .int (v22 17)) (C := RX11) (T := TX11) (N := 79) hx hb hts inB_11 hown hE.1 hP 0 rfl rfl 41 (by decide) (hts _ k_1361) (fun _ h9 => h9) rfl dX11_readMan_50 ?_
  refine tI (y := (v 17)) hq17_v22 ?_
  have b17_v : 0 ≤ (v 17).toInt ∧ (v 17).toInt ≤ 6 := YIb.b hIv.1 17 (by decide)
  refine lv_aload_n hx hb dX11_readMan_53 rfl (lv_at hl 0 rfl) ?_
  refine lv_ldc2 (v := 444301539187) hx hb hown (hts _ k_1623) dX11_readMan_54 ?_
  refine lv_bipush (v := 9) hx hb dX11_readMan_57 (by decide) ?_
  refine cbVi (n := 2) (rest := [.int (v 17), .ref (r 29)]) hx hb hml hown hts hE hP hD hS hA (sY_X11_option_1 l dC dI cy y0 r 444301539187 9 v22 f31 w24 g25 hIv22 hCf31 hRf31 ) k_1657 k_1659 k_54 k_114 k_1660 (by decide +kernel) ⟨Nat.le_of_ble_eq_true rfl, Nat.le_of_ble_eq_true rfl⟩ 0 11 rfl rfl (rfl) hl.1 rfl (Nat.le_of_ble_eq_true rfl) dX11_readMan_59 (fun r32 u H locs hw hP hD hS => ?_)
  obtain ⟨v33, f34, w35, g36⟩ := u
  obtain ⟨hIv33, hCf34, hRf34, hk0_v33, hk4_v33, hk8_v33, hk9_v33, hk10_v33, hk13_v33, hk14_v33, hk15_v33, hk17_v33, hk18_v33, hk24_v33, hk25_v33, hk35_v33, hk36_v33, hk38_v33, hk39_v33, pv37, pv38, kq39, kq40, kq41⟩ := hw
  have hP : va_P (dC, dI) vwCl (YW cy y0 r v33 f34 w35 g36) H := hP
  have hD : va_D A (YW cy y0 r v33 f34 w35 g36) := hD
  have b3_v33 : 0 ≤ (v33 3).toInt ∧ (v33 3).toInt ≤ 1600 := YIb.b hIv33.1 3 (by decide)
  have pv37 : (v22 3).toInt ≤ (v33 3).toInt := pv37
  have pv38 : (v33 5).toInt = (v22 5).toInt ∨ (v22 3).toInt < (v33 3).toInt ∨ ¬ (v33 5).toInt = 59 := pv38
  have hs2_f34 : f34 2 = (f 2) := kq39.trans hs2_f31
  have hs3_f34 : f34 3 = (f 3) := kq40.trans hs3_f31
  have hs6_f34 : f34 6 = (f 6) := kq41.trans hs6_f31
  have hUv33 : (v33 35).toInt + (v33 36).toInt ≤ 40 := hIv33.2
  have hq0_v33 : v33 0 = (v 0) := hk0_v33.trans hq0_v22
  have hq4_v33 : v33 4 = (v 4) := hk4_v33.trans hq4_v22
  have zq4_v33 := congrArg Int32.toInt hq4_v33
  have hq8_v33 : v33 8 = (v 8) := hk8_v33.trans hq8_v22
  have zq8_v33 := congrArg Int32.toInt hq8_v33
  have hq9_v33 : v33 9 = (v 9) := hk9_v33.trans hq9_v22
  have zq9_v33 := congrArg Int32.toInt hq9_v33
  have hq10_v33 : v33 10 = (v 10) := hk10_v33.trans hq10_v22
  have zq10_v33 := congrArg Int32.toInt hq10_v33
  have hq13_v33 : v33 13 = (v 13) := hk13_v33.trans hq13_v22
  have zq13_v33 := congrArg Int32.toInt hq13_v33
  have hq14_v33 : v33 14 = (v 14) := hk14_v33.trans hq14_v22
  have zq14_v33 := congrArg Int32.toInt hq14_v33
  have hq15_v33 : v33 15 = (v 15) := hk15_v33.trans hq15_v22
  have zq15_v33 := congrArg Int32.toInt hq15_v33
  have hq17_v33 : v33 17 = (v 17) := hk17_v33.trans hq17_v22
  have zq17_v33 := congrArg Int32.toInt hq17_v33
  have hq18_v33 : v33 18 = (v 18) := hk18_v33.trans hq18_v22
  have zq18_v33 := congrArg Int32.toInt hq18_v33
  have hq24_v33 : v33 24 = (v 24) := hk24_v33.trans hq24_v22
  have hq25_v33 : v33 25 = (v 25) := hk25_v33.trans hq25_v22
  have hq35_v33 : v33 35 = (v 35) := hk35_v33.trans hq35_v22
  have zq35_v33 := congrArg Int32.toInt hq35_v33
  have hq36_v33 : v33 36 = (v 36) := hk36_v33.trans hq36_v22
  have zq36_v33 := congrArg Int32.toInt hq36_v33
  have hq38_v33 : v33 38 = (v 38) := hk38_v33.trans hq38_v22
  have hq39_v33 : v33 39 = (v 39) := hk39_v33.trans hq39_v22
  refine stI hx hb hE hP hD hS 12 rfl (vp_in_iff.mpr ⟨by omega, by omega⟩) rfl dX11_readMan_62 (fun H locs hP hD hS => ?_)
  obtain ⟨f42, ef42, hP, hD⟩ : ∃ fz9, fz9 = upd2 f34 11 (upd (f34 11) (v 17).toNatClampNeg r32) ∧ va_P (dC, dI) vwCl (YW cy y0 r v33 fz9 w35 g36) H ∧ va_D A (YW cy y0 r v33 fz9 w35 g36) := ⟨_, rfl, hP, hD⟩
  have hCf42 : YC f42 := by rw [ef42]; exact hCf34
  have hRf42 : progOK (f42 4) (f42 5) (v33 9).toInt.toNat := by rw [ef42]; exact hRf34
  have hs2_f42 : f42 2 = (f 2) := by rw [ef42]; exact hs2_f34
  have hs3_f42 : f42 3 = (f 3) := by rw [ef42]; exact hs3_f34
  have hs6_f42 : f42 6 = (f 6) := by rw [ef42]; exact hs6_f34
  refine lv_aload_n hx hb dX11_readMan_63 rfl (lv_at hl 0 rfl) ?_
  refine va_get (D := (dC, dI)) (ci := 11) (v := .int (v33 1)) (C := RX11) (T := TX11) (N := 79) hx hb hts inB_11 hown hE.1 hP 0 rfl rfl 2 (by decide) (hts _ k_1322) (fun _ h9 => h9) rfl dX11_readMan_64 ?_
  have b1_v33 : 0 ≤ (v33 1).toInt ∧ (v33 1).toInt ≤ 4 := YIb.b hIv33.1 1 (by decide)
  refine lv_if_ne (tgt := 80) hx hb dX11_readMan_67 (by decide) (fun c43 => ?_) (fun c43 => ?_)
  · skip
    have zc43 : ¬ ((v33 1).toInt = 0) := by rw [fa_eq, show (0 : Int32).toInt = 0 from by decide] at c43; exact c43
    exact ret (v33, f42, w35, g36) _ _ _ _ _ _ ⟨hIv33, hCf42, hRf42, (hk0_v33.trans (hk0_v22.trans (hk0_v11.trans hk0_v1))), (hk4_v33.trans (hk4_v22.trans (hk4_v11.trans hk4_v1))), (hk8_v33.trans (hk8_v22.trans (hk8_v11.trans hk8_v1))), (hk9_v33.trans (hk9_v22.trans (hk9_v11.trans hk9_v1))), (hk10_v33.trans (hk10_v22.trans (hk10_v11.trans hk10_v1))), (hk13_v33.trans (hk13_v22.trans (hk13_v11.trans hk13_v1))), (hk14_v33.trans (hk14_v22.trans (hk14_v11.trans hk14_v1))), (hk15_v33.trans (hk15_v22.trans (hk15_v11.trans hk15_v1))), (hk18_v33.trans (hk18_v22.trans (hk18_v11.trans hk18_v1))), (hk24_v33.trans (hk24_v22.trans (hk24_v11.trans hk24_v1))), (hk25_v33.trans (hk25_v22.trans (hk25_v11.trans hk25_v1))), (hk35_v33.trans (hk35_v22.trans (hk35_v11.trans hk35_v1))), (hk36_v33.trans (hk36_v22.trans (hk36_v11.trans hk36_v1))), (hk38_v33.trans (hk38_v22.trans (hk38_v11.trans hk38_v1))), (hk39_v33.trans (hk39_v22.trans (hk39_v11.trans hk39_v1))), (by show (v 3).toInt ≤ (v33 3).toInt; omega), (by show (v33 5).toInt = (v 5).toInt ∨ (v 3).toInt < (v33 3).toInt ∨ ¬ (v33 5).toInt = 59; omega), hs2_f42, hs3_f42, hs6_f42⟩ hP hD hS dX11_readMan_80 (Nat.le_refl _) (Nat.le_refl _)
  · skip
    have zc43 : (v33 1).toInt = 0 := by rw [fa_eq, show (0 : Int32).toInt = 0 from by decide] at c43; exact c43
    refine lv_aload_n hx hb dX11_readMan_70 rfl (lv_at hl 0 rfl) ?_
    refine lv_dup hx hb dX11_readMan_71 rfl ?_
    refine va_get (D := (dC, dI)) (ci := 11) (v := .int (v33 17)) (C := RX11) (T := TX11) (N := 79) hx hb hts inB_11 hown hE.1 hP 0 rfl rfl 41 (by decide) (hts _ k_1361) (fun _ h9 => h9) rfl dX11_readMan_72 ?_
    refine tI (y := (v 17)) hq17_v33 ?_
    have b17_v : 0 ≤ (v 17).toInt ∧ (v 17).toInt ≤ 6 := YIb.b hIv.1 17 (by decide)
    refine lv_iconst (v := 1) hx hb dX11_readMan_75 (by decide) ?_
    refine lv_iadd hx hb dX11_readMan_76 ?_
    refine lv_topi (fun t44 et44 => ?_)
    have rg45 := fb_rng (v 17)
    have zt44 : t44.toInt = (v 17).toInt + 1 := by rw [et44]; exact add_i rfl (by decide) (by omega) (by omega)
    refine va_put (D := (dC, dI)) (ci := 11) (v := .int t44) (ty := tyX11 41) (C := RX11) (T := TX11) (N := 79) hx hb hts inB_11 tyX11 tyX11_ok nmX11 hown hE.1 hP hD hS 0 rfl rfl 41 (by decide) (hts _ k_1361) (fun _ h9 => h9) rfl (tyX11_ok 41 (by decide)) rfl rfl (Nat.le_of_ble_eq_true rfl) dX11_readMan_77 (fun H locs hP hD hS => ?_)
    have hP : va_P (dC, dI) vwCl (YW cy y0 r (upd v33 17 t44) f42 w35 g36) H := hP
    have hD : va_D A (YW cy y0 r (upd v33 17 t44) f42 w35 g36) := hD
    exact ret ((upd v33 17 t44), f42, w35, g36) _ _ _ _ _ _ ⟨⟨(YIb.upd (j := 17) (x := t44) hIv33.1 (show (0 : Int) ≤ t44.toInt by omega) (show t44.toInt ≤ (6 : Int) by omega)), hIv33.2⟩, hCf42, hRf42, (hk0_v33.trans (hk0_v22.trans (hk0_v11.trans hk0_v1))), (hk4_v33.trans (hk4_v22.trans (hk4_v11.trans hk4_v1))), (hk8_v33.trans (hk8_v22.trans (hk8_v11.trans hk8_v1))), (hk9_v33.trans (hk9_v22.trans (hk9_v11.trans hk9_v1))), (hk10_v33.trans (hk10_v22.trans (hk10_v11.trans hk10_v1))), (hk13_v33.trans (hk13_v22.trans (hk13_v11.trans hk13_v1))), (hk14_v33.trans (hk14_v22.trans (hk14_v11.trans hk14_v1))), (hk15_v33.trans (hk15_v22.trans (hk15_v11.trans hk15_v1))), (hk18_v33.trans (hk18_v22.trans (hk18_v11.trans hk18_v1))), (hk24_v33.trans (hk24_v22.trans (hk24_v11.trans hk24_v1))), (hk25_v33.trans (hk25_v22.trans (hk25_v11.trans hk25_v1))), (hk35_v33.trans (hk35_v22.trans (hk35_v11.trans hk35_v1))), (hk36_v33.trans (hk36_v22.trans (hk36_v11.trans hk36_v1))), (hk38_v33.trans (hk38_v22.trans (hk38_v11.trans hk38_v1))), (hk39_v33.trans (hk39_v22.trans (hk39_v11.trans hk39_v1))), (by show (v 3).toInt ≤ (v33 3).toInt; omega), (by show (v33 5).toInt = (v 5).toInt ∨ (v 3).toInt < (v33 3).toInt ∨ ¬ (v33 5).toInt = 59; omega), hs2_f42, hs3_f42, hs6_f42⟩ hP hD hS dX11_readMan_80 (Nat.le_refl _) (Nat.le_refl _)
set_option maxHeartbeats 4000000 in
set_option maxRecDepth 100000 in
theorem sY_X11_readLine_1 (l : Launch) (dC : Nat → ClassId) (dI : Nat → Nat → Nat) (cy : Nat → ClassId) (y0 : Nat) (r : Nat → Nat)  (v : Nat → Int32) (f : Nat → Nat → Int32) (w : Int64) (g : Nat → Int64) (hIv : YI v) (hCf : YC f) (hRf : progOK (f 4) (f 5) (v 9).toInt.toNat)  (hf0 : (v 1).toInt = 0) (hg0 : ¬ (v 15).toInt = 0 → progOK (f 2) (f 3) ((v 8).toInt).toNat) : ctV l (dC, dI) cy yX11_readLine cX11_readLine 1 7 192 0 0 ((Nat → Int32) × (Nat → Nat → Int32) × (Int64) × (Nat → Int64)) [.ref y0] (YW cy y0 r v f w g) (fun u => YI u.1 ∧ YC u.2.1 ∧ progOK (u.2.1 4) (u.2.1 5) (u.1 9).toInt.toNat ∧ u.1 0 = v 0 ∧ u.1 4 = v 4 ∧ u.1 9 = v 9 ∧ u.1 24 = v 24 ∧ u.1 25 = v 25 ∧ u.1 35 = v 35 ∧ u.1 36 = v 36 ∧ u.1 38 = v 38 ∧ u.1 39 = v 39 ∧ (0 < (u.1 1).toInt ∨ (v 3).toInt < (u.1 3).toInt) ∧ ((v 3).toInt ≤ (u.1 3).toInt) ∧ ((u.1 1).toInt = 0 → ¬ (u.1 15).toInt = 0 → progOK (u.2.1 2) (u.2.1 3) ((u.1 8).toInt).toNat)) (fun u => YW cy y0 r u.1 u.2.1 u.2.2.1 u.2.2.2) := by
  refine ctV_of (by decide) (Nat.le_of_ble_eq_true rfl) (fun p e s m below meth c A ls Q hx hb hml hts hown hnm hE hP hD hA hl ret => ?_)
  have hUv : (v 35).toInt + (v 36).toInt ≤ 40 := hIv.2
  have hPR := hg0
  have b0_v : (0 : Int) ≤ (v 0).toInt ∧ (v 0).toInt ≤ 1600 := YIb.b hIv.1 0 (by decide)
  have b1_v : (0 : Int) ≤ (v 1).toInt ∧ (v 1).toInt ≤ 4 := YIb.b hIv.1 1 (by decide)
  have b3_v : (0 : Int) ≤ (v 3).toInt ∧ (v 3).toInt ≤ 1600 := YIb.b hIv.1 3 (by decide)
  have b4_v : (0 : Int) ≤ (v 4).toInt ∧ (v 4).toInt ≤ 1600 := YIb.b hIv.1 4 (by decide)
  have b8_v : (0 : Int) ≤ (v 8).toInt ∧ (v 8).toInt ≤ 320 := YIb.b hIv.1 8 (by decide)
  have b9_v : (0 : Int) ≤ (v 9).toInt ∧ (v 9).toInt ≤ 320 := YIb.b hIv.1 9 (by decide)
  have b10_v : (0 : Int) ≤ (v 10).toInt ∧ (v 10).toInt ≤ 160 := YIb.b hIv.1 10 (by decide)
  have b13_v : (0 : Int) ≤ (v 13).toInt ∧ (v 13).toInt ≤ 31 := YIb.b hIv.1 13 (by decide)
  have b14_v : (0 : Int) ≤ (v 14).toInt ∧ (v 14).toInt ≤ 8 := YIb.b hIv.1 14 (by decide)
  have b17_v : (0 : Int) ≤ (v 17).toInt ∧ (v 17).toInt ≤ 6 := YIb.b hIv.1 17 (by decide)
  have b18_v : (0 : Int) ≤ (v 18).toInt ∧ (v 18).toInt ≤ 6 := YIb.b hIv.1 18 (by decide)
  have b24_v : (0 : Int) ≤ (v 24).toInt ∧ (v 24).toInt ≤ 6 := YIb.b hIv.1 24 (by decide)
  have b25_v : (0 : Int) ≤ (v 25).toInt ∧ (v 25).toInt ≤ 6 := YIb.b hIv.1 25 (by decide)
  have b35_v : (0 : Int) ≤ (v 35).toInt ∧ (v 35).toInt ≤ 40 := YIb.b hIv.1 35 (by decide)
  have b36_v : (0 : Int) ≤ (v 36).toInt ∧ (v 36).toInt ≤ 40 := YIb.b hIv.1 36 (by decide)
  have b37_v : (0 : Int) ≤ (v 37).toInt ∧ (v 37).toInt ≤ 6 := YIb.b hIv.1 37 (by decide)
  have b38_v : (0 : Int) ≤ (v 38).toInt ∧ (v 38).toInt ≤ 30 := YIb.b hIv.1 38 (by decide)
  have b39_v : (0 : Int) ≤ (v 39).toInt ∧ (v 39).toInt ≤ 100000 := YIb.b hIv.1 39 (by decide)
  have hown : s.vm.findClass RX11 = some m.cls := hown
  have hS : va_S A s.heap s.heap [] := va_S.rf
  have hl : lv_has ls 1 [(0, .ref y0)] := hl
  have jp26 : ∀ (H : Heap) (locs : List Loc) (ls : Array Slot), va_P (dC, dI) vwCl (YW cy y0 r v f w g) H → va_D A (YW cy y0 r v f w g) → va_S A s.heap H locs → lv_has ls 1 [(0, .ref y0)] → W p l e { frames := 7, cells := 0, slots := 0, locals := 192 } s m ([.ref y0] : List Value).toArray below meth c H locs 0 0 Q (F0 m 26 ls []) := by
    intro H locs ls hP hD hS hl
    have jp52 : ∀ (H : Heap) (locs : List Loc) (ls : Array Slot), va_P (dC, dI) vwCl (YW cy y0 r v f w g) H → va_D A (YW cy y0 r v f w g) → va_S A s.heap H locs → lv_has ls 1 [(0, .ref y0)] → W p l e { frames := 7, cells := 0, slots := 0, locals := 192 } s m ([.ref y0] : List Value).toArray below meth c H locs 0 0 Q (F0 m 52 ls []) := by
      intro H locs ls hP hD hS hl
      have jp76 : ∀ (H : Heap) (locs : List Loc) (ls : Array Slot), va_P (dC, dI) vwCl (YW cy y0 r v f w g) H → va_D A (YW cy y0 r v f w g) → va_S A s.heap H locs → lv_has ls 1 [(0, .ref y0)] → W p l e { frames := 7, cells := 0, slots := 0, locals := 192 } s m ([.ref y0] : List Value).toArray below meth c H locs 0 0 Q (F0 m 76 ls []) := by
        intro H locs ls hP hD hS hl
        have jp115 : ∀ (H : Heap) (locs : List Loc) (ls : Array Slot), va_P (dC, dI) vwCl (YW cy y0 r v f w g) H → va_D A (YW cy y0 r v f w g) → va_S A s.heap H locs → lv_has ls 1 [(0, .ref y0)] → W p l e { frames := 7, cells := 0, slots := 0, locals := 192 } s m ([.ref y0] : List Value).toArray below meth c H locs 0 0 Q (F0 m 115 ls []) := by
          intro H locs ls hP hD hS hl
          have jp154 : ∀ (H : Heap) (locs : List Loc) (ls : Array Slot), va_P (dC, dI) vwCl (YW cy y0 r v f w g) H → va_D A (YW cy y0 r v f w g) → va_S A s.heap H locs → lv_has ls 1 [(0, .ref y0)] → W p l e { frames := 7, cells := 0, slots := 0, locals := 192 } s m ([.ref y0] : List Value).toArray below meth c H locs 0 0 Q (F0 m 154 ls []) := by
            intro H locs ls hP hD hS hl
            have jp192 : ∀ (H : Heap) (locs : List Loc) (ls : Array Slot), va_P (dC, dI) vwCl (YW cy y0 r v f w g) H → va_D A (YW cy y0 r v f w g) → va_S A s.heap H locs → lv_has ls 1 [(0, .ref y0)] → W p l e { frames := 7, cells := 0, slots := 0, locals := 192 } s m ([.ref y0] : List Value).toArray below meth c H locs 0 0 Q (F0 m 192 ls []) := by
              intro H locs ls hP hD hS hl
              have jp230 : ∀ (H : Heap) (locs : List Loc) (ls : Array Slot), va_P (dC, dI) vwCl (YW cy y0 r v f w g) H → va_D A (YW cy y0 r v f w g) → va_S A s.heap H locs → lv_has ls 1 [(0, .ref y0)] → W p l e { frames := 7, cells := 0, slots := 0, locals := 192 } s m ([.ref y0] : List Value).toArray below meth c H locs 0 0 Q (F0 m 230 ls []) := by
                intro H locs ls hP hD hS hl
                have jp269 : ∀ (H : Heap) (locs : List Loc) (ls : Array Slot), va_P (dC, dI) vwCl (YW cy y0 r v f w g) H → va_D A (YW cy y0 r v f w g) → va_S A s.heap H locs → lv_has ls 1 [(0, .ref y0)] → W p l e { frames := 7, cells := 0, slots := 0, locals := 192 } s m ([.ref y0] : List Value).toArray below meth c H locs 0 0 Q (F0 m 269 ls []) := by
                  intro H locs ls hP hD hS hl
                  refine lv_aload_n hx hb dX11_readLine_269 rfl (lv_at hl 0 rfl) ?_
                  refine lv_iconst (v := 2) hx hb dX11_readLine_270 (by decide) ?_
                  refine cbVv (n := 1) (rest := []) hx hb hml hown hts hE hP hD hS hA (sY_X11_wrong_1 l dC dI cy y0 r 2 v f w g hIv hCf hRf ⟨by decide, by decide⟩) k_1641 k_1643 k_50 k_114 k_1644 (by decide +kernel) ⟨Nat.le_of_ble_eq_true rfl, Nat.le_of_ble_eq_true rfl⟩ 0 11 rfl rfl (rfl) hl.1 rfl (Nat.le_of_ble_eq_true rfl) dX11_readLine_271 (fun u H locs hw hP hD hS => ?_)
                  obtain ⟨v1, f2, w3, g4⟩ := u
                  obtain ⟨hIv1, hCf2, hRf2, hk0_v1, hk3_v1, hk4_v1, hk5_v1, hk8_v1, hk9_v1, hk10_v1, hk13_v1, hk14_v1, hk15_v1, hk17_v1, hk18_v1, hk24_v1, hk25_v1, hk35_v1, hk36_v1, hk38_v1, hk39_v1, pv5, pv6, pv7, kq8, kq9, kq10⟩ := hw
                  have hP : va_P (dC, dI) vwCl (YW cy y0 r v1 f2 w3 g4) H := hP
                  have hD : va_D A (YW cy y0 r v1 f2 w3 g4) := hD
                  have b3_v1 : 0 ≤ (v1 3).toInt ∧ (v1 3).toInt ≤ 1600 := YIb.b hIv1.1 3 (by decide)
                  have b1_v1 : 0 ≤ (v1 1).toInt ∧ (v1 1).toInt ≤ 4 := YIb.b hIv1.1 1 (by decide)
                  have pv5 : (v 3).toInt ≤ (v1 3).toInt := pv5
                  have pv6 : (v1 5).toInt = (v 5).toInt ∨ (v 3).toInt < (v1 3).toInt ∨ ¬ (v1 5).toInt = 59 := pv6
                  have pv7 : 0 < (v1 1).toInt := pv7
                  have hs2_f2 : f2 2 = (f 2) := kq8
                  have hs3_f2 : f2 3 = (f 3) := kq9
                  have hs6_f2 : f2 6 = (f 6) := kq10
                  have hUv1 : (v1 35).toInt + (v1 36).toInt ≤ 40 := hIv1.2
                  have hq0_v1 : v1 0 = (v 0) := hk0_v1
                  have hq3_v1 : v1 3 = (v 3) := hk3_v1
                  have zq3_v1 := congrArg Int32.toInt hq3_v1
                  have hq4_v1 : v1 4 = (v 4) := hk4_v1
                  have zq4_v1 := congrArg Int32.toInt hq4_v1
                  have hq5_v1 : v1 5 = (v 5) := hk5_v1
                  have zq5_v1 := congrArg Int32.toInt hq5_v1
                  have hq8_v1 : v1 8 = (v 8) := hk8_v1
                  have zq8_v1 := congrArg Int32.toInt hq8_v1
                  have hq9_v1 : v1 9 = (v 9) := hk9_v1
                  have zq9_v1 := congrArg Int32.toInt hq9_v1
                  have hq10_v1 : v1 10 = (v 10) := hk10_v1
                  have zq10_v1 := congrArg Int32.toInt hq10_v1
                  have hq13_v1 : v1 13 = (v 13) := hk13_v1
                  have zq13_v1 := congrArg Int32.toInt hq13_v1
                  have hq14_v1 : v1 14 = (v 14) := hk14_v1
                  have zq14_v1 := congrArg Int32.toInt hq14_v1
                  have hq15_v1 : v1 15 = (v 15) := hk15_v1
                  have zq15_v1 := congrArg Int32.toInt hq15_v1
                  have hq17_v1 : v1 17 = (v 17) := hk17_v1
                  have zq17_v1 := congrArg Int32.toInt hq17_v1
                  have hq18_v1 : v1 18 = (v 18) := hk18_v1
                  have zq18_v1 := congrArg Int32.toInt hq18_v1
                  have hq24_v1 : v1 24 = (v 24) := hk24_v1
                  have hq25_v1 : v1 25 = (v 25) := hk25_v1
                  have hq35_v1 : v1 35 = (v 35) := hk35_v1
                  have zq35_v1 := congrArg Int32.toInt hq35_v1
                  have hq36_v1 : v1 36 = (v 36) := hk36_v1
                  have zq36_v1 := congrArg Int32.toInt hq36_v1
                  have hq38_v1 : v1 38 = (v 38) := hk38_v1
                  have hq39_v1 : v1 39 = (v 39) := hk39_v1
                  refine lv_aload_n hx hb dX11_readLine_274 rfl (lv_at hl 0 rfl) ?_
                  refine va_get (D := (dC, dI)) (ci := 11) (v := .int (v1 1)) (C := RX11) (T := TX11) (N := 79) hx hb hts inB_11 hown hE.1 hP 0 rfl rfl 2 (by decide) (hts _ k_1322) (fun _ h9 => h9) rfl dX11_readLine_275 ?_
                  have b1_v1 : 0 ≤ (v1 1).toInt ∧ (v1 1).toInt ≤ 4 := YIb.b hIv1.1 1 (by decide)
                  refine lv_if_ne (tgt := 295) hx hb dX11_readLine_278 (by decide) (fun c11 => ?_) (fun c11 => ?_)
                  · skip
                    have zc11 : ¬ ((v1 1).toInt = 0) := by rw [fa_eq, show (0 : Int32).toInt = 0 from by decide] at c11; exact c11
                    refine lv_aload_n hx hb dX11_readLine_295 rfl (lv_at hl 0 rfl) ?_
                    refine va_get (D := (dC, dI)) (ci := 11) (v := .int (v1 1)) (C := RX11) (T := TX11) (N := 79) hx hb hts inB_11 hown hE.1 hP 0 rfl rfl 2 (by decide) (hts _ k_1322) (fun _ h9 => h9) rfl dX11_readLine_296 ?_
                    refine lv_if_ne (tgt := 306) hx hb dX11_readLine_299 (by decide) (fun c12 => ?_) (fun c12 => ?_)
                    · skip
                      have zc12 : ¬ ((v1 1).toInt = 0) := by rw [fa_eq, show (0 : Int32).toInt = 0 from by decide] at c12; exact c12
                      exact ret (v1, f2, w3, g4) _ _ _ _ _ _ ⟨hIv1, hCf2, hRf2, hk0_v1, hk4_v1, hk9_v1, hk24_v1, hk25_v1, hk35_v1, hk36_v1, hk38_v1, hk39_v1, (by show 0 < (v1 1).toInt ∨ (v 3).toInt < (v1 3).toInt; omega), (by show (v 3).toInt ≤ (v1 3).toInt; omega), (by show (v1 1).toInt = 0 → ¬ (v1 15).toInt = 0 → progOK (f2 2) (f2 3) ((v1 8).toInt).toNat; rw [hs2_f2, hs3_f2]; intro hz8 hz9; first | exact prog_n (hPR (by omega)) (by omega) | exact prog_n (hPF (by omega)) (by omega) | (exfalso; omega))⟩ hP hD hS dX11_readLine_306 (Nat.le_refl _) (Nat.le_refl _)
                    · skip
                      have zc12 : (v1 1).toInt = 0 := by rw [fa_eq, show (0 : Int32).toInt = 0 from by decide] at c12; exact c12
                      refine lv_aload_n hx hb dX11_readLine_302 rfl (lv_at hl 0 rfl) ?_
                      refine cbVv (n := 0) (rest := []) hx hb hml hown hts hE hP hD hS hA (sY_X11_token_1 l dC dI cy y0 r  v1 f2 w3 g4 hIv1 hCf2 hRf2 ) k_1579 k_1581 k_42 k_114 k_1582 (by decide +kernel) ⟨Nat.le_of_ble_eq_true rfl, Nat.le_of_ble_eq_true rfl⟩ 0 11 rfl rfl (rfl) hl.1 rfl (Nat.le_of_ble_eq_true rfl) dX11_readLine_303 (fun u H locs hw hP hD hS => ?_)
                      obtain ⟨v13, f14, w15, g16⟩ := u
                      obtain ⟨hIv13, hCf14, hRf14, hk0_v13, hk1_v13, hk4_v13, hk8_v13, hk9_v13, hk10_v13, hk13_v13, hk14_v13, hk15_v13, hk17_v13, hk18_v13, hk24_v13, hk25_v13, hk35_v13, hk36_v13, hk38_v13, hk39_v13, pv17, pv18, kq19, kq20, kq21⟩ := hw
                      have hP : va_P (dC, dI) vwCl (YW cy y0 r v13 f14 w15 g16) H := hP
                      have hD : va_D A (YW cy y0 r v13 f14 w15 g16) := hD
                      have b3_v13 : 0 ≤ (v13 3).toInt ∧ (v13 3).toInt ≤ 1600 := YIb.b hIv13.1 3 (by decide)
                      have pv17 : (v1 3).toInt ≤ (v13 3).toInt := pv17
                      have pv18 : (v13 5).toInt = (v1 5).toInt ∨ (v1 3).toInt < (v13 3).toInt ∨ ¬ (v13 5).toInt = 59 := pv18
                      have hs2_f14 : f14 2 = (f 2) := kq19.trans hs2_f2
                      have hs3_f14 : f14 3 = (f 3) := kq20.trans hs3_f2
                      have hs6_f14 : f14 6 = (f 6) := kq21.trans hs6_f2
                      have hUv13 : (v13 35).toInt + (v13 36).toInt ≤ 40 := hIv13.2
                      have hq0_v13 : v13 0 = (v 0) := hk0_v13.trans hq0_v1
                      have hq1_v13 : v13 1 = (v1 1) := hk1_v13
                      have zq1_v13 := congrArg Int32.toInt hq1_v13
                      have hq4_v13 : v13 4 = (v 4) := hk4_v13.trans hq4_v1
                      have zq4_v13 := congrArg Int32.toInt hq4_v13
                      have hq8_v13 : v13 8 = (v 8) := hk8_v13.trans hq8_v1
                      have zq8_v13 := congrArg Int32.toInt hq8_v13
                      have hq9_v13 : v13 9 = (v 9) := hk9_v13.trans hq9_v1
                      have zq9_v13 := congrArg Int32.toInt hq9_v13
                      have hq10_v13 : v13 10 = (v 10) := hk10_v13.trans hq10_v1
                      have zq10_v13 := congrArg Int32.toInt hq10_v13
                      have hq13_v13 : v13 13 = (v 13) := hk13_v13.trans hq13_v1
                      have zq13_v13 := congrArg Int32.toInt hq13_v13
                      have hq14_v13 : v13 14 = (v 14) := hk14_v13.trans hq14_v1
                      have zq14_v13 := congrArg Int32.toInt hq14_v13
                      have hq15_v13 : v13 15 = (v 15) := hk15_v13.trans hq15_v1
                      have zq15_v13 := congrArg Int32.toInt hq15_v13
                      have hq17_v13 : v13 17 = (v 17) := hk17_v13.trans hq17_v1
                      have zq17_v13 := congrArg Int32.toInt hq17_v13
                      have hq18_v13 : v13 18 = (v 18) := hk18_v13.trans hq18_v1
                      have zq18_v13 := congrArg Int32.toInt hq18_v13
                      have hq24_v13 : v13 24 = (v 24) := hk24_v13.trans hq24_v1
                      have hq25_v13 : v13 25 = (v 25) := hk25_v13.trans hq25_v1
                      have hq35_v13 : v13 35 = (v 35) := hk35_v13.trans hq35_v1
                      have zq35_v13 := congrArg Int32.toInt hq35_v13
                      have hq36_v13 : v13 36 = (v 36) := hk36_v13.trans hq36_v1
                      have zq36_v13 := congrArg Int32.toInt hq36_v13
                      have hq38_v13 : v13 38 = (v 38) := hk38_v13.trans hq38_v1
                      have hq39_v13 : v13 39 = (v 39) := hk39_v13.trans hq39_v1
                      exact ret (v13, f14, w15, g16) _ _ _ _ _ _ ⟨hIv13, hCf14, hRf14, (hk0_v13.trans hk0_v1), (hk4_v13.trans hk4_v1), (hk9_v13.trans hk9_v1), (hk24_v13.trans hk24_v1), (hk25_v13.trans hk25_v1), (hk35_v13.trans hk35_v1), (hk36_v13.trans hk36_v1), (hk38_v13.trans hk38_v1), (hk39_v13.trans hk39_v1), (by show 0 < (v13 1).toInt ∨ (v 3).toInt < (v13 3).toInt; omega), (by show (v 3).toInt ≤ (v13 3).toInt; omega), (by show (v13 1).toInt = 0 → ¬ (v13 15).toInt = 0 → progOK (f14 2) (f14 3) ((v13 8).toInt).toNat; rw [hs2_f14, hs3_f14]; intro hz8 hz9; first | exact prog_n (hPR (by omega)) (by omega) | exact prog_n (hPF (by omega)) (by omega) | (exfalso; omega))⟩ hP hD hS dX11_readLine_306 (Nat.le_refl _) (Nat.le_refl _)
                  · skip
                    have zc11 : (v1 1).toInt = 0 := by rw [fa_eq, show (0 : Int32).toInt = 0 from by decide] at c11; exact c11
                    refine lv_aload_n hx hb dX11_readLine_281 rfl (lv_at hl 0 rfl) ?_
                    refine va_get (D := (dC, dI)) (ci := 11) (v := .int (v1 5)) (C := RX11) (T := TX11) (N := 79) hx hb hts inB_11 hown hE.1 hP 0 rfl rfl 6 (by decide) (hts _ k_1326) (fun _ h9 => h9) rfl dX11_readLine_282 ?_
                    refine tI (y := (v 5)) hq5_v1 ?_
                    refine lv_bipush (v := 59) hx hb dX11_readLine_285 (by decide) ?_
                    refine lv_icmp_eq (tgt := 295) hx hb dX11_readLine_287 (by decide) (fun c22 => ?_) (fun c22 => ?_)
                    · skip
                      have zc22 : (v 5).toInt = 59 := by rw [fa_eq, show (59 : Int32).toInt = 59 from by decide] at c22; exact c22
                      refine lv_aload_n hx hb dX11_readLine_295 rfl (lv_at hl 0 rfl) ?_
                      refine va_get (D := (dC, dI)) (ci := 11) (v := .int (v1 1)) (C := RX11) (T := TX11) (N := 79) hx hb hts inB_11 hown hE.1 hP 0 rfl rfl 2 (by decide) (hts _ k_1322) (fun _ h9 => h9) rfl dX11_readLine_296 ?_
                      refine lv_if_ne (tgt := 306) hx hb dX11_readLine_299 (by decide) (fun c23 => ?_) (fun c23 => ?_)
                      · skip
                        have zc23 : ¬ ((v1 1).toInt = 0) := by rw [fa_eq, show (0 : Int32).toInt = 0 from by decide] at c23; exact c23
                        exact ret (v1, f2, w3, g4) _ _ _ _ _ _ ⟨hIv1, hCf2, hRf2, hk0_v1, hk4_v1, hk9_v1, hk24_v1, hk25_v1, hk35_v1, hk36_v1, hk38_v1, hk39_v1, (by show 0 < (v1 1).toInt ∨ (v 3).toInt < (v1 3).toInt; omega), (by show (v 3).toInt ≤ (v1 3).toInt; omega), (by show (v1 1).toInt = 0 → ¬ (v1 15).toInt = 0 → progOK (f2 2) (f2 3) ((v1 8).toInt).toNat; rw [hs2_f2, hs3_f2]; intro hz8 hz9; first | exact prog_n (hPR (by omega)) (by omega) | exact prog_n (hPF (by omega)) (by omega) | (exfalso; omega))⟩ hP hD hS dX11_readLine_306 (Nat.le_refl _) (Nat.le_refl _)
                      · skip
                        have zc23 : (v1 1).toInt = 0 := by rw [fa_eq, show (0 : Int32).toInt = 0 from by decide] at c23; exact c23
                        refine lv_aload_n hx hb dX11_readLine_302 rfl (lv_at hl 0 rfl) ?_
                        refine cbVv (n := 0) (rest := []) hx hb hml hown hts hE hP hD hS hA (sY_X11_token_1 l dC dI cy y0 r  v1 f2 w3 g4 hIv1 hCf2 hRf2 ) k_1579 k_1581 k_42 k_114 k_1582 (by decide +kernel) ⟨Nat.le_of_ble_eq_true rfl, Nat.le_of_ble_eq_true rfl⟩ 0 11 rfl rfl (rfl) hl.1 rfl (Nat.le_of_ble_eq_true rfl) dX11_readLine_303 (fun u H locs hw hP hD hS => ?_)
                        obtain ⟨v24, f25, w26, g27⟩ := u
                        obtain ⟨hIv24, hCf25, hRf25, hk0_v24, hk1_v24, hk4_v24, hk8_v24, hk9_v24, hk10_v24, hk13_v24, hk14_v24, hk15_v24, hk17_v24, hk18_v24, hk24_v24, hk25_v24, hk35_v24, hk36_v24, hk38_v24, hk39_v24, pv28, pv29, kq30, kq31, kq32⟩ := hw
                        have hP : va_P (dC, dI) vwCl (YW cy y0 r v24 f25 w26 g27) H := hP
                        have hD : va_D A (YW cy y0 r v24 f25 w26 g27) := hD
                        have b3_v24 : 0 ≤ (v24 3).toInt ∧ (v24 3).toInt ≤ 1600 := YIb.b hIv24.1 3 (by decide)
                        have pv28 : (v1 3).toInt ≤ (v24 3).toInt := pv28
                        have pv29 : (v24 5).toInt = (v1 5).toInt ∨ (v1 3).toInt < (v24 3).toInt ∨ ¬ (v24 5).toInt = 59 := pv29
                        have hs2_f25 : f25 2 = (f 2) := kq30.trans hs2_f2
                        have hs3_f25 : f25 3 = (f 3) := kq31.trans hs3_f2
                        have hs6_f25 : f25 6 = (f 6) := kq32.trans hs6_f2
                        have hUv24 : (v24 35).toInt + (v24 36).toInt ≤ 40 := hIv24.2
                        have hq0_v24 : v24 0 = (v 0) := hk0_v24.trans hq0_v1
                        have hq1_v24 : v24 1 = (v1 1) := hk1_v24
                        have zq1_v24 := congrArg Int32.toInt hq1_v24
                        have hq4_v24 : v24 4 = (v 4) := hk4_v24.trans hq4_v1
                        have zq4_v24 := congrArg Int32.toInt hq4_v24
                        have hq8_v24 : v24 8 = (v 8) := hk8_v24.trans hq8_v1
                        have zq8_v24 := congrArg Int32.toInt hq8_v24
                        have hq9_v24 : v24 9 = (v 9) := hk9_v24.trans hq9_v1
                        have zq9_v24 := congrArg Int32.toInt hq9_v24
                        have hq10_v24 : v24 10 = (v 10) := hk10_v24.trans hq10_v1
                        have zq10_v24 := congrArg Int32.toInt hq10_v24
                        have hq13_v24 : v24 13 = (v 13) := hk13_v24.trans hq13_v1
                        have zq13_v24 := congrArg Int32.toInt hq13_v24
                        have hq14_v24 : v24 14 = (v 14) := hk14_v24.trans hq14_v1
                        have zq14_v24 := congrArg Int32.toInt hq14_v24
                        have hq15_v24 : v24 15 = (v 15) := hk15_v24.trans hq15_v1
                        have zq15_v24 := congrArg Int32.toInt hq15_v24
                        have hq17_v24 : v24 17 = (v 17) := hk17_v24.trans hq17_v1
                        have zq17_v24 := congrArg Int32.toInt hq17_v24
                        have hq18_v24 : v24 18 = (v 18) := hk18_v24.trans hq18_v1
                        have zq18_v24 := congrArg Int32.toInt hq18_v24
                        have hq24_v24 : v24 24 = (v 24) := hk24_v24.trans hq24_v1
                        have hq25_v24 : v24 25 = (v 25) := hk25_v24.trans hq25_v1
                        have hq35_v24 : v24 35 = (v 35) := hk35_v24.trans hq35_v1
                        have zq35_v24 := congrArg Int32.toInt hq35_v24
                        have hq36_v24 : v24 36 = (v 36) := hk36_v24.trans hq36_v1
                        have zq36_v24 := congrArg Int32.toInt hq36_v24
                        have hq38_v24 : v24 38 = (v 38) := hk38_v24.trans hq38_v1
                        have hq39_v24 : v24 39 = (v 39) := hk39_v24.trans hq39_v1
                        exact ret (v24, f25, w26, g27) _ _ _ _ _ _ ⟨hIv24, hCf25, hRf25, (hk0_v24.trans hk0_v1), (hk4_v24.trans hk4_v1), (hk9_v24.trans hk9_v1), (hk24_v24.trans hk24_v1), (hk25_v24.trans hk25_v1), (hk35_v24.trans hk35_v1), (hk36_v24.trans hk36_v1), (hk38_v24.trans hk38_v1), (hk39_v24.trans hk39_v1), (by show 0 < (v24 1).toInt ∨ (v 3).toInt < (v24 3).toInt; omega), (by show (v 3).toInt ≤ (v24 3).toInt; omega), (by show (v24 1).toInt = 0 → ¬ (v24 15).toInt = 0 → progOK (f25 2) (f25 3) ((v24 8).toInt).toNat; rw [hs2_f25, hs3_f25]; intro hz8 hz9; first | exact prog_n (hPR (by omega)) (by omega) | exact prog_n (hPF (by omega)) (by omega) | (exfalso; omega))⟩ hP hD hS dX11_readLine_306 (Nat.le_refl _) (Nat.le_refl _)
                    · skip
                      have zc22 : ¬ ((v 5).toInt = 59) := by rw [fa_eq, show (59 : Int32).toInt = 59 from by decide] at c22; exact c22
                      refine lv_aload_n hx hb dX11_readLine_290 rfl (lv_at hl 0 rfl) ?_
                      refine lv_iconst (v := 2) hx hb dX11_readLine_291 (by decide) ?_
                      refine cbVv (n := 1) (rest := []) hx hb hml hown hts hE hP hD hS hA (sY_X11_wrong_1 l dC dI cy y0 r 2 v1 f2 w3 g4 hIv1 hCf2 hRf2 ⟨by decide, by decide⟩) k_1641 k_1643 k_50 k_114 k_1644 (by decide +kernel) ⟨Nat.le_of_ble_eq_true rfl, Nat.le_of_ble_eq_true rfl⟩ 0 11 rfl rfl (rfl) hl.1 rfl (Nat.le_of_ble_eq_true rfl) dX11_readLine_292 (fun u H locs hw hP hD hS => ?_)
                      obtain ⟨v33, f34, w35, g36⟩ := u
                      obtain ⟨hIv33, hCf34, hRf34, hk0_v33, hk3_v33, hk4_v33, hk5_v33, hk8_v33, hk9_v33, hk10_v33, hk13_v33, hk14_v33, hk15_v33, hk17_v33, hk18_v33, hk24_v33, hk25_v33, hk35_v33, hk36_v33, hk38_v33, hk39_v33, pv37, pv38, pv39, kq40, kq41, kq42⟩ := hw
                      have hP : va_P (dC, dI) vwCl (YW cy y0 r v33 f34 w35 g36) H := hP
                      have hD : va_D A (YW cy y0 r v33 f34 w35 g36) := hD
                      have b3_v33 : 0 ≤ (v33 3).toInt ∧ (v33 3).toInt ≤ 1600 := YIb.b hIv33.1 3 (by decide)
                      have b1_v33 : 0 ≤ (v33 1).toInt ∧ (v33 1).toInt ≤ 4 := YIb.b hIv33.1 1 (by decide)
                      have pv37 : (v1 3).toInt ≤ (v33 3).toInt := pv37
                      have pv38 : (v33 5).toInt = (v1 5).toInt ∨ (v1 3).toInt < (v33 3).toInt ∨ ¬ (v33 5).toInt = 59 := pv38
                      have pv39 : 0 < (v33 1).toInt := pv39
                      have hs2_f34 : f34 2 = (f 2) := kq40.trans hs2_f2
                      have hs3_f34 : f34 3 = (f 3) := kq41.trans hs3_f2
                      have hs6_f34 : f34 6 = (f 6) := kq42.trans hs6_f2
                      have hUv33 : (v33 35).toInt + (v33 36).toInt ≤ 40 := hIv33.2
                      have hq0_v33 : v33 0 = (v 0) := hk0_v33.trans hq0_v1
                      have hq3_v33 : v33 3 = (v 3) := hk3_v33.trans hq3_v1
                      have zq3_v33 := congrArg Int32.toInt hq3_v33
                      have hq4_v33 : v33 4 = (v 4) := hk4_v33.trans hq4_v1
                      have zq4_v33 := congrArg Int32.toInt hq4_v33
                      have hq5_v33 : v33 5 = (v 5) := hk5_v33.trans hq5_v1
                      have zq5_v33 := congrArg Int32.toInt hq5_v33
                      have hq8_v33 : v33 8 = (v 8) := hk8_v33.trans hq8_v1
                      have zq8_v33 := congrArg Int32.toInt hq8_v33
                      have hq9_v33 : v33 9 = (v 9) := hk9_v33.trans hq9_v1
                      have zq9_v33 := congrArg Int32.toInt hq9_v33
                      have hq10_v33 : v33 10 = (v 10) := hk10_v33.trans hq10_v1
                      have zq10_v33 := congrArg Int32.toInt hq10_v33
                      have hq13_v33 : v33 13 = (v 13) := hk13_v33.trans hq13_v1
                      have zq13_v33 := congrArg Int32.toInt hq13_v33
                      have hq14_v33 : v33 14 = (v 14) := hk14_v33.trans hq14_v1
                      have zq14_v33 := congrArg Int32.toInt hq14_v33
                      have hq15_v33 : v33 15 = (v 15) := hk15_v33.trans hq15_v1
                      have zq15_v33 := congrArg Int32.toInt hq15_v33
                      have hq17_v33 : v33 17 = (v 17) := hk17_v33.trans hq17_v1
                      have zq17_v33 := congrArg Int32.toInt hq17_v33
                      have hq18_v33 : v33 18 = (v 18) := hk18_v33.trans hq18_v1
                      have zq18_v33 := congrArg Int32.toInt hq18_v33
                      have hq24_v33 : v33 24 = (v 24) := hk24_v33.trans hq24_v1
                      have hq25_v33 : v33 25 = (v 25) := hk25_v33.trans hq25_v1
                      have hq35_v33 : v33 35 = (v 35) := hk35_v33.trans hq35_v1
                      have zq35_v33 := congrArg Int32.toInt hq35_v33
                      have hq36_v33 : v33 36 = (v 36) := hk36_v33.trans hq36_v1
                      have zq36_v33 := congrArg Int32.toInt hq36_v33
                      have hq38_v33 : v33 38 = (v 38) := hk38_v33.trans hq38_v1
                      have hq39_v33 : v33 39 = (v 39) := hk39_v33.trans hq39_v1
                      refine lv_aload_n hx hb dX11_readLine_295 rfl (lv_at hl 0 rfl) ?_
                      refine va_get (D := (dC, dI)) (ci := 11) (v := .int (v33 1)) (C := RX11) (T := TX11) (N := 79) hx hb hts inB_11 hown hE.1 hP 0 rfl rfl 2 (by decide) (hts _ k_1322) (fun _ h9 => h9) rfl dX11_readLine_296 ?_
                      have b1_v33 : 0 ≤ (v33 1).toInt ∧ (v33 1).toInt ≤ 4 := YIb.b hIv33.1 1 (by decide)
                      refine lv_if_ne (tgt := 306) hx hb dX11_readLine_299 (by decide) (fun c43 => ?_) (fun c43 => ?_)
                      · skip
                        have zc43 : ¬ ((v33 1).toInt = 0) := by rw [fa_eq, show (0 : Int32).toInt = 0 from by decide] at c43; exact c43
                        exact ret (v33, f34, w35, g36) _ _ _ _ _ _ ⟨hIv33, hCf34, hRf34, (hk0_v33.trans hk0_v1), (hk4_v33.trans hk4_v1), (hk9_v33.trans hk9_v1), (hk24_v33.trans hk24_v1), (hk25_v33.trans hk25_v1), (hk35_v33.trans hk35_v1), (hk36_v33.trans hk36_v1), (hk38_v33.trans hk38_v1), (hk39_v33.trans hk39_v1), (by show 0 < (v33 1).toInt ∨ (v 3).toInt < (v33 3).toInt; omega), (by show (v 3).toInt ≤ (v33 3).toInt; omega), (by show (v33 1).toInt = 0 → ¬ (v33 15).toInt = 0 → progOK (f34 2) (f34 3) ((v33 8).toInt).toNat; rw [hs2_f34, hs3_f34]; intro hz8 hz9; first | exact prog_n (hPR (by omega)) (by omega) | exact prog_n (hPF (by omega)) (by omega) | (exfalso; omega))⟩ hP hD hS dX11_readLine_306 (Nat.le_refl _) (Nat.le_refl _)
                      · skip
                        have zc43 : (v33 1).toInt = 0 := by rw [fa_eq, show (0 : Int32).toInt = 0 from by decide] at c43; exact c43
                        refine lv_aload_n hx hb dX11_readLine_302 rfl (lv_at hl 0 rfl) ?_
                        refine cbVv (n := 0) (rest := []) hx hb hml hown hts hE hP hD hS hA (sY_X11_token_1 l dC dI cy y0 r  v33 f34 w35 g36 hIv33 hCf34 hRf34 ) k_1579 k_1581 k_42 k_114 k_1582 (by decide +kernel) ⟨Nat.le_of_ble_eq_true rfl, Nat.le_of_ble_eq_true rfl⟩ 0 11 rfl rfl (rfl) hl.1 rfl (Nat.le_of_ble_eq_true rfl) dX11_readLine_303 (fun u H locs hw hP hD hS => ?_)
                        obtain ⟨v44, f45, w46, g47⟩ := u
                        obtain ⟨hIv44, hCf45, hRf45, hk0_v44, hk1_v44, hk4_v44, hk8_v44, hk9_v44, hk10_v44, hk13_v44, hk14_v44, hk15_v44, hk17_v44, hk18_v44, hk24_v44, hk25_v44, hk35_v44, hk36_v44, hk38_v44, hk39_v44, pv48, pv49, kq50, kq51, kq52⟩ := hw
                        have hP : va_P (dC, dI) vwCl (YW cy y0 r v44 f45 w46 g47) H := hP
                        have hD : va_D A (YW cy y0 r v44 f45 w46 g47) := hD
                        have b3_v44 : 0 ≤ (v44 3).toInt ∧ (v44 3).toInt ≤ 1600 := YIb.b hIv44.1 3 (by decide)
                        have pv48 : (v33 3).toInt ≤ (v44 3).toInt := pv48
                        have pv49 : (v44 5).toInt = (v33 5).toInt ∨ (v33 3).toInt < (v44 3).toInt ∨ ¬ (v44 5).toInt = 59 := pv49
                        have hs2_f45 : f45 2 = (f 2) := kq50.trans hs2_f34
                        have hs3_f45 : f45 3 = (f 3) := kq51.trans hs3_f34
                        have hs6_f45 : f45 6 = (f 6) := kq52.trans hs6_f34
                        have hUv44 : (v44 35).toInt + (v44 36).toInt ≤ 40 := hIv44.2
                        have hq0_v44 : v44 0 = (v 0) := hk0_v44.trans hq0_v33
                        have hq1_v44 : v44 1 = (v33 1) := hk1_v44
                        have zq1_v44 := congrArg Int32.toInt hq1_v44
                        have hq4_v44 : v44 4 = (v 4) := hk4_v44.trans hq4_v33
                        have zq4_v44 := congrArg Int32.toInt hq4_v44
                        have hq8_v44 : v44 8 = (v 8) := hk8_v44.trans hq8_v33
                        have zq8_v44 := congrArg Int32.toInt hq8_v44
                        have hq9_v44 : v44 9 = (v 9) := hk9_v44.trans hq9_v33
                        have zq9_v44 := congrArg Int32.toInt hq9_v44
                        have hq10_v44 : v44 10 = (v 10) := hk10_v44.trans hq10_v33
                        have zq10_v44 := congrArg Int32.toInt hq10_v44
                        have hq13_v44 : v44 13 = (v 13) := hk13_v44.trans hq13_v33
                        have zq13_v44 := congrArg Int32.toInt hq13_v44
                        have hq14_v44 : v44 14 = (v 14) := hk14_v44.trans hq14_v33
                        have zq14_v44 := congrArg Int32.toInt hq14_v44
                        have hq15_v44 : v44 15 = (v 15) := hk15_v44.trans hq15_v33
                        have zq15_v44 := congrArg Int32.toInt hq15_v44
                        have hq17_v44 : v44 17 = (v 17) := hk17_v44.trans hq17_v33
                        have zq17_v44 := congrArg Int32.toInt hq17_v44
                        have hq18_v44 : v44 18 = (v 18) := hk18_v44.trans hq18_v33
                        have zq18_v44 := congrArg Int32.toInt hq18_v44
                        have hq24_v44 : v44 24 = (v 24) := hk24_v44.trans hq24_v33
                        have hq25_v44 : v44 25 = (v 25) := hk25_v44.trans hq25_v33
                        have hq35_v44 : v44 35 = (v 35) := hk35_v44.trans hq35_v33
                        have zq35_v44 := congrArg Int32.toInt hq35_v44
                        have hq36_v44 : v44 36 = (v 36) := hk36_v44.trans hq36_v33
                        have zq36_v44 := congrArg Int32.toInt hq36_v44
                        have hq38_v44 : v44 38 = (v 38) := hk38_v44.trans hq38_v33
                        have hq39_v44 : v44 39 = (v 39) := hk39_v44.trans hq39_v33
                        exact ret (v44, f45, w46, g47) _ _ _ _ _ _ ⟨hIv44, hCf45, hRf45, (hk0_v44.trans (hk0_v33.trans hk0_v1)), (hk4_v44.trans (hk4_v33.trans hk4_v1)), (hk9_v44.trans (hk9_v33.trans hk9_v1)), (hk24_v44.trans (hk24_v33.trans hk24_v1)), (hk25_v44.trans (hk25_v33.trans hk25_v1)), (hk35_v44.trans (hk35_v33.trans hk35_v1)), (hk36_v44.trans (hk36_v33.trans hk36_v1)), (hk38_v44.trans (hk38_v33.trans hk38_v1)), (hk39_v44.trans (hk39_v33.trans hk39_v1)), (by show 0 < (v44 1).toInt ∨ (v 3).toInt < (v44 3).toInt; omega), (by show (v 3).toInt ≤ (v44 3).toInt; omega), (by show (v44 1).toInt = 0 → ¬ (v44 15).toInt = 0 → progOK (f45 2) (f45 3) ((v44 8).toInt).toNat; rw [hs2_f45, hs3_f45]; intro hz8 hz9; first | exact prog_n (hPR (by omega)) (by omega) | exact prog_n (hPF (by omega)) (by omega) | (exfalso; omega))⟩ hP hD hS dX11_readLine_306 (Nat.le_refl _) (Nat.le_refl _)
                refine lv_aload_n hx hb dX11_readLine_230 rfl (lv_at hl 0 rfl) ?_
                refine lv_ldc2 (v := 1685217655) hx hb hown (hts _ k_1632) dX11_readLine_231 ?_
                refine cbVi (n := 1) (rest := []) hx hb hml hown hts hE hP hD hS hA (sY_X11_isWord_1 l dC dI cy y0 r 1685217655 v f w g hIv hCf hRf ) k_1601 k_1603 k_45 k_114 k_1604 (by decide +kernel) ⟨Nat.le_of_ble_eq_true rfl, Nat.le_of_ble_eq_true rfl⟩ 0 11 rfl rfl (rfl) hl.1 rfl (Nat.le_of_ble_eq_true rfl) dX11_readLine_234 (fun r53 u H locs hw hP hD hS => ?_)
                rcases hw with ⟨g54, g54_0⟩ | ⟨g54⟩
                · skip
                  subst g54
                  refine lv_if_eq (tgt := 269) hx hb dX11_readLine_237 (by decide) (fun c0 => absurd c0 (by decide)) (fun _ => ?_)
                  refine lv_aload_n hx hb dX11_readLine_240 rfl (lv_at hl 0 rfl) ?_
                  refine va_get (D := (dC, dI)) (ci := 11) (v := .int (v 34)) (C := RX11) (T := TX11) (N := 79) hx hb hts inB_11 hown hE.1 hP 0 rfl rfl 58 (by decide) (hts _ k_1378) (fun _ h9 => h9) rfl dX11_readLine_241 ?_
                  refine lv_if_ne (tgt := 269) hx hb dX11_readLine_244 (by decide) (fun c55 => ?_) (fun c55 => ?_)
                  · skip
                    have zc55 : ¬ ((v 34).toInt = 0) := by rw [fa_eq, show (0 : Int32).toInt = 0 from by decide] at c55; exact c55
                    exact jp269 _ _ _ hP hD hS hl
                  · skip
                    have zc55 : (v 34).toInt = 0 := by rw [fa_eq, show (0 : Int32).toInt = 0 from by decide] at c55; exact c55
                    refine lv_aload_n hx hb dX11_readLine_247 rfl (lv_at hl 0 rfl) ?_
                    refine lv_iconst (v := 1) hx hb dX11_readLine_248 (by decide) ?_
                    refine va_put (D := (dC, dI)) (ci := 11) (v := .int 1) (ty := tyX11 58) (C := RX11) (T := TX11) (N := 79) hx hb hts inB_11 tyX11 tyX11_ok nmX11 hown hE.1 hP hD hS 0 rfl rfl 58 (by decide) (hts _ k_1378) (fun _ h9 => h9) rfl (tyX11_ok 58 (by decide)) rfl rfl (Nat.le_of_ble_eq_true rfl) dX11_readLine_249 (fun H locs hP hD hS => ?_)
                    have hP : va_P (dC, dI) vwCl (YW cy y0 r (upd v 34 1) f w g) H := hP
                    have hD : va_D A (YW cy y0 r (upd v 34 1) f w g) := hD
                    refine lv_aload_n hx hb dX11_readLine_252 rfl (lv_at hl 0 rfl) ?_
                    refine lv_aload_n hx hb dX11_readLine_253 rfl (lv_at hl 0 rfl) ?_
                    refine lv_ldc2 (v := 1685217655) hx hb hown (hts _ k_1632) dX11_readLine_254 ?_
                    refine lv_sipush (v := 999) hx hb dX11_readLine_257 (by decide) ?_
                    refine cbVi (n := 2) (rest := [.ref y0]) hx hb hml hown hts hE hP hD hS hA (sY_X11_told_1 l dC dI cy y0 r 1685217655 999 (upd v 34 1) f w g ⟨(YIb.upd (j := 34) (x := 1) hIv.1 (rlo _) (rhi _)), hIv.2⟩ hCf hRf ) k_1645 k_1647 k_51 k_114 k_1648 (by decide +kernel) ⟨Nat.le_of_ble_eq_true rfl, Nat.le_of_ble_eq_true rfl⟩ 0 11 rfl rfl (rfl) hl.1 rfl (Nat.le_of_ble_eq_true rfl) dX11_readLine_260 (fun r56 u H locs hw hP hD hS => ?_)
                    obtain ⟨v57, f58, w59, g60⟩ := u
                    obtain ⟨hIv57, hCf58, hRf58, hk0_v57, hk4_v57, hk8_v57, hk9_v57, hk10_v57, hk13_v57, hk14_v57, hk15_v57, hk17_v57, hk18_v57, hk24_v57, hk25_v57, hk35_v57, hk36_v57, hk38_v57, hk39_v57, pv61, pv62, kq63, kq64, kq65⟩ := hw
                    have hP : va_P (dC, dI) vwCl (YW cy y0 r v57 f58 w59 g60) H := hP
                    have hD : va_D A (YW cy y0 r v57 f58 w59 g60) := hD
                    have b3_v57 : 0 ≤ (v57 3).toInt ∧ (v57 3).toInt ≤ 1600 := YIb.b hIv57.1 3 (by decide)
                    have pv61 : (v 3).toInt ≤ (v57 3).toInt := pv61
                    have pv62 : (v57 5).toInt = (v 5).toInt ∨ (v 3).toInt < (v57 3).toInt ∨ ¬ (v57 5).toInt = 59 := pv62
                    have hs2_f58 : f58 2 = (f 2) := kq63
                    have hs3_f58 : f58 3 = (f 3) := kq64
                    have hs6_f58 : f58 6 = (f 6) := kq65
                    have hUv57 : (v57 35).toInt + (v57 36).toInt ≤ 40 := hIv57.2
                    have hq0_v57 : v57 0 = (v 0) := hk0_v57
                    have hq4_v57 : v57 4 = (v 4) := hk4_v57
                    have zq4_v57 := congrArg Int32.toInt hq4_v57
                    have hq8_v57 : v57 8 = (v 8) := hk8_v57
                    have zq8_v57 := congrArg Int32.toInt hq8_v57
                    have hq9_v57 : v57 9 = (v 9) := hk9_v57
                    have zq9_v57 := congrArg Int32.toInt hq9_v57
                    have hq10_v57 : v57 10 = (v 10) := hk10_v57
                    have zq10_v57 := congrArg Int32.toInt hq10_v57
                    have hq13_v57 : v57 13 = (v 13) := hk13_v57
                    have zq13_v57 := congrArg Int32.toInt hq13_v57
                    have hq14_v57 : v57 14 = (v 14) := hk14_v57
                    have zq14_v57 := congrArg Int32.toInt hq14_v57
                    have hq15_v57 : v57 15 = (v 15) := hk15_v57
                    have zq15_v57 := congrArg Int32.toInt hq15_v57
                    have hq17_v57 : v57 17 = (v 17) := hk17_v57
                    have zq17_v57 := congrArg Int32.toInt hq17_v57
                    have hq18_v57 : v57 18 = (v 18) := hk18_v57
                    have zq18_v57 := congrArg Int32.toInt hq18_v57
                    have hq24_v57 : v57 24 = (v 24) := hk24_v57
                    have hq25_v57 : v57 25 = (v 25) := hk25_v57
                    have hq35_v57 : v57 35 = (v 35) := hk35_v57
                    have zq35_v57 := congrArg Int32.toInt hq35_v57
                    have hq36_v57 : v57 36 = (v 36) := hk36_v57
                    have zq36_v57 := congrArg Int32.toInt hq36_v57
                    have hq38_v57 : v57 38 = (v 38) := hk38_v57
                    have hq39_v57 : v57 39 = (v 39) := hk39_v57
                    refine va_put (D := (dC, dI)) (ci := 11) (v := .int r56) (ty := tyX11 47) (C := RX11) (T := TX11) (N := 79) hx hb hts inB_11 tyX11 tyX11_ok nmX11 hown hE.1 hP hD hS 0 rfl rfl 47 (by decide) (hts _ k_1367) (fun _ h9 => h9) rfl (tyX11_ok 47 (by decide)) rfl rfl (Nat.le_of_ble_eq_true rfl) dX11_readLine_263 (fun H locs hP hD hS => ?_)
                    have hP : va_P (dC, dI) vwCl (YW cy y0 r (upd v57 23 r56) f58 w59 g60) H := hP
                    have hD : va_D A (YW cy y0 r (upd v57 23 r56) f58 w59 g60) := hD
                    refine lv_goto (tgt := 274) hx hb dX11_readLine_266 (by decide) ?_
                    refine lv_aload_n hx hb dX11_readLine_274 rfl (lv_at hl 0 rfl) ?_
                    refine va_get (D := (dC, dI)) (ci := 11) (v := .int (v57 1)) (C := RX11) (T := TX11) (N := 79) hx hb hts inB_11 hown hE.1 hP 0 rfl rfl 2 (by decide) (hts _ k_1322) (fun _ h9 => h9) rfl dX11_readLine_275 ?_
                    have b1_v57 : 0 ≤ (v57 1).toInt ∧ (v57 1).toInt ≤ 4 := YIb.b hIv57.1 1 (by decide)
                    refine lv_if_ne (tgt := 295) hx hb dX11_readLine_278 (by decide) (fun c66 => ?_) (fun c66 => ?_)
                    · skip
                      have zc66 : ¬ ((v57 1).toInt = 0) := by rw [fa_eq, show (0 : Int32).toInt = 0 from by decide] at c66; exact c66
                      refine lv_aload_n hx hb dX11_readLine_295 rfl (lv_at hl 0 rfl) ?_
                      refine va_get (D := (dC, dI)) (ci := 11) (v := .int (v57 1)) (C := RX11) (T := TX11) (N := 79) hx hb hts inB_11 hown hE.1 hP 0 rfl rfl 2 (by decide) (hts _ k_1322) (fun _ h9 => h9) rfl dX11_readLine_296 ?_
                      refine lv_if_ne (tgt := 306) hx hb dX11_readLine_299 (by decide) (fun c67 => ?_) (fun c67 => ?_)
                      · skip
                        have zc67 : ¬ ((v57 1).toInt = 0) := by rw [fa_eq, show (0 : Int32).toInt = 0 from by decide] at c67; exact c67
                        exact ret ((upd v57 23 r56), f58, w59, g60) _ _ _ _ _ _ ⟨⟨(YIb.upd (j := 23) (x := r56) hIv57.1 (rlo _) (rhi _)), hIv57.2⟩, hCf58, hRf58, hk0_v57, hk4_v57, hk9_v57, hk24_v57, hk25_v57, hk35_v57, hk36_v57, hk38_v57, hk39_v57, (by show 0 < (v57 1).toInt ∨ (v 3).toInt < (v57 3).toInt; omega), (by show (v 3).toInt ≤ (v57 3).toInt; omega), (by show (v57 1).toInt = 0 → ¬ (v57 15).toInt = 0 → progOK (f58 2) (f58 3) ((v57 8).toInt).toNat; rw [hs2_f58, hs3_f58]; intro hz8 hz9; first | exact prog_n (hPR (by omega)) (by omega) | exact prog_n (hPF (by omega)) (by omega) | (exfalso; omega))⟩ hP hD hS dX11_readLine_306 (Nat.le_refl _) (Nat.le_refl _)
                      · skip
                        have zc67 : (v57 1).toInt = 0 := by rw [fa_eq, show (0 : Int32).toInt = 0 from by decide] at c67; exact c67
                        refine lv_aload_n hx hb dX11_readLine_302 rfl (lv_at hl 0 rfl) ?_
                        refine cbVv (n := 0) (rest := []) hx hb hml hown hts hE hP hD hS hA (sY_X11_token_1 l dC dI cy y0 r  (upd v57 23 r56) f58 w59 g60 ⟨(YIb.upd (j := 23) (x := r56) hIv57.1 (rlo _) (rhi _)), hIv57.2⟩ hCf58 hRf58 ) k_1579 k_1581 k_42 k_114 k_1582 (by decide +kernel) ⟨Nat.le_of_ble_eq_true rfl, Nat.le_of_ble_eq_true rfl⟩ 0 11 rfl rfl (rfl) hl.1 rfl (Nat.le_of_ble_eq_true rfl) dX11_readLine_303 (fun u H locs hw hP hD hS => ?_)
                        obtain ⟨v68, f69, w70, g71⟩ := u
                        obtain ⟨hIv68, hCf69, hRf69, hk0_v68, hk1_v68, hk4_v68, hk8_v68, hk9_v68, hk10_v68, hk13_v68, hk14_v68, hk15_v68, hk17_v68, hk18_v68, hk24_v68, hk25_v68, hk35_v68, hk36_v68, hk38_v68, hk39_v68, pv72, pv73, kq74, kq75, kq76⟩ := hw
                        have hP : va_P (dC, dI) vwCl (YW cy y0 r v68 f69 w70 g71) H := hP
                        have hD : va_D A (YW cy y0 r v68 f69 w70 g71) := hD
                        have b3_v68 : 0 ≤ (v68 3).toInt ∧ (v68 3).toInt ≤ 1600 := YIb.b hIv68.1 3 (by decide)
                        have pv72 : (v57 3).toInt ≤ (v68 3).toInt := pv72
                        have pv73 : (v68 5).toInt = (v57 5).toInt ∨ (v57 3).toInt < (v68 3).toInt ∨ ¬ (v68 5).toInt = 59 := pv73
                        have hs2_f69 : f69 2 = (f 2) := kq74.trans hs2_f58
                        have hs3_f69 : f69 3 = (f 3) := kq75.trans hs3_f58
                        have hs6_f69 : f69 6 = (f 6) := kq76.trans hs6_f58
                        have hUv68 : (v68 35).toInt + (v68 36).toInt ≤ 40 := hIv68.2
                        have hq0_v68 : v68 0 = (v 0) := hk0_v68.trans hq0_v57
                        have hq1_v68 : v68 1 = (v57 1) := hk1_v68
                        have zq1_v68 := congrArg Int32.toInt hq1_v68
                        have hq4_v68 : v68 4 = (v 4) := hk4_v68.trans hq4_v57
                        have zq4_v68 := congrArg Int32.toInt hq4_v68
                        have hq8_v68 : v68 8 = (v 8) := hk8_v68.trans hq8_v57
                        have zq8_v68 := congrArg Int32.toInt hq8_v68
                        have hq9_v68 : v68 9 = (v 9) := hk9_v68.trans hq9_v57
                        have zq9_v68 := congrArg Int32.toInt hq9_v68
                        have hq10_v68 : v68 10 = (v 10) := hk10_v68.trans hq10_v57
                        have zq10_v68 := congrArg Int32.toInt hq10_v68
                        have hq13_v68 : v68 13 = (v 13) := hk13_v68.trans hq13_v57
                        have zq13_v68 := congrArg Int32.toInt hq13_v68
                        have hq14_v68 : v68 14 = (v 14) := hk14_v68.trans hq14_v57
                        have zq14_v68 := congrArg Int32.toInt hq14_v68
                        have hq15_v68 : v68 15 = (v 15) := hk15_v68.trans hq15_v57
                        have zq15_v68 := congrArg Int32.toInt hq15_v68
                        have hq17_v68 : v68 17 = (v 17) := hk17_v68.trans hq17_v57
                        have zq17_v68 := congrArg Int32.toInt hq17_v68
                        have hq18_v68 : v68 18 = (v 18) := hk18_v68.trans hq18_v57
                        have zq18_v68 := congrArg Int32.toInt hq18_v68
                        have hq24_v68 : v68 24 = (v 24) := hk24_v68.trans hq24_v57
                        have hq25_v68 : v68 25 = (v 25) := hk25_v68.trans hq25_v57
                        have hq35_v68 : v68 35 = (v 35) := hk35_v68.trans hq35_v57
                        have zq35_v68 := congrArg Int32.toInt hq35_v68
                        have hq36_v68 : v68 36 = (v 36) := hk36_v68.trans hq36_v57
                        have zq36_v68 := congrArg Int32.toInt hq36_v68
                        have hq38_v68 : v68 38 = (v 38) := hk38_v68.trans hq38_v57
                        have hq39_v68 : v68 39 = (v 39) := hk39_v68.trans hq39_v57
                        exact ret (v68, f69, w70, g71) _ _ _ _ _ _ ⟨hIv68, hCf69, hRf69, (hk0_v68.trans hk0_v57), (hk4_v68.trans hk4_v57), (hk9_v68.trans hk9_v57), (hk24_v68.trans hk24_v57), (hk25_v68.trans hk25_v57), (hk35_v68.trans hk35_v57), (hk36_v68.trans hk36_v57), (hk38_v68.trans hk38_v57), (hk39_v68.trans hk39_v57), (by show 0 < (v68 1).toInt ∨ (v 3).toInt < (v68 3).toInt; omega), (by show (v 3).toInt ≤ (v68 3).toInt; omega), (by show (v68 1).toInt = 0 → ¬ (v68 15).toInt = 0 → progOK (f69 2) (f69 3) ((v68 8).toInt).toNat; rw [hs2_f69, hs3_f69]; intro hz8 hz9; first | exact prog_n (hPR (by omega)) (by omega) | exact prog_n (hPF (by omega)) (by omega) | (exfalso; omega))⟩ hP hD hS dX11_readLine_306 (Nat.le_refl _) (Nat.le_refl _)
                    · skip
                      have zc66 : (v57 1).toInt = 0 := by rw [fa_eq, show (0 : Int32).toInt = 0 from by decide] at c66; exact c66
                      refine lv_aload_n hx hb dX11_readLine_281 rfl (lv_at hl 0 rfl) ?_
                      refine va_get (D := (dC, dI)) (ci := 11) (v := .int (v57 5)) (C := RX11) (T := TX11) (N := 79) hx hb hts inB_11 hown hE.1 hP 0 rfl rfl 6 (by decide) (hts _ k_1326) (fun _ h9 => h9) rfl dX11_readLine_282 ?_
                      refine lv_bipush (v := 59) hx hb dX11_readLine_285 (by decide) ?_
                      refine lv_icmp_eq (tgt := 295) hx hb dX11_readLine_287 (by decide) (fun c77 => ?_) (fun c77 => ?_)
                      · skip
                        have zc77 : (v57 5).toInt = 59 := by rw [fa_eq, show (59 : Int32).toInt = 59 from by decide] at c77; exact c77
                        refine lv_aload_n hx hb dX11_readLine_295 rfl (lv_at hl 0 rfl) ?_
                        refine va_get (D := (dC, dI)) (ci := 11) (v := .int (v57 1)) (C := RX11) (T := TX11) (N := 79) hx hb hts inB_11 hown hE.1 hP 0 rfl rfl 2 (by decide) (hts _ k_1322) (fun _ h9 => h9) rfl dX11_readLine_296 ?_
                        refine lv_if_ne (tgt := 306) hx hb dX11_readLine_299 (by decide) (fun c78 => ?_) (fun c78 => ?_)
                        · skip
                          have zc78 : ¬ ((v57 1).toInt = 0) := by rw [fa_eq, show (0 : Int32).toInt = 0 from by decide] at c78; exact c78
                          exact ret ((upd v57 23 r56), f58, w59, g60) _ _ _ _ _ _ ⟨⟨(YIb.upd (j := 23) (x := r56) hIv57.1 (rlo _) (rhi _)), hIv57.2⟩, hCf58, hRf58, hk0_v57, hk4_v57, hk9_v57, hk24_v57, hk25_v57, hk35_v57, hk36_v57, hk38_v57, hk39_v57, (by show 0 < (v57 1).toInt ∨ (v 3).toInt < (v57 3).toInt; omega), (by show (v 3).toInt ≤ (v57 3).toInt; omega), (by show (v57 1).toInt = 0 → ¬ (v57 15).toInt = 0 → progOK (f58 2) (f58 3) ((v57 8).toInt).toNat; rw [hs2_f58, hs3_f58]; intro hz8 hz9; first | exact prog_n (hPR (by omega)) (by omega) | exact prog_n (hPF (by omega)) (by omega) | (exfalso; omega))⟩ hP hD hS dX11_readLine_306 (Nat.le_refl _) (Nat.le_refl _)
                        · skip
                          have zc78 : (v57 1).toInt = 0 := by rw [fa_eq, show (0 : Int32).toInt = 0 from by decide] at c78; exact c78
                          refine lv_aload_n hx hb dX11_readLine_302 rfl (lv_at hl 0 rfl) ?_
                          refine cbVv (n := 0) (rest := []) hx hb hml hown hts hE hP hD hS hA (sY_X11_token_1 l dC dI cy y0 r  (upd v57 23 r56) f58 w59 g60 ⟨(YIb.upd (j := 23) (x := r56) hIv57.1 (rlo _) (rhi _)), hIv57.2⟩ hCf58 hRf58 ) k_1579 k_1581 k_42 k_114 k_1582 (by decide +kernel) ⟨Nat.le_of_ble_eq_true rfl, Nat.le_of_ble_eq_true rfl⟩ 0 11 rfl rfl (rfl) hl.1 rfl (Nat.le_of_ble_eq_true rfl) dX11_readLine_303 (fun u H locs hw hP hD hS => ?_)
                          obtain ⟨v79, f80, w81, g82⟩ := u
                          obtain ⟨hIv79, hCf80, hRf80, hk0_v79, hk1_v79, hk4_v79, hk8_v79, hk9_v79, hk10_v79, hk13_v79, hk14_v79, hk15_v79, hk17_v79, hk18_v79, hk24_v79, hk25_v79, hk35_v79, hk36_v79, hk38_v79, hk39_v79, pv83, pv84, kq85, kq86, kq87⟩ := hw
                          have hP : va_P (dC, dI) vwCl (YW cy y0 r v79 f80 w81 g82) H := hP
                          have hD : va_D A (YW cy y0 r v79 f80 w81 g82) := hD
                          have b3_v79 : 0 ≤ (v79 3).toInt ∧ (v79 3).toInt ≤ 1600 := YIb.b hIv79.1 3 (by decide)
                          have pv83 : (v57 3).toInt ≤ (v79 3).toInt := pv83
                          have pv84 : (v79 5).toInt = (v57 5).toInt ∨ (v57 3).toInt < (v79 3).toInt ∨ ¬ (v79 5).toInt = 59 := pv84
                          have hs2_f80 : f80 2 = (f 2) := kq85.trans hs2_f58
                          have hs3_f80 : f80 3 = (f 3) := kq86.trans hs3_f58
                          have hs6_f80 : f80 6 = (f 6) := kq87.trans hs6_f58
                          have hUv79 : (v79 35).toInt + (v79 36).toInt ≤ 40 := hIv79.2
                          have hq0_v79 : v79 0 = (v 0) := hk0_v79.trans hq0_v57
                          have hq1_v79 : v79 1 = (v57 1) := hk1_v79
                          have zq1_v79 := congrArg Int32.toInt hq1_v79
                          have hq4_v79 : v79 4 = (v 4) := hk4_v79.trans hq4_v57
                          have zq4_v79 := congrArg Int32.toInt hq4_v79
                          have hq8_v79 : v79 8 = (v 8) := hk8_v79.trans hq8_v57
                          have zq8_v79 := congrArg Int32.toInt hq8_v79
                          have hq9_v79 : v79 9 = (v 9) := hk9_v79.trans hq9_v57
                          have zq9_v79 := congrArg Int32.toInt hq9_v79
                          have hq10_v79 : v79 10 = (v 10) := hk10_v79.trans hq10_v57
                          have zq10_v79 := congrArg Int32.toInt hq10_v79
                          have hq13_v79 : v79 13 = (v 13) := hk13_v79.trans hq13_v57
                          have zq13_v79 := congrArg Int32.toInt hq13_v79
                          have hq14_v79 : v79 14 = (v 14) := hk14_v79.trans hq14_v57
                          have zq14_v79 := congrArg Int32.toInt hq14_v79
                          have hq15_v79 : v79 15 = (v 15) := hk15_v79.trans hq15_v57
                          have zq15_v79 := congrArg Int32.toInt hq15_v79
                          have hq17_v79 : v79 17 = (v 17) := hk17_v79.trans hq17_v57
                          have zq17_v79 := congrArg Int32.toInt hq17_v79
                          have hq18_v79 : v79 18 = (v 18) := hk18_v79.trans hq18_v57
                          have zq18_v79 := congrArg Int32.toInt hq18_v79
                          have hq24_v79 : v79 24 = (v 24) := hk24_v79.trans hq24_v57
                          have hq25_v79 : v79 25 = (v 25) := hk25_v79.trans hq25_v57
                          have hq35_v79 : v79 35 = (v 35) := hk35_v79.trans hq35_v57
                          have zq35_v79 := congrArg Int32.toInt hq35_v79
                          have hq36_v79 : v79 36 = (v 36) := hk36_v79.trans hq36_v57
                          have zq36_v79 := congrArg Int32.toInt hq36_v79
                          have hq38_v79 : v79 38 = (v 38) := hk38_v79.trans hq38_v57
                          have hq39_v79 : v79 39 = (v 39) := hk39_v79.trans hq39_v57
                          exact ret (v79, f80, w81, g82) _ _ _ _ _ _ ⟨hIv79, hCf80, hRf80, (hk0_v79.trans hk0_v57), (hk4_v79.trans hk4_v57), (hk9_v79.trans hk9_v57), (hk24_v79.trans hk24_v57), (hk25_v79.trans hk25_v57), (hk35_v79.trans hk35_v57), (hk36_v79.trans hk36_v57), (hk38_v79.trans hk38_v57), (hk39_v79.trans hk39_v57), (by show 0 < (v79 1).toInt ∨ (v 3).toInt < (v79 3).toInt; omega), (by show (v 3).toInt ≤ (v79 3).toInt; omega), (by show (v79 1).toInt = 0 → ¬ (v79 15).toInt = 0 → progOK (f80 2) (f80 3) ((v79 8).toInt).toNat; rw [hs2_f80, hs3_f80]; intro hz8 hz9; first | exact prog_n (hPR (by omega)) (by omega) | exact prog_n (hPF (by omega)) (by omega) | (exfalso; omega))⟩ hP hD hS dX11_readLine_306 (Nat.le_refl _) (Nat.le_refl _)
                      · skip
                        have zc77 : ¬ ((v57 5).toInt = 59) := by rw [fa_eq, show (59 : Int32).toInt = 59 from by decide] at c77; exact c77
                        refine lv_aload_n hx hb dX11_readLine_290 rfl (lv_at hl 0 rfl) ?_
                        refine lv_iconst (v := 2) hx hb dX11_readLine_291 (by decide) ?_
                        refine cbVv (n := 1) (rest := []) hx hb hml hown hts hE hP hD hS hA (sY_X11_wrong_1 l dC dI cy y0 r 2 (upd v57 23 r56) f58 w59 g60 ⟨(YIb.upd (j := 23) (x := r56) hIv57.1 (rlo _) (rhi _)), hIv57.2⟩ hCf58 hRf58 ⟨by decide, by decide⟩) k_1641 k_1643 k_50 k_114 k_1644 (by decide +kernel) ⟨Nat.le_of_ble_eq_true rfl, Nat.le_of_ble_eq_true rfl⟩ 0 11 rfl rfl (rfl) hl.1 rfl (Nat.le_of_ble_eq_true rfl) dX11_readLine_292 (fun u H locs hw hP hD hS => ?_)
                        obtain ⟨v88, f89, w90, g91⟩ := u
                        obtain ⟨hIv88, hCf89, hRf89, hk0_v88, hk3_v88, hk4_v88, hk5_v88, hk8_v88, hk9_v88, hk10_v88, hk13_v88, hk14_v88, hk15_v88, hk17_v88, hk18_v88, hk24_v88, hk25_v88, hk35_v88, hk36_v88, hk38_v88, hk39_v88, pv92, pv93, pv94, kq95, kq96, kq97⟩ := hw
                        have hP : va_P (dC, dI) vwCl (YW cy y0 r v88 f89 w90 g91) H := hP
                        have hD : va_D A (YW cy y0 r v88 f89 w90 g91) := hD
                        have b3_v88 : 0 ≤ (v88 3).toInt ∧ (v88 3).toInt ≤ 1600 := YIb.b hIv88.1 3 (by decide)
                        have b1_v88 : 0 ≤ (v88 1).toInt ∧ (v88 1).toInt ≤ 4 := YIb.b hIv88.1 1 (by decide)
                        have pv92 : (v57 3).toInt ≤ (v88 3).toInt := pv92
                        have pv93 : (v88 5).toInt = (v57 5).toInt ∨ (v57 3).toInt < (v88 3).toInt ∨ ¬ (v88 5).toInt = 59 := pv93
                        have pv94 : 0 < (v88 1).toInt := pv94
                        have hs2_f89 : f89 2 = (f 2) := kq95.trans hs2_f58
                        have hs3_f89 : f89 3 = (f 3) := kq96.trans hs3_f58
                        have hs6_f89 : f89 6 = (f 6) := kq97.trans hs6_f58
                        have hUv88 : (v88 35).toInt + (v88 36).toInt ≤ 40 := hIv88.2
                        have hq0_v88 : v88 0 = (v 0) := hk0_v88.trans hq0_v57
                        have hq3_v88 : v88 3 = (v57 3) := hk3_v88
                        have zq3_v88 := congrArg Int32.toInt hq3_v88
                        have hq4_v88 : v88 4 = (v 4) := hk4_v88.trans hq4_v57
                        have zq4_v88 := congrArg Int32.toInt hq4_v88
                        have hq5_v88 : v88 5 = (v57 5) := hk5_v88
                        have zq5_v88 := congrArg Int32.toInt hq5_v88
                        have hq8_v88 : v88 8 = (v 8) := hk8_v88.trans hq8_v57
                        have zq8_v88 := congrArg Int32.toInt hq8_v88
                        have hq9_v88 : v88 9 = (v 9) := hk9_v88.trans hq9_v57
                        have zq9_v88 := congrArg Int32.toInt hq9_v88
                        have hq10_v88 : v88 10 = (v 10) := hk10_v88.trans hq10_v57
                        have zq10_v88 := congrArg Int32.toInt hq10_v88
                        have hq13_v88 : v88 13 = (v 13) := hk13_v88.trans hq13_v57
                        have zq13_v88 := congrArg Int32.toInt hq13_v88
                        have hq14_v88 : v88 14 = (v 14) := hk14_v88.trans hq14_v57
                        have zq14_v88 := congrArg Int32.toInt hq14_v88
                        have hq15_v88 : v88 15 = (v 15) := hk15_v88.trans hq15_v57
                        have zq15_v88 := congrArg Int32.toInt hq15_v88
                        have hq17_v88 : v88 17 = (v 17) := hk17_v88.trans hq17_v57
                        have zq17_v88 := congrArg Int32.toInt hq17_v88
                        have hq18_v88 : v88 18 = (v 18) := hk18_v88.trans hq18_v57
                        have zq18_v88 := congrArg Int32.toInt hq18_v88
                        have hq24_v88 : v88 24 = (v 24) := hk24_v88.trans hq24_v57
                        have hq25_v88 : v88 25 = (v 25) := hk25_v88.trans hq25_v57
                        have hq35_v88 : v88 35 = (v 35) := hk35_v88.trans hq35_v57
                        have zq35_v88 := congrArg Int32.toInt hq35_v88
                        have hq36_v88 : v88 36 = (v 36) := hk36_v88.trans hq36_v57
                        have zq36_v88 := congrArg Int32.toInt hq36_v88
                        have hq38_v88 : v88 38 = (v 38) := hk38_v88.trans hq38_v57
                        have hq39_v88 : v88 39 = (v 39) := hk39_v88.trans hq39_v57
                        refine lv_aload_n hx hb dX11_readLine_295 rfl (lv_at hl 0 rfl) ?_
                        refine va_get (D := (dC, dI)) (ci := 11) (v := .int (v88 1)) (C := RX11) (T := TX11) (N := 79) hx hb hts inB_11 hown hE.1 hP 0 rfl rfl 2 (by decide) (hts _ k_1322) (fun _ h9 => h9) rfl dX11_readLine_296 ?_
                        have b1_v88 : 0 ≤ (v88 1).toInt ∧ (v88 1).toInt ≤ 4 := YIb.b hIv88.1 1 (by decide)
                        refine lv_if_ne (tgt := 306) hx hb dX11_readLine_299 (by decide) (fun c98 => ?_) (fun c98 => ?_)
                        · skip
                          have zc98 : ¬ ((v88 1).toInt = 0) := by rw [fa_eq, show (0 : Int32).toInt = 0 from by decide] at c98; exact c98
                          exact ret (v88, f89, w90, g91) _ _ _ _ _ _ ⟨hIv88, hCf89, hRf89, (hk0_v88.trans hk0_v57), (hk4_v88.trans hk4_v57), (hk9_v88.trans hk9_v57), (hk24_v88.trans hk24_v57), (hk25_v88.trans hk25_v57), (hk35_v88.trans hk35_v57), (hk36_v88.trans hk36_v57), (hk38_v88.trans hk38_v57), (hk39_v88.trans hk39_v57), (by show 0 < (v88 1).toInt ∨ (v 3).toInt < (v88 3).toInt; omega), (by show (v 3).toInt ≤ (v88 3).toInt; omega), (by show (v88 1).toInt = 0 → ¬ (v88 15).toInt = 0 → progOK (f89 2) (f89 3) ((v88 8).toInt).toNat; rw [hs2_f89, hs3_f89]; intro hz8 hz9; first | exact prog_n (hPR (by omega)) (by omega) | exact prog_n (hPF (by omega)) (by omega) | (exfalso; omega))⟩ hP hD hS dX11_readLine_306 (Nat.le_refl _) (Nat.le_refl _)
                        · skip
                          have zc98 : (v88 1).toInt = 0 := by rw [fa_eq, show (0 : Int32).toInt = 0 from by decide] at c98; exact c98
                          refine lv_aload_n hx hb dX11_readLine_302 rfl (lv_at hl 0 rfl) ?_
                          refine cbVv (n := 0) (rest := []) hx hb hml hown hts hE hP hD hS hA (sY_X11_token_1 l dC dI cy y0 r  v88 f89 w90 g91 hIv88 hCf89 hRf89 ) k_1579 k_1581 k_42 k_114 k_1582 (by decide +kernel) ⟨Nat.le_of_ble_eq_true rfl, Nat.le_of_ble_eq_true rfl⟩ 0 11 rfl rfl (rfl) hl.1 rfl (Nat.le_of_ble_eq_true rfl) dX11_readLine_303 (fun u H locs hw hP hD hS => ?_)
                          obtain ⟨v99, f100, w101, g102⟩ := u
                          obtain ⟨hIv99, hCf100, hRf100, hk0_v99, hk1_v99, hk4_v99, hk8_v99, hk9_v99, hk10_v99, hk13_v99, hk14_v99, hk15_v99, hk17_v99, hk18_v99, hk24_v99, hk25_v99, hk35_v99, hk36_v99, hk38_v99, hk39_v99, pv103, pv104, kq105, kq106, kq107⟩ := hw
                          have hP : va_P (dC, dI) vwCl (YW cy y0 r v99 f100 w101 g102) H := hP
                          have hD : va_D A (YW cy y0 r v99 f100 w101 g102) := hD
                          have b3_v99 : 0 ≤ (v99 3).toInt ∧ (v99 3).toInt ≤ 1600 := YIb.b hIv99.1 3 (by decide)
                          have pv103 : (v88 3).toInt ≤ (v99 3).toInt := pv103
                          have pv104 : (v99 5).toInt = (v88 5).toInt ∨ (v88 3).toInt < (v99 3).toInt ∨ ¬ (v99 5).toInt = 59 := pv104
                          have hs2_f100 : f100 2 = (f 2) := kq105.trans hs2_f89
                          have hs3_f100 : f100 3 = (f 3) := kq106.trans hs3_f89
                          have hs6_f100 : f100 6 = (f 6) := kq107.trans hs6_f89
                          have hUv99 : (v99 35).toInt + (v99 36).toInt ≤ 40 := hIv99.2
                          have hq0_v99 : v99 0 = (v 0) := hk0_v99.trans hq0_v88
                          have hq1_v99 : v99 1 = (v88 1) := hk1_v99
                          have zq1_v99 := congrArg Int32.toInt hq1_v99
                          have hq4_v99 : v99 4 = (v 4) := hk4_v99.trans hq4_v88
                          have zq4_v99 := congrArg Int32.toInt hq4_v99
                          have hq8_v99 : v99 8 = (v 8) := hk8_v99.trans hq8_v88
                          have zq8_v99 := congrArg Int32.toInt hq8_v99
                          have hq9_v99 : v99 9 = (v 9) := hk9_v99.trans hq9_v88
                          have zq9_v99 := congrArg Int32.toInt hq9_v99
                          have hq10_v99 : v99 10 = (v 10) := hk10_v99.trans hq10_v88
                          have zq10_v99 := congrArg Int32.toInt hq10_v99
                          have hq13_v99 : v99 13 = (v 13) := hk13_v99.trans hq13_v88
                          have zq13_v99 := congrArg Int32.toInt hq13_v99
                          have hq14_v99 : v99 14 = (v 14) := hk14_v99.trans hq14_v88
                          have zq14_v99 := congrArg Int32.toInt hq14_v99
                          have hq15_v99 : v99 15 = (v 15) := hk15_v99.trans hq15_v88
                          have zq15_v99 := congrArg Int32.toInt hq15_v99
                          have hq17_v99 : v99 17 = (v 17) := hk17_v99.trans hq17_v88
                          have zq17_v99 := congrArg Int32.toInt hq17_v99
                          have hq18_v99 : v99 18 = (v 18) := hk18_v99.trans hq18_v88
                          have zq18_v99 := congrArg Int32.toInt hq18_v99
                          have hq24_v99 : v99 24 = (v 24) := hk24_v99.trans hq24_v88
                          have hq25_v99 : v99 25 = (v 25) := hk25_v99.trans hq25_v88
                          have hq35_v99 : v99 35 = (v 35) := hk35_v99.trans hq35_v88
                          have zq35_v99 := congrArg Int32.toInt hq35_v99
                          have hq36_v99 : v99 36 = (v 36) := hk36_v99.trans hq36_v88
                          have zq36_v99 := congrArg Int32.toInt hq36_v99
                          have hq38_v99 : v99 38 = (v 38) := hk38_v99.trans hq38_v88
                          have hq39_v99 : v99 39 = (v 39) := hk39_v99.trans hq39_v88
                          exact ret (v99, f100, w101, g102) _ _ _ _ _ _ ⟨hIv99, hCf100, hRf100, (hk0_v99.trans (hk0_v88.trans hk0_v57)), (hk4_v99.trans (hk4_v88.trans hk4_v57)), (hk9_v99.trans (hk9_v88.trans hk9_v57)), (hk24_v99.trans (hk24_v88.trans hk24_v57)), (hk25_v99.trans (hk25_v88.trans hk25_v57)), (hk35_v99.trans (hk35_v88.trans hk35_v57)), (hk36_v99.trans (hk36_v88.trans hk36_v57)), (hk38_v99.trans (hk38_v88.trans hk38_v57)), (hk39_v99.trans (hk39_v88.trans hk39_v57)), (by show 0 < (v99 1).toInt ∨ (v 3).toInt < (v99 3).toInt; omega), (by show (v 3).toInt ≤ (v99 3).toInt; omega), (by show (v99 1).toInt = 0 → ¬ (v99 15).toInt = 0 → progOK (f100 2) (f100 3) ((v99 8).toInt).toNat; rw [hs2_f100, hs3_f100]; intro hz8 hz9; first | exact prog_n (hPR (by omega)) (by omega) | exact prog_n (hPF (by omega)) (by omega) | (exfalso; omega))⟩ hP hD hS dX11_readLine_306 (Nat.le_refl _) (Nat.le_refl _)
                · skip
                  subst g54
                  refine lv_if_eq (tgt := 269) hx hb dX11_readLine_237 (by decide) (fun _ => ?_) (fun c0 => absurd (by decide) c0)
                  exact jp269 _ _ _ hP hD hS hl
              refine lv_aload_n hx hb dX11_readLine_192 rfl (lv_at hl 0 rfl) ?_
              refine lv_ldc2 (v := 1918986606) hx hb hown (hts _ k_1631) dX11_readLine_193 ?_
              refine cbVi (n := 1) (rest := []) hx hb hml hown hts hE hP hD hS hA (sY_X11_isWord_1 l dC dI cy y0 r 1918986606 v f w g hIv hCf hRf ) k_1601 k_1603 k_45 k_114 k_1604 (by decide +kernel) ⟨Nat.le_of_ble_eq_true rfl, Nat.le_of_ble_eq_true rfl⟩ 0 11 rfl rfl (rfl) hl.1 rfl (Nat.le_of_ble_eq_true rfl) dX11_readLine_196 (fun r108 u H locs hw hP hD hS => ?_)
              rcases hw with ⟨g109, g109_0⟩ | ⟨g109⟩
              · skip
                subst g109
                refine lv_if_eq (tgt := 230) hx hb dX11_readLine_199 (by decide) (fun c0 => absurd c0 (by decide)) (fun _ => ?_)
                refine lv_aload_n hx hb dX11_readLine_202 rfl (lv_at hl 0 rfl) ?_
                refine va_get (D := (dC, dI)) (ci := 11) (v := .int (v 33)) (C := RX11) (T := TX11) (N := 79) hx hb hts inB_11 hown hE.1 hP 0 rfl rfl 57 (by decide) (hts _ k_1377) (fun _ h9 => h9) rfl dX11_readLine_203 ?_
                refine lv_if_ne (tgt := 230) hx hb dX11_readLine_206 (by decide) (fun c110 => ?_) (fun c110 => ?_)
                · skip
                  have zc110 : ¬ ((v 33).toInt = 0) := by rw [fa_eq, show (0 : Int32).toInt = 0 from by decide] at c110; exact c110
                  exact jp230 _ _ _ hP hD hS hl
                · skip
                  have zc110 : (v 33).toInt = 0 := by rw [fa_eq, show (0 : Int32).toInt = 0 from by decide] at c110; exact c110
                  refine lv_aload_n hx hb dX11_readLine_209 rfl (lv_at hl 0 rfl) ?_
                  refine lv_iconst (v := 1) hx hb dX11_readLine_210 (by decide) ?_
                  refine va_put (D := (dC, dI)) (ci := 11) (v := .int 1) (ty := tyX11 57) (C := RX11) (T := TX11) (N := 79) hx hb hts inB_11 tyX11 tyX11_ok nmX11 hown hE.1 hP hD hS 0 rfl rfl 57 (by decide) (hts _ k_1377) (fun _ h9 => h9) rfl (tyX11_ok 57 (by decide)) rfl rfl (Nat.le_of_ble_eq_true rfl) dX11_readLine_211 (fun H locs hP hD hS => ?_)
                  have hP : va_P (dC, dI) vwCl (YW cy y0 r (upd v 33 1) f w g) H := hP
                  have hD : va_D A (YW cy y0 r (upd v 33 1) f w g) := hD
                  refine lv_aload_n hx hb dX11_readLine_214 rfl (lv_at hl 0 rfl) ?_
                  refine lv_aload_n hx hb dX11_readLine_215 rfl (lv_at hl 0 rfl) ?_
                  refine lv_ldc2 (v := 1918986606) hx hb hown (hts _ k_1631) dX11_readLine_216 ?_
                  refine lv_bipush (v := 100) hx hb dX11_readLine_219 (by decide) ?_
                  refine cbVi (n := 2) (rest := [.ref y0]) hx hb hml hown hts hE hP hD hS hA (sY_X11_told_1 l dC dI cy y0 r 1918986606 100 (upd v 33 1) f w g ⟨(YIb.upd (j := 33) (x := 1) hIv.1 (rlo _) (rhi _)), hIv.2⟩ hCf hRf ) k_1645 k_1647 k_51 k_114 k_1648 (by decide +kernel) ⟨Nat.le_of_ble_eq_true rfl, Nat.le_of_ble_eq_true rfl⟩ 0 11 rfl rfl (rfl) hl.1 rfl (Nat.le_of_ble_eq_true rfl) dX11_readLine_221 (fun r111 u H locs hw hP hD hS => ?_)
                  obtain ⟨v112, f113, w114, g115⟩ := u
                  obtain ⟨hIv112, hCf113, hRf113, hk0_v112, hk4_v112, hk8_v112, hk9_v112, hk10_v112, hk13_v112, hk14_v112, hk15_v112, hk17_v112, hk18_v112, hk24_v112, hk25_v112, hk35_v112, hk36_v112, hk38_v112, hk39_v112, pv116, pv117, kq118, kq119, kq120⟩ := hw
                  have hP : va_P (dC, dI) vwCl (YW cy y0 r v112 f113 w114 g115) H := hP
                  have hD : va_D A (YW cy y0 r v112 f113 w114 g115) := hD
                  have b3_v112 : 0 ≤ (v112 3).toInt ∧ (v112 3).toInt ≤ 1600 := YIb.b hIv112.1 3 (by decide)
                  have pv116 : (v 3).toInt ≤ (v112 3).toInt := pv116
                  have pv117 : (v112 5).toInt = (v 5).toInt ∨ (v 3).toInt < (v112 3).toInt ∨ ¬ (v112 5).toInt = 59 := pv117
                  have hs2_f113 : f113 2 = (f 2) := kq118
                  have hs3_f113 : f113 3 = (f 3) := kq119
                  have hs6_f113 : f113 6 = (f 6) := kq120
                  have hUv112 : (v112 35).toInt + (v112 36).toInt ≤ 40 := hIv112.2
                  have hq0_v112 : v112 0 = (v 0) := hk0_v112
                  have hq4_v112 : v112 4 = (v 4) := hk4_v112
                  have zq4_v112 := congrArg Int32.toInt hq4_v112
                  have hq8_v112 : v112 8 = (v 8) := hk8_v112
                  have zq8_v112 := congrArg Int32.toInt hq8_v112
                  have hq9_v112 : v112 9 = (v 9) := hk9_v112
                  have zq9_v112 := congrArg Int32.toInt hq9_v112
                  have hq10_v112 : v112 10 = (v 10) := hk10_v112
                  have zq10_v112 := congrArg Int32.toInt hq10_v112
                  have hq13_v112 : v112 13 = (v 13) := hk13_v112
                  have zq13_v112 := congrArg Int32.toInt hq13_v112
                  have hq14_v112 : v112 14 = (v 14) := hk14_v112
                  have zq14_v112 := congrArg Int32.toInt hq14_v112
                  have hq15_v112 : v112 15 = (v 15) := hk15_v112
                  have zq15_v112 := congrArg Int32.toInt hq15_v112
                  have hq17_v112 : v112 17 = (v 17) := hk17_v112
                  have zq17_v112 := congrArg Int32.toInt hq17_v112
                  have hq18_v112 : v112 18 = (v 18) := hk18_v112
                  have zq18_v112 := congrArg Int32.toInt hq18_v112
                  have hq24_v112 : v112 24 = (v 24) := hk24_v112
                  have hq25_v112 : v112 25 = (v 25) := hk25_v112
                  have hq35_v112 : v112 35 = (v 35) := hk35_v112
                  have zq35_v112 := congrArg Int32.toInt hq35_v112
                  have hq36_v112 : v112 36 = (v 36) := hk36_v112
                  have zq36_v112 := congrArg Int32.toInt hq36_v112
                  have hq38_v112 : v112 38 = (v 38) := hk38_v112
                  have hq39_v112 : v112 39 = (v 39) := hk39_v112
                  refine va_put (D := (dC, dI)) (ci := 11) (v := .int r111) (ty := tyX11 46) (C := RX11) (T := TX11) (N := 79) hx hb hts inB_11 tyX11 tyX11_ok nmX11 hown hE.1 hP hD hS 0 rfl rfl 46 (by decide) (hts _ k_1366) (fun _ h9 => h9) rfl (tyX11_ok 46 (by decide)) rfl rfl (Nat.le_of_ble_eq_true rfl) dX11_readLine_224 (fun H locs hP hD hS => ?_)
                  have hP : va_P (dC, dI) vwCl (YW cy y0 r (upd v112 22 r111) f113 w114 g115) H := hP
                  have hD : va_D A (YW cy y0 r (upd v112 22 r111) f113 w114 g115) := hD
                  refine lv_goto (tgt := 274) hx hb dX11_readLine_227 (by decide) ?_
                  refine lv_aload_n hx hb dX11_readLine_274 rfl (lv_at hl 0 rfl) ?_
                  refine va_get (D := (dC, dI)) (ci := 11) (v := .int (v112 1)) (C := RX11) (T := TX11) (N := 79) hx hb hts inB_11 hown hE.1 hP 0 rfl rfl 2 (by decide) (hts _ k_1322) (fun _ h9 => h9) rfl dX11_readLine_275 ?_
                  have b1_v112 : 0 ≤ (v112 1).toInt ∧ (v112 1).toInt ≤ 4 := YIb.b hIv112.1 1 (by decide)
                  refine lv_if_ne (tgt := 295) hx hb dX11_readLine_278 (by decide) (fun c121 => ?_) (fun c121 => ?_)
                  · skip
                    have zc121 : ¬ ((v112 1).toInt = 0) := by rw [fa_eq, show (0 : Int32).toInt = 0 from by decide] at c121; exact c121
                    refine lv_aload_n hx hb dX11_readLine_295 rfl (lv_at hl 0 rfl) ?_
                    refine va_get (D := (dC, dI)) (ci := 11) (v := .int (v112 1)) (C := RX11) (T := TX11) (N := 79) hx hb hts inB_11 hown hE.1 hP 0 rfl rfl 2 (by decide) (hts _ k_1322) (fun _ h9 => h9) rfl dX11_readLine_296 ?_
                    refine lv_if_ne (tgt := 306) hx hb dX11_readLine_299 (by decide) (fun c122 => ?_) (fun c122 => ?_)
                    · skip
                      have zc122 : ¬ ((v112 1).toInt = 0) := by rw [fa_eq, show (0 : Int32).toInt = 0 from by decide] at c122; exact c122
                      exact ret ((upd v112 22 r111), f113, w114, g115) _ _ _ _ _ _ ⟨⟨(YIb.upd (j := 22) (x := r111) hIv112.1 (rlo _) (rhi _)), hIv112.2⟩, hCf113, hRf113, hk0_v112, hk4_v112, hk9_v112, hk24_v112, hk25_v112, hk35_v112, hk36_v112, hk38_v112, hk39_v112, (by show 0 < (v112 1).toInt ∨ (v 3).toInt < (v112 3).toInt; omega), (by show (v 3).toInt ≤ (v112 3).toInt; omega), (by show (v112 1).toInt = 0 → ¬ (v112 15).toInt = 0 → progOK (f113 2) (f113 3) ((v112 8).toInt).toNat; rw [hs2_f113, hs3_f113]; intro hz8 hz9; first | exact prog_n (hPR (by omega)) (by omega) | exact prog_n (hPF (by omega)) (by omega) | (exfalso; omega))⟩ hP hD hS dX11_readLine_306 (Nat.le_refl _) (Nat.le_refl _)
                    · skip
                      have zc122 : (v112 1).toInt = 0 := by rw [fa_eq, show (0 : Int32).toInt = 0 from by decide] at c122; exact c122
                      refine lv_aload_n hx hb dX11_readLine_302 rfl (lv_at hl 0 rfl) ?_
                      refine cbVv (n := 0) (rest := []) hx hb hml hown hts hE hP hD hS hA (sY_X11_token_1 l dC dI cy y0 r  (upd v112 22 r111) f113 w114 g115 ⟨(YIb.upd (j := 22) (x := r111) hIv112.1 (rlo _) (rhi _)), hIv112.2⟩ hCf113 hRf113 ) k_1579 k_1581 k_42 k_114 k_1582 (by decide +kernel) ⟨Nat.le_of_ble_eq_true rfl, Nat.le_of_ble_eq_true rfl⟩ 0 11 rfl rfl (rfl) hl.1 rfl (Nat.le_of_ble_eq_true rfl) dX11_readLine_303 (fun u H locs hw hP hD hS => ?_)
                      obtain ⟨v123, f124, w125, g126⟩ := u
                      obtain ⟨hIv123, hCf124, hRf124, hk0_v123, hk1_v123, hk4_v123, hk8_v123, hk9_v123, hk10_v123, hk13_v123, hk14_v123, hk15_v123, hk17_v123, hk18_v123, hk24_v123, hk25_v123, hk35_v123, hk36_v123, hk38_v123, hk39_v123, pv127, pv128, kq129, kq130, kq131⟩ := hw
                      have hP : va_P (dC, dI) vwCl (YW cy y0 r v123 f124 w125 g126) H := hP
                      have hD : va_D A (YW cy y0 r v123 f124 w125 g126) := hD
                      have b3_v123 : 0 ≤ (v123 3).toInt ∧ (v123 3).toInt ≤ 1600 := YIb.b hIv123.1 3 (by decide)
                      have pv127 : (v112 3).toInt ≤ (v123 3).toInt := pv127
                      have pv128 : (v123 5).toInt = (v112 5).toInt ∨ (v112 3).toInt < (v123 3).toInt ∨ ¬ (v123 5).toInt = 59 := pv128
                      have hs2_f124 : f124 2 = (f 2) := kq129.trans hs2_f113
                      have hs3_f124 : f124 3 = (f 3) := kq130.trans hs3_f113
                      have hs6_f124 : f124 6 = (f 6) := kq131.trans hs6_f113
                      have hUv123 : (v123 35).toInt + (v123 36).toInt ≤ 40 := hIv123.2
                      have hq0_v123 : v123 0 = (v 0) := hk0_v123.trans hq0_v112
                      have hq1_v123 : v123 1 = (v112 1) := hk1_v123
                      have zq1_v123 := congrArg Int32.toInt hq1_v123
                      have hq4_v123 : v123 4 = (v 4) := hk4_v123.trans hq4_v112
                      have zq4_v123 := congrArg Int32.toInt hq4_v123
                      have hq8_v123 : v123 8 = (v 8) := hk8_v123.trans hq8_v112
                      have zq8_v123 := congrArg Int32.toInt hq8_v123
                      have hq9_v123 : v123 9 = (v 9) := hk9_v123.trans hq9_v112
                      have zq9_v123 := congrArg Int32.toInt hq9_v123
                      have hq10_v123 : v123 10 = (v 10) := hk10_v123.trans hq10_v112
                      have zq10_v123 := congrArg Int32.toInt hq10_v123
                      have hq13_v123 : v123 13 = (v 13) := hk13_v123.trans hq13_v112
                      have zq13_v123 := congrArg Int32.toInt hq13_v123
                      have hq14_v123 : v123 14 = (v 14) := hk14_v123.trans hq14_v112
                      have zq14_v123 := congrArg Int32.toInt hq14_v123
                      have hq15_v123 : v123 15 = (v 15) := hk15_v123.trans hq15_v112
                      have zq15_v123 := congrArg Int32.toInt hq15_v123
                      have hq17_v123 : v123 17 = (v 17) := hk17_v123.trans hq17_v112
                      have zq17_v123 := congrArg Int32.toInt hq17_v123
                      have hq18_v123 : v123 18 = (v 18) := hk18_v123.trans hq18_v112
                      have zq18_v123 := congrArg Int32.toInt hq18_v123
                      have hq24_v123 : v123 24 = (v 24) := hk24_v123.trans hq24_v112
                      have hq25_v123 : v123 25 = (v 25) := hk25_v123.trans hq25_v112
                      have hq35_v123 : v123 35 = (v 35) := hk35_v123.trans hq35_v112
                      have zq35_v123 := congrArg Int32.toInt hq35_v123
                      have hq36_v123 : v123 36 = (v 36) := hk36_v123.trans hq36_v112
                      have zq36_v123 := congrArg Int32.toInt hq36_v123
                      have hq38_v123 : v123 38 = (v 38) := hk38_v123.trans hq38_v112
                      have hq39_v123 : v123 39 = (v 39) := hk39_v123.trans hq39_v112
                      exact ret (v123, f124, w125, g126) _ _ _ _ _ _ ⟨hIv123, hCf124, hRf124, (hk0_v123.trans hk0_v112), (hk4_v123.trans hk4_v112), (hk9_v123.trans hk9_v112), (hk24_v123.trans hk24_v112), (hk25_v123.trans hk25_v112), (hk35_v123.trans hk35_v112), (hk36_v123.trans hk36_v112), (hk38_v123.trans hk38_v112), (hk39_v123.trans hk39_v112), (by show 0 < (v123 1).toInt ∨ (v 3).toInt < (v123 3).toInt; omega), (by show (v 3).toInt ≤ (v123 3).toInt; omega), (by show (v123 1).toInt = 0 → ¬ (v123 15).toInt = 0 → progOK (f124 2) (f124 3) ((v123 8).toInt).toNat; rw [hs2_f124, hs3_f124]; intro hz8 hz9; first | exact prog_n (hPR (by omega)) (by omega) | exact prog_n (hPF (by omega)) (by omega) | (exfalso; omega))⟩ hP hD hS dX11_readLine_306 (Nat.le_refl _) (Nat.le_refl _)
                  · skip
                    have zc121 : (v112 1).toInt = 0 := by rw [fa_eq, show (0 : Int32).toInt = 0 from by decide] at c121; exact c121
                    refine lv_aload_n hx hb dX11_readLine_281 rfl (lv_at hl 0 rfl) ?_
                    refine va_get (D := (dC, dI)) (ci := 11) (v := .int (v112 5)) (C := RX11) (T := TX11) (N := 79) hx hb hts inB_11 hown hE.1 hP 0 rfl rfl 6 (by decide) (hts _ k_1326) (fun _ h9 => h9) rfl dX11_readLine_282 ?_
                    refine lv_bipush (v := 59) hx hb dX11_readLine_285 (by decide) ?_
                    refine lv_icmp_eq (tgt := 295) hx hb dX11_readLine_287 (by decide) (fun c132 => ?_) (fun c132 => ?_)
                    · skip
                      have zc132 : (v112 5).toInt = 59 := by rw [fa_eq, show (59 : Int32).toInt = 59 from by decide] at c132; exact c132
                      refine lv_aload_n hx hb dX11_readLine_295 rfl (lv_at hl 0 rfl) ?_
                      refine va_get (D := (dC, dI)) (ci := 11) (v := .int (v112 1)) (C := RX11) (T := TX11) (N := 79) hx hb hts inB_11 hown hE.1 hP 0 rfl rfl 2 (by decide) (hts _ k_1322) (fun _ h9 => h9) rfl dX11_readLine_296 ?_
                      refine lv_if_ne (tgt := 306) hx hb dX11_readLine_299 (by decide) (fun c133 => ?_) (fun c133 => ?_)
                      · skip
                        have zc133 : ¬ ((v112 1).toInt = 0) := by rw [fa_eq, show (0 : Int32).toInt = 0 from by decide] at c133; exact c133
                        exact ret ((upd v112 22 r111), f113, w114, g115) _ _ _ _ _ _ ⟨⟨(YIb.upd (j := 22) (x := r111) hIv112.1 (rlo _) (rhi _)), hIv112.2⟩, hCf113, hRf113, hk0_v112, hk4_v112, hk9_v112, hk24_v112, hk25_v112, hk35_v112, hk36_v112, hk38_v112, hk39_v112, (by show 0 < (v112 1).toInt ∨ (v 3).toInt < (v112 3).toInt; omega), (by show (v 3).toInt ≤ (v112 3).toInt; omega), (by show (v112 1).toInt = 0 → ¬ (v112 15).toInt = 0 → progOK (f113 2) (f113 3) ((v112 8).toInt).toNat; rw [hs2_f113, hs3_f113]; intro hz8 hz9; first | exact prog_n (hPR (by omega)) (by omega) | exact prog_n (hPF (by omega)) (by omega) | (exfalso; omega))⟩ hP hD hS dX11_readLine_306 (Nat.le_refl _) (Nat.le_refl _)
                      · skip
                        have zc133 : (v112 1).toInt = 0 := by rw [fa_eq, show (0 : Int32).toInt = 0 from by decide] at c133; exact c133
                        refine lv_aload_n hx hb dX11_readLine_302 rfl (lv_at hl 0 rfl) ?_
                        refine cbVv (n := 0) (rest := []) hx hb hml hown hts hE hP hD hS hA (sY_X11_token_1 l dC dI cy y0 r  (upd v112 22 r111) f113 w114 g115 ⟨(YIb.upd (j := 22) (x := r111) hIv112.1 (rlo _) (rhi _)), hIv112.2⟩ hCf113 hRf113 ) k_1579 k_1581 k_42 k_114 k_1582 (by decide +kernel) ⟨Nat.le_of_ble_eq_true rfl, Nat.le_of_ble_eq_true rfl⟩ 0 11 rfl rfl (rfl) hl.1 rfl (Nat.le_of_ble_eq_true rfl) dX11_readLine_303 (fun u H locs hw hP hD hS => ?_)
                        obtain ⟨v134, f135, w136, g137⟩ := u
                        obtain ⟨hIv134, hCf135, hRf135, hk0_v134, hk1_v134, hk4_v134, hk8_v134, hk9_v134, hk10_v134, hk13_v134, hk14_v134, hk15_v134, hk17_v134, hk18_v134, hk24_v134, hk25_v134, hk35_v134, hk36_v134, hk38_v134, hk39_v134, pv138, pv139, kq140, kq141, kq142⟩ := hw
                        have hP : va_P (dC, dI) vwCl (YW cy y0 r v134 f135 w136 g137) H := hP
                        have hD : va_D A (YW cy y0 r v134 f135 w136 g137) := hD
                        have b3_v134 : 0 ≤ (v134 3).toInt ∧ (v134 3).toInt ≤ 1600 := YIb.b hIv134.1 3 (by decide)
                        have pv138 : (v112 3).toInt ≤ (v134 3).toInt := pv138
                        have pv139 : (v134 5).toInt = (v112 5).toInt ∨ (v112 3).toInt < (v134 3).toInt ∨ ¬ (v134 5).toInt = 59 := pv139
                        have hs2_f135 : f135 2 = (f 2) := kq140.trans hs2_f113
                        have hs3_f135 : f135 3 = (f 3) := kq141.trans hs3_f113
                        have hs6_f135 : f135 6 = (f 6) := kq142.trans hs6_f113
                        have hUv134 : (v134 35).toInt + (v134 36).toInt ≤ 40 := hIv134.2
                        have hq0_v134 : v134 0 = (v 0) := hk0_v134.trans hq0_v112
                        have hq1_v134 : v134 1 = (v112 1) := hk1_v134
                        have zq1_v134 := congrArg Int32.toInt hq1_v134
                        have hq4_v134 : v134 4 = (v 4) := hk4_v134.trans hq4_v112
                        have zq4_v134 := congrArg Int32.toInt hq4_v134
                        have hq8_v134 : v134 8 = (v 8) := hk8_v134.trans hq8_v112
                        have zq8_v134 := congrArg Int32.toInt hq8_v134
                        have hq9_v134 : v134 9 = (v 9) := hk9_v134.trans hq9_v112
                        have zq9_v134 := congrArg Int32.toInt hq9_v134
                        have hq10_v134 : v134 10 = (v 10) := hk10_v134.trans hq10_v112
                        have zq10_v134 := congrArg Int32.toInt hq10_v134
                        have hq13_v134 : v134 13 = (v 13) := hk13_v134.trans hq13_v112
                        have zq13_v134 := congrArg Int32.toInt hq13_v134
                        have hq14_v134 : v134 14 = (v 14) := hk14_v134.trans hq14_v112
                        have zq14_v134 := congrArg Int32.toInt hq14_v134
                        have hq15_v134 : v134 15 = (v 15) := hk15_v134.trans hq15_v112
                        have zq15_v134 := congrArg Int32.toInt hq15_v134
                        have hq17_v134 : v134 17 = (v 17) := hk17_v134.trans hq17_v112
                        have zq17_v134 := congrArg Int32.toInt hq17_v134
                        have hq18_v134 : v134 18 = (v 18) := hk18_v134.trans hq18_v112
                        have zq18_v134 := congrArg Int32.toInt hq18_v134
                        have hq24_v134 : v134 24 = (v 24) := hk24_v134.trans hq24_v112
                        have hq25_v134 : v134 25 = (v 25) := hk25_v134.trans hq25_v112
                        have hq35_v134 : v134 35 = (v 35) := hk35_v134.trans hq35_v112
                        have zq35_v134 := congrArg Int32.toInt hq35_v134
                        have hq36_v134 : v134 36 = (v 36) := hk36_v134.trans hq36_v112
                        have zq36_v134 := congrArg Int32.toInt hq36_v134
                        have hq38_v134 : v134 38 = (v 38) := hk38_v134.trans hq38_v112
                        have hq39_v134 : v134 39 = (v 39) := hk39_v134.trans hq39_v112
                        exact ret (v134, f135, w136, g137) _ _ _ _ _ _ ⟨hIv134, hCf135, hRf135, (hk0_v134.trans hk0_v112), (hk4_v134.trans hk4_v112), (hk9_v134.trans hk9_v112), (hk24_v134.trans hk24_v112), (hk25_v134.trans hk25_v112), (hk35_v134.trans hk35_v112), (hk36_v134.trans hk36_v112), (hk38_v134.trans hk38_v112), (hk39_v134.trans hk39_v112), (by show 0 < (v134 1).toInt ∨ (v 3).toInt < (v134 3).toInt; omega), (by show (v 3).toInt ≤ (v134 3).toInt; omega), (by show (v134 1).toInt = 0 → ¬ (v134 15).toInt = 0 → progOK (f135 2) (f135 3) ((v134 8).toInt).toNat; rw [hs2_f135, hs3_f135]; intro hz8 hz9; first | exact prog_n (hPR (by omega)) (by omega) | exact prog_n (hPF (by omega)) (by omega) | (exfalso; omega))⟩ hP hD hS dX11_readLine_306 (Nat.le_refl _) (Nat.le_refl _)
                    · skip
                      have zc132 : ¬ ((v112 5).toInt = 59) := by rw [fa_eq, show (59 : Int32).toInt = 59 from by decide] at c132; exact c132
                      refine lv_aload_n hx hb dX11_readLine_290 rfl (lv_at hl 0 rfl) ?_
                      refine lv_iconst (v := 2) hx hb dX11_readLine_291 (by decide) ?_
                      refine cbVv (n := 1) (rest := []) hx hb hml hown hts hE hP hD hS hA (sY_X11_wrong_1 l dC dI cy y0 r 2 (upd v112 22 r111) f113 w114 g115 ⟨(YIb.upd (j := 22) (x := r111) hIv112.1 (rlo _) (rhi _)), hIv112.2⟩ hCf113 hRf113 ⟨by decide, by decide⟩) k_1641 k_1643 k_50 k_114 k_1644 (by decide +kernel) ⟨Nat.le_of_ble_eq_true rfl, Nat.le_of_ble_eq_true rfl⟩ 0 11 rfl rfl (rfl) hl.1 rfl (Nat.le_of_ble_eq_true rfl) dX11_readLine_292 (fun u H locs hw hP hD hS => ?_)
                      obtain ⟨v143, f144, w145, g146⟩ := u
                      obtain ⟨hIv143, hCf144, hRf144, hk0_v143, hk3_v143, hk4_v143, hk5_v143, hk8_v143, hk9_v143, hk10_v143, hk13_v143, hk14_v143, hk15_v143, hk17_v143, hk18_v143, hk24_v143, hk25_v143, hk35_v143, hk36_v143, hk38_v143, hk39_v143, pv147, pv148, pv149, kq150, kq151, kq152⟩ := hw
                      have hP : va_P (dC, dI) vwCl (YW cy y0 r v143 f144 w145 g146) H := hP
                      have hD : va_D A (YW cy y0 r v143 f144 w145 g146) := hD
                      have b3_v143 : 0 ≤ (v143 3).toInt ∧ (v143 3).toInt ≤ 1600 := YIb.b hIv143.1 3 (by decide)
                      have b1_v143 : 0 ≤ (v143 1).toInt ∧ (v143 1).toInt ≤ 4 := YIb.b hIv143.1 1 (by decide)
                      have pv147 : (v112 3).toInt ≤ (v143 3).toInt := pv147
                      have pv148 : (v143 5).toInt = (v112 5).toInt ∨ (v112 3).toInt < (v143 3).toInt ∨ ¬ (v143 5).toInt = 59 := pv148
                      have pv149 : 0 < (v143 1).toInt := pv149
                      have hs2_f144 : f144 2 = (f 2) := kq150.trans hs2_f113
                      have hs3_f144 : f144 3 = (f 3) := kq151.trans hs3_f113
                      have hs6_f144 : f144 6 = (f 6) := kq152.trans hs6_f113
                      have hUv143 : (v143 35).toInt + (v143 36).toInt ≤ 40 := hIv143.2
                      have hq0_v143 : v143 0 = (v 0) := hk0_v143.trans hq0_v112
                      have hq3_v143 : v143 3 = (v112 3) := hk3_v143
                      have zq3_v143 := congrArg Int32.toInt hq3_v143
                      have hq4_v143 : v143 4 = (v 4) := hk4_v143.trans hq4_v112
                      have zq4_v143 := congrArg Int32.toInt hq4_v143
                      have hq5_v143 : v143 5 = (v112 5) := hk5_v143
                      have zq5_v143 := congrArg Int32.toInt hq5_v143
                      have hq8_v143 : v143 8 = (v 8) := hk8_v143.trans hq8_v112
                      have zq8_v143 := congrArg Int32.toInt hq8_v143
                      have hq9_v143 : v143 9 = (v 9) := hk9_v143.trans hq9_v112
                      have zq9_v143 := congrArg Int32.toInt hq9_v143
                      have hq10_v143 : v143 10 = (v 10) := hk10_v143.trans hq10_v112
                      have zq10_v143 := congrArg Int32.toInt hq10_v143
                      have hq13_v143 : v143 13 = (v 13) := hk13_v143.trans hq13_v112
                      have zq13_v143 := congrArg Int32.toInt hq13_v143
                      have hq14_v143 : v143 14 = (v 14) := hk14_v143.trans hq14_v112
                      have zq14_v143 := congrArg Int32.toInt hq14_v143
                      have hq15_v143 : v143 15 = (v 15) := hk15_v143.trans hq15_v112
                      have zq15_v143 := congrArg Int32.toInt hq15_v143
                      have hq17_v143 : v143 17 = (v 17) := hk17_v143.trans hq17_v112
                      have zq17_v143 := congrArg Int32.toInt hq17_v143
                      have hq18_v143 : v143 18 = (v 18) := hk18_v143.trans hq18_v112
                      have zq18_v143 := congrArg Int32.toInt hq18_v143
                      have hq24_v143 : v143 24 = (v 24) := hk24_v143.trans hq24_v112
                      have hq25_v143 : v143 25 = (v 25) := hk25_v143.trans hq25_v112
                      have hq35_v143 : v143 35 = (v 35) := hk35_v143.trans hq35_v112
                      have zq35_v143 := congrArg Int32.toInt hq35_v143
                      have hq36_v143 : v143 36 = (v 36) := hk36_v143.trans hq36_v112
                      have zq36_v143 := congrArg Int32.toInt hq36_v143
                      have hq38_v143 : v143 38 = (v 38) := hk38_v143.trans hq38_v112
                      have hq39_v143 : v143 39 = (v 39) := hk39_v143.trans hq39_v112
                      refine lv_aload_n hx hb dX11_readLine_295 rfl (lv_at hl 0 rfl) ?_
                      refine va_get (D := (dC, dI)) (ci := 11) (v := .int (v143 1)) (C := RX11) (T := TX11) (N := 79) hx hb hts inB_11 hown hE.1 hP 0 rfl rfl 2 (by decide) (hts _ k_1322) (fun _ h9 => h9) rfl dX11_readLine_296 ?_
                      have b1_v143 : 0 ≤ (v143 1).toInt ∧ (v143 1).toInt ≤ 4 := YIb.b hIv143.1 1 (by decide)
                      refine lv_if_ne (tgt := 306) hx hb dX11_readLine_299 (by decide) (fun c153 => ?_) (fun c153 => ?_)
                      · skip
                        have zc153 : ¬ ((v143 1).toInt = 0) := by rw [fa_eq, show (0 : Int32).toInt = 0 from by decide] at c153; exact c153
                        exact ret (v143, f144, w145, g146) _ _ _ _ _ _ ⟨hIv143, hCf144, hRf144, (hk0_v143.trans hk0_v112), (hk4_v143.trans hk4_v112), (hk9_v143.trans hk9_v112), (hk24_v143.trans hk24_v112), (hk25_v143.trans hk25_v112), (hk35_v143.trans hk35_v112), (hk36_v143.trans hk36_v112), (hk38_v143.trans hk38_v112), (hk39_v143.trans hk39_v112), (by show 0 < (v143 1).toInt ∨ (v 3).toInt < (v143 3).toInt; omega), (by show (v 3).toInt ≤ (v143 3).toInt; omega), (by show (v143 1).toInt = 0 → ¬ (v143 15).toInt = 0 → progOK (f144 2) (f144 3) ((v143 8).toInt).toNat; rw [hs2_f144, hs3_f144]; intro hz8 hz9; first | exact prog_n (hPR (by omega)) (by omega) | exact prog_n (hPF (by omega)) (by omega) | (exfalso; omega))⟩ hP hD hS dX11_readLine_306 (Nat.le_refl _) (Nat.le_refl _)
                      · skip
                        have zc153 : (v143 1).toInt = 0 := by rw [fa_eq, show (0 : Int32).toInt = 0 from by decide] at c153; exact c153
                        refine lv_aload_n hx hb dX11_readLine_302 rfl (lv_at hl 0 rfl) ?_
                        refine cbVv (n := 0) (rest := []) hx hb hml hown hts hE hP hD hS hA (sY_X11_token_1 l dC dI cy y0 r  v143 f144 w145 g146 hIv143 hCf144 hRf144 ) k_1579 k_1581 k_42 k_114 k_1582 (by decide +kernel) ⟨Nat.le_of_ble_eq_true rfl, Nat.le_of_ble_eq_true rfl⟩ 0 11 rfl rfl (rfl) hl.1 rfl (Nat.le_of_ble_eq_true rfl) dX11_readLine_303 (fun u H locs hw hP hD hS => ?_)
                        obtain ⟨v154, f155, w156, g157⟩ := u
                        obtain ⟨hIv154, hCf155, hRf155, hk0_v154, hk1_v154, hk4_v154, hk8_v154, hk9_v154, hk10_v154, hk13_v154, hk14_v154, hk15_v154, hk17_v154, hk18_v154, hk24_v154, hk25_v154, hk35_v154, hk36_v154, hk38_v154, hk39_v154, pv158, pv159, kq160, kq161, kq162⟩ := hw
                        have hP : va_P (dC, dI) vwCl (YW cy y0 r v154 f155 w156 g157) H := hP
                        have hD : va_D A (YW cy y0 r v154 f155 w156 g157) := hD
                        have b3_v154 : 0 ≤ (v154 3).toInt ∧ (v154 3).toInt ≤ 1600 := YIb.b hIv154.1 3 (by decide)
                        have pv158 : (v143 3).toInt ≤ (v154 3).toInt := pv158
                        have pv159 : (v154 5).toInt = (v143 5).toInt ∨ (v143 3).toInt < (v154 3).toInt ∨ ¬ (v154 5).toInt = 59 := pv159
                        have hs2_f155 : f155 2 = (f 2) := kq160.trans hs2_f144
                        have hs3_f155 : f155 3 = (f 3) := kq161.trans hs3_f144
                        have hs6_f155 : f155 6 = (f 6) := kq162.trans hs6_f144
                        have hUv154 : (v154 35).toInt + (v154 36).toInt ≤ 40 := hIv154.2
                        have hq0_v154 : v154 0 = (v 0) := hk0_v154.trans hq0_v143
                        have hq1_v154 : v154 1 = (v143 1) := hk1_v154
                        have zq1_v154 := congrArg Int32.toInt hq1_v154
                        have hq4_v154 : v154 4 = (v 4) := hk4_v154.trans hq4_v143
                        have zq4_v154 := congrArg Int32.toInt hq4_v154
                        have hq8_v154 : v154 8 = (v 8) := hk8_v154.trans hq8_v143
                        have zq8_v154 := congrArg Int32.toInt hq8_v154
                        have hq9_v154 : v154 9 = (v 9) := hk9_v154.trans hq9_v143
                        have zq9_v154 := congrArg Int32.toInt hq9_v154
                        have hq10_v154 : v154 10 = (v 10) := hk10_v154.trans hq10_v143
                        have zq10_v154 := congrArg Int32.toInt hq10_v154
                        have hq13_v154 : v154 13 = (v 13) := hk13_v154.trans hq13_v143
                        have zq13_v154 := congrArg Int32.toInt hq13_v154
                        have hq14_v154 : v154 14 = (v 14) := hk14_v154.trans hq14_v143
                        have zq14_v154 := congrArg Int32.toInt hq14_v154
                        have hq15_v154 : v154 15 = (v 15) := hk15_v154.trans hq15_v143
                        have zq15_v154 := congrArg Int32.toInt hq15_v154
                        have hq17_v154 : v154 17 = (v 17) := hk17_v154.trans hq17_v143
                        have zq17_v154 := congrArg Int32.toInt hq17_v154
                        have hq18_v154 : v154 18 = (v 18) := hk18_v154.trans hq18_v143
                        have zq18_v154 := congrArg Int32.toInt hq18_v154
                        have hq24_v154 : v154 24 = (v 24) := hk24_v154.trans hq24_v143
                        have hq25_v154 : v154 25 = (v 25) := hk25_v154.trans hq25_v143
                        have hq35_v154 : v154 35 = (v 35) := hk35_v154.trans hq35_v143
                        have zq35_v154 := congrArg Int32.toInt hq35_v154
                        have hq36_v154 : v154 36 = (v 36) := hk36_v154.trans hq36_v143
                        have zq36_v154 := congrArg Int32.toInt hq36_v154
                        have hq38_v154 : v154 38 = (v 38) := hk38_v154.trans hq38_v143
                        have hq39_v154 : v154 39 = (v 39) := hk39_v154.trans hq39_v143
                        exact ret (v154, f155, w156, g157) _ _ _ _ _ _ ⟨hIv154, hCf155, hRf155, (hk0_v154.trans (hk0_v143.trans hk0_v112)), (hk4_v154.trans (hk4_v143.trans hk4_v112)), (hk9_v154.trans (hk9_v143.trans hk9_v112)), (hk24_v154.trans (hk24_v143.trans hk24_v112)), (hk25_v154.trans (hk25_v143.trans hk25_v112)), (hk35_v154.trans (hk35_v143.trans hk35_v112)), (hk36_v154.trans (hk36_v143.trans hk36_v112)), (hk38_v154.trans (hk38_v143.trans hk38_v112)), (hk39_v154.trans (hk39_v143.trans hk39_v112)), (by show 0 < (v154 1).toInt ∨ (v 3).toInt < (v154 3).toInt; omega), (by show (v 3).toInt ≤ (v154 3).toInt; omega), (by show (v154 1).toInt = 0 → ¬ (v154 15).toInt = 0 → progOK (f155 2) (f155 3) ((v154 8).toInt).toNat; rw [hs2_f155, hs3_f155]; intro hz8 hz9; first | exact prog_n (hPR (by omega)) (by omega) | exact prog_n (hPF (by omega)) (by omega) | (exfalso; omega))⟩ hP hD hS dX11_readLine_306 (Nat.le_refl _) (Nat.le_refl _)
              · skip
                subst g109
                refine lv_if_eq (tgt := 230) hx hb dX11_readLine_199 (by decide) (fun _ => ?_) (fun c0 => absurd (by decide) c0)
                exact jp230 _ _ _ hP hD hS hl
            refine lv_aload_n hx hb dX11_readLine_154 rfl (lv_at hl 0 rfl) ?_
            refine lv_ldc2 (v := 1818848101) hx hb hown (hts _ k_1630) dX11_readLine_155 ?_
            refine cbVi (n := 1) (rest := []) hx hb hml hown hts hE hP hD hS hA (sY_X11_isWord_1 l dC dI cy y0 r 1818848101 v f w g hIv hCf hRf ) k_1601 k_1603 k_45 k_114 k_1604 (by decide +kernel) ⟨Nat.le_of_ble_eq_true rfl, Nat.le_of_ble_eq_true rfl⟩ 0 11 rfl rfl (rfl) hl.1 rfl (Nat.le_of_ble_eq_true rfl) dX11_readLine_158 (fun r163 u H locs hw hP hD hS => ?_)
            rcases hw with ⟨g164, g164_0⟩ | ⟨g164⟩
            · skip
              subst g164
              refine lv_if_eq (tgt := 192) hx hb dX11_readLine_161 (by decide) (fun c0 => absurd c0 (by decide)) (fun _ => ?_)
              refine lv_aload_n hx hb dX11_readLine_164 rfl (lv_at hl 0 rfl) ?_
              refine va_get (D := (dC, dI)) (ci := 11) (v := .int (v 32)) (C := RX11) (T := TX11) (N := 79) hx hb hts inB_11 hown hE.1 hP 0 rfl rfl 56 (by decide) (hts _ k_1376) (fun _ h9 => h9) rfl dX11_readLine_165 ?_
              refine lv_if_ne (tgt := 192) hx hb dX11_readLine_168 (by decide) (fun c165 => ?_) (fun c165 => ?_)
              · skip
                have zc165 : ¬ ((v 32).toInt = 0) := by rw [fa_eq, show (0 : Int32).toInt = 0 from by decide] at c165; exact c165
                exact jp192 _ _ _ hP hD hS hl
              · skip
                have zc165 : (v 32).toInt = 0 := by rw [fa_eq, show (0 : Int32).toInt = 0 from by decide] at c165; exact c165
                refine lv_aload_n hx hb dX11_readLine_171 rfl (lv_at hl 0 rfl) ?_
                refine lv_iconst (v := 1) hx hb dX11_readLine_172 (by decide) ?_
                refine va_put (D := (dC, dI)) (ci := 11) (v := .int 1) (ty := tyX11 56) (C := RX11) (T := TX11) (N := 79) hx hb hts inB_11 tyX11 tyX11_ok nmX11 hown hE.1 hP hD hS 0 rfl rfl 56 (by decide) (hts _ k_1376) (fun _ h9 => h9) rfl (tyX11_ok 56 (by decide)) rfl rfl (Nat.le_of_ble_eq_true rfl) dX11_readLine_173 (fun H locs hP hD hS => ?_)
                have hP : va_P (dC, dI) vwCl (YW cy y0 r (upd v 32 1) f w g) H := hP
                have hD : va_D A (YW cy y0 r (upd v 32 1) f w g) := hD
                refine lv_aload_n hx hb dX11_readLine_176 rfl (lv_at hl 0 rfl) ?_
                refine lv_aload_n hx hb dX11_readLine_177 rfl (lv_at hl 0 rfl) ?_
                refine lv_ldc2 (v := 1818848101) hx hb hown (hts _ k_1630) dX11_readLine_178 ?_
                refine lv_bipush (v := 99) hx hb dX11_readLine_181 (by decide) ?_
                refine cbVi (n := 2) (rest := [.ref y0]) hx hb hml hown hts hE hP hD hS hA (sY_X11_told_1 l dC dI cy y0 r 1818848101 99 (upd v 32 1) f w g ⟨(YIb.upd (j := 32) (x := 1) hIv.1 (rlo _) (rhi _)), hIv.2⟩ hCf hRf ) k_1645 k_1647 k_51 k_114 k_1648 (by decide +kernel) ⟨Nat.le_of_ble_eq_true rfl, Nat.le_of_ble_eq_true rfl⟩ 0 11 rfl rfl (rfl) hl.1 rfl (Nat.le_of_ble_eq_true rfl) dX11_readLine_183 (fun r166 u H locs hw hP hD hS => ?_)
                obtain ⟨v167, f168, w169, g170⟩ := u
                obtain ⟨hIv167, hCf168, hRf168, hk0_v167, hk4_v167, hk8_v167, hk9_v167, hk10_v167, hk13_v167, hk14_v167, hk15_v167, hk17_v167, hk18_v167, hk24_v167, hk25_v167, hk35_v167, hk36_v167, hk38_v167, hk39_v167, pv171, pv172, kq173, kq174, kq175⟩ := hw
                have hP : va_P (dC, dI) vwCl (YW cy y0 r v167 f168 w169 g170) H := hP
                have hD : va_D A (YW cy y0 r v167 f168 w169 g170) := hD
                have b3_v167 : 0 ≤ (v167 3).toInt ∧ (v167 3).toInt ≤ 1600 := YIb.b hIv167.1 3 (by decide)
                have pv171 : (v 3).toInt ≤ (v167 3).toInt := pv171
                have pv172 : (v167 5).toInt = (v 5).toInt ∨ (v 3).toInt < (v167 3).toInt ∨ ¬ (v167 5).toInt = 59 := pv172
                have hs2_f168 : f168 2 = (f 2) := kq173
                have hs3_f168 : f168 3 = (f 3) := kq174
                have hs6_f168 : f168 6 = (f 6) := kq175
                have hUv167 : (v167 35).toInt + (v167 36).toInt ≤ 40 := hIv167.2
                have hq0_v167 : v167 0 = (v 0) := hk0_v167
                have hq4_v167 : v167 4 = (v 4) := hk4_v167
                have zq4_v167 := congrArg Int32.toInt hq4_v167
                have hq8_v167 : v167 8 = (v 8) := hk8_v167
                have zq8_v167 := congrArg Int32.toInt hq8_v167
                have hq9_v167 : v167 9 = (v 9) := hk9_v167
                have zq9_v167 := congrArg Int32.toInt hq9_v167
                have hq10_v167 : v167 10 = (v 10) := hk10_v167
                have zq10_v167 := congrArg Int32.toInt hq10_v167
                have hq13_v167 : v167 13 = (v 13) := hk13_v167
                have zq13_v167 := congrArg Int32.toInt hq13_v167
                have hq14_v167 : v167 14 = (v 14) := hk14_v167
                have zq14_v167 := congrArg Int32.toInt hq14_v167
                have hq15_v167 : v167 15 = (v 15) := hk15_v167
                have zq15_v167 := congrArg Int32.toInt hq15_v167
                have hq17_v167 : v167 17 = (v 17) := hk17_v167
                have zq17_v167 := congrArg Int32.toInt hq17_v167
                have hq18_v167 : v167 18 = (v 18) := hk18_v167
                have zq18_v167 := congrArg Int32.toInt hq18_v167
                have hq24_v167 : v167 24 = (v 24) := hk24_v167
                have hq25_v167 : v167 25 = (v 25) := hk25_v167
                have hq35_v167 : v167 35 = (v 35) := hk35_v167
                have zq35_v167 := congrArg Int32.toInt hq35_v167
                have hq36_v167 : v167 36 = (v 36) := hk36_v167
                have zq36_v167 := congrArg Int32.toInt hq36_v167
                have hq38_v167 : v167 38 = (v 38) := hk38_v167
                have hq39_v167 : v167 39 = (v 39) := hk39_v167
                refine va_put (D := (dC, dI)) (ci := 11) (v := .int r166) (ty := tyX11 45) (C := RX11) (T := TX11) (N := 79) hx hb hts inB_11 tyX11 tyX11_ok nmX11 hown hE.1 hP hD hS 0 rfl rfl 45 (by decide) (hts _ k_1365) (fun _ h9 => h9) rfl (tyX11_ok 45 (by decide)) rfl rfl (Nat.le_of_ble_eq_true rfl) dX11_readLine_186 (fun H locs hP hD hS => ?_)
                have hP : va_P (dC, dI) vwCl (YW cy y0 r (upd v167 21 r166) f168 w169 g170) H := hP
                have hD : va_D A (YW cy y0 r (upd v167 21 r166) f168 w169 g170) := hD
                refine lv_goto (tgt := 274) hx hb dX11_readLine_189 (by decide) ?_
                refine lv_aload_n hx hb dX11_readLine_274 rfl (lv_at hl 0 rfl) ?_
                refine va_get (D := (dC, dI)) (ci := 11) (v := .int (v167 1)) (C := RX11) (T := TX11) (N := 79) hx hb hts inB_11 hown hE.1 hP 0 rfl rfl 2 (by decide) (hts _ k_1322) (fun _ h9 => h9) rfl dX11_readLine_275 ?_
                have b1_v167 : 0 ≤ (v167 1).toInt ∧ (v167 1).toInt ≤ 4 := YIb.b hIv167.1 1 (by decide)
                refine lv_if_ne (tgt := 295) hx hb dX11_readLine_278 (by decide) (fun c176 => ?_) (fun c176 => ?_)
                · skip
                  have zc176 : ¬ ((v167 1).toInt = 0) := by rw [fa_eq, show (0 : Int32).toInt = 0 from by decide] at c176; exact c176
                  refine lv_aload_n hx hb dX11_readLine_295 rfl (lv_at hl 0 rfl) ?_
                  refine va_get (D := (dC, dI)) (ci := 11) (v := .int (v167 1)) (C := RX11) (T := TX11) (N := 79) hx hb hts inB_11 hown hE.1 hP 0 rfl rfl 2 (by decide) (hts _ k_1322) (fun _ h9 => h9) rfl dX11_readLine_296 ?_
                  refine lv_if_ne (tgt := 306) hx hb dX11_readLine_299 (by decide) (fun c177 => ?_) (fun c177 => ?_)
                  · skip
                    have zc177 : ¬ ((v167 1).toInt = 0) := by rw [fa_eq, show (0 : Int32).toInt = 0 from by decide] at c177; exact c177
                    exact ret ((upd v167 21 r166), f168, w169, g170) _ _ _ _ _ _ ⟨⟨(YIb.upd (j := 21) (x := r166) hIv167.1 (rlo _) (rhi _)), hIv167.2⟩, hCf168, hRf168, hk0_v167, hk4_v167, hk9_v167, hk24_v167, hk25_v167, hk35_v167, hk36_v167, hk38_v167, hk39_v167, (by show 0 < (v167 1).toInt ∨ (v 3).toInt < (v167 3).toInt; omega), (by show (v 3).toInt ≤ (v167 3).toInt; omega), (by show (v167 1).toInt = 0 → ¬ (v167 15).toInt = 0 → progOK (f168 2) (f168 3) ((v167 8).toInt).toNat; rw [hs2_f168, hs3_f168]; intro hz8 hz9; first | exact prog_n (hPR (by omega)) (by omega) | exact prog_n (hPF (by omega)) (by omega) | (exfalso; omega))⟩ hP hD hS dX11_readLine_306 (Nat.le_refl _) (Nat.le_refl _)
                  · skip
                    have zc177 : (v167 1).toInt = 0 := by rw [fa_eq, show (0 : Int32).toInt = 0 from by decide] at c177; exact c177
                    refine lv_aload_n hx hb dX11_readLine_302 rfl (lv_at hl 0 rfl) ?_
                    refine cbVv (n := 0) (rest := []) hx hb hml hown hts hE hP hD hS hA (sY_X11_token_1 l dC dI cy y0 r  (upd v167 21 r166) f168 w169 g170 ⟨(YIb.upd (j := 21) (x := r166) hIv167.1 (rlo _) (rhi _)), hIv167.2⟩ hCf168 hRf168 ) k_1579 k_1581 k_42 k_114 k_1582 (by decide +kernel) ⟨Nat.le_of_ble_eq_true rfl, Nat.le_of_ble_eq_true rfl⟩ 0 11 rfl rfl (rfl) hl.1 rfl (Nat.le_of_ble_eq_true rfl) dX11_readLine_303 (fun u H locs hw hP hD hS => ?_)
                    obtain ⟨v178, f179, w180, g181⟩ := u
                    obtain ⟨hIv178, hCf179, hRf179, hk0_v178, hk1_v178, hk4_v178, hk8_v178, hk9_v178, hk10_v178, hk13_v178, hk14_v178, hk15_v178, hk17_v178, hk18_v178, hk24_v178, hk25_v178, hk35_v178, hk36_v178, hk38_v178, hk39_v178, pv182, pv183, kq184, kq185, kq186⟩ := hw
                    have hP : va_P (dC, dI) vwCl (YW cy y0 r v178 f179 w180 g181) H := hP
                    have hD : va_D A (YW cy y0 r v178 f179 w180 g181) := hD
                    have b3_v178 : 0 ≤ (v178 3).toInt ∧ (v178 3).toInt ≤ 1600 := YIb.b hIv178.1 3 (by decide)
                    have pv182 : (v167 3).toInt ≤ (v178 3).toInt := pv182
                    have pv183 : (v178 5).toInt = (v167 5).toInt ∨ (v167 3).toInt < (v178 3).toInt ∨ ¬ (v178 5).toInt = 59 := pv183
                    have hs2_f179 : f179 2 = (f 2) := kq184.trans hs2_f168
                    have hs3_f179 : f179 3 = (f 3) := kq185.trans hs3_f168
                    have hs6_f179 : f179 6 = (f 6) := kq186.trans hs6_f168
                    have hUv178 : (v178 35).toInt + (v178 36).toInt ≤ 40 := hIv178.2
                    have hq0_v178 : v178 0 = (v 0) := hk0_v178.trans hq0_v167
                    have hq1_v178 : v178 1 = (v167 1) := hk1_v178
                    have zq1_v178 := congrArg Int32.toInt hq1_v178
                    have hq4_v178 : v178 4 = (v 4) := hk4_v178.trans hq4_v167
                    have zq4_v178 := congrArg Int32.toInt hq4_v178
                    have hq8_v178 : v178 8 = (v 8) := hk8_v178.trans hq8_v167
                    have zq8_v178 := congrArg Int32.toInt hq8_v178
                    have hq9_v178 : v178 9 = (v 9) := hk9_v178.trans hq9_v167
                    have zq9_v178 := congrArg Int32.toInt hq9_v178
                    have hq10_v178 : v178 10 = (v 10) := hk10_v178.trans hq10_v167
                    have zq10_v178 := congrArg Int32.toInt hq10_v178
                    have hq13_v178 : v178 13 = (v 13) := hk13_v178.trans hq13_v167
                    have zq13_v178 := congrArg Int32.toInt hq13_v178
                    have hq14_v178 : v178 14 = (v 14) := hk14_v178.trans hq14_v167
                    have zq14_v178 := congrArg Int32.toInt hq14_v178
                    have hq15_v178 : v178 15 = (v 15) := hk15_v178.trans hq15_v167
                    have zq15_v178 := congrArg Int32.toInt hq15_v178
                    have hq17_v178 : v178 17 = (v 17) := hk17_v178.trans hq17_v167
                    have zq17_v178 := congrArg Int32.toInt hq17_v178
                    have hq18_v178 : v178 18 = (v 18) := hk18_v178.trans hq18_v167
                    have zq18_v178 := congrArg Int32.toInt hq18_v178
                    have hq24_v178 : v178 24 = (v 24) := hk24_v178.trans hq24_v167
                    have hq25_v178 : v178 25 = (v 25) := hk25_v178.trans hq25_v167
                    have hq35_v178 : v178 35 = (v 35) := hk35_v178.trans hq35_v167
                    have zq35_v178 := congrArg Int32.toInt hq35_v178
                    have hq36_v178 : v178 36 = (v 36) := hk36_v178.trans hq36_v167
                    have zq36_v178 := congrArg Int32.toInt hq36_v178
                    have hq38_v178 : v178 38 = (v 38) := hk38_v178.trans hq38_v167
                    have hq39_v178 : v178 39 = (v 39) := hk39_v178.trans hq39_v167
                    exact ret (v178, f179, w180, g181) _ _ _ _ _ _ ⟨hIv178, hCf179, hRf179, (hk0_v178.trans hk0_v167), (hk4_v178.trans hk4_v167), (hk9_v178.trans hk9_v167), (hk24_v178.trans hk24_v167), (hk25_v178.trans hk25_v167), (hk35_v178.trans hk35_v167), (hk36_v178.trans hk36_v167), (hk38_v178.trans hk38_v167), (hk39_v178.trans hk39_v167), (by show 0 < (v178 1).toInt ∨ (v 3).toInt < (v178 3).toInt; omega), (by show (v 3).toInt ≤ (v178 3).toInt; omega), (by show (v178 1).toInt = 0 → ¬ (v178 15).toInt = 0 → progOK (f179 2) (f179 3) ((v178 8).toInt).toNat; rw [hs2_f179, hs3_f179]; intro hz8 hz9; first | exact prog_n (hPR (by omega)) (by omega) | exact prog_n (hPF (by omega)) (by omega) | (exfalso; omega))⟩ hP hD hS dX11_readLine_306 (Nat.le_refl _) (Nat.le_refl _)
                · skip
                  have zc176 : (v167 1).toInt = 0 := by rw [fa_eq, show (0 : Int32).toInt = 0 from by decide] at c176; exact c176
                  refine lv_aload_n hx hb dX11_readLine_281 rfl (lv_at hl 0 rfl) ?_
                  refine va_get (D := (dC, dI)) (ci := 11) (v := .int (v167 5)) (C := RX11) (T := TX11) (N := 79) hx hb hts inB_11 hown hE.1 hP 0 rfl rfl 6 (by decide) (hts _ k_1326) (fun _ h9 => h9) rfl dX11_readLine_282 ?_
                  refine lv_bipush (v := 59) hx hb dX11_readLine_285 (by decide) ?_
                  refine lv_icmp_eq (tgt := 295) hx hb dX11_readLine_287 (by decide) (fun c187 => ?_) (fun c187 => ?_)
                  · skip
                    have zc187 : (v167 5).toInt = 59 := by rw [fa_eq, show (59 : Int32).toInt = 59 from by decide] at c187; exact c187
                    refine lv_aload_n hx hb dX11_readLine_295 rfl (lv_at hl 0 rfl) ?_
                    refine va_get (D := (dC, dI)) (ci := 11) (v := .int (v167 1)) (C := RX11) (T := TX11) (N := 79) hx hb hts inB_11 hown hE.1 hP 0 rfl rfl 2 (by decide) (hts _ k_1322) (fun _ h9 => h9) rfl dX11_readLine_296 ?_
                    refine lv_if_ne (tgt := 306) hx hb dX11_readLine_299 (by decide) (fun c188 => ?_) (fun c188 => ?_)
                    · skip
                      have zc188 : ¬ ((v167 1).toInt = 0) := by rw [fa_eq, show (0 : Int32).toInt = 0 from by decide] at c188; exact c188
                      exact ret ((upd v167 21 r166), f168, w169, g170) _ _ _ _ _ _ ⟨⟨(YIb.upd (j := 21) (x := r166) hIv167.1 (rlo _) (rhi _)), hIv167.2⟩, hCf168, hRf168, hk0_v167, hk4_v167, hk9_v167, hk24_v167, hk25_v167, hk35_v167, hk36_v167, hk38_v167, hk39_v167, (by show 0 < (v167 1).toInt ∨ (v 3).toInt < (v167 3).toInt; omega), (by show (v 3).toInt ≤ (v167 3).toInt; omega), (by show (v167 1).toInt = 0 → ¬ (v167 15).toInt = 0 → progOK (f168 2) (f168 3) ((v167 8).toInt).toNat; rw [hs2_f168, hs3_f168]; intro hz8 hz9; first | exact prog_n (hPR (by omega)) (by omega) | exact prog_n (hPF (by omega)) (by omega) | (exfalso; omega))⟩ hP hD hS dX11_readLine_306 (Nat.le_refl _) (Nat.le_refl _)
                    · skip
                      have zc188 : (v167 1).toInt = 0 := by rw [fa_eq, show (0 : Int32).toInt = 0 from by decide] at c188; exact c188
                      refine lv_aload_n hx hb dX11_readLine_302 rfl (lv_at hl 0 rfl) ?_
                      refine cbVv (n := 0) (rest := []) hx hb hml hown hts hE hP hD hS hA (sY_X11_token_1 l dC dI cy y0 r  (upd v167 21 r166) f168 w169 g170 ⟨(YIb.upd (j := 21) (x := r166) hIv167.1 (rlo _) (rhi _)), hIv167.2⟩ hCf168 hRf168 ) k_1579 k_1581 k_42 k_114 k_1582 (by decide +kernel) ⟨Nat.le_of_ble_eq_true rfl, Nat.le_of_ble_eq_true rfl⟩ 0 11 rfl rfl (rfl) hl.1 rfl (Nat.le_of_ble_eq_true rfl) dX11_readLine_303 (fun u H locs hw hP hD hS => ?_)
                      obtain ⟨v189, f190, w191, g192⟩ := u
                      obtain ⟨hIv189, hCf190, hRf190, hk0_v189, hk1_v189, hk4_v189, hk8_v189, hk9_v189, hk10_v189, hk13_v189, hk14_v189, hk15_v189, hk17_v189, hk18_v189, hk24_v189, hk25_v189, hk35_v189, hk36_v189, hk38_v189, hk39_v189, pv193, pv194, kq195, kq196, kq197⟩ := hw
                      have hP : va_P (dC, dI) vwCl (YW cy y0 r v189 f190 w191 g192) H := hP
                      have hD : va_D A (YW cy y0 r v189 f190 w191 g192) := hD
                      have b3_v189 : 0 ≤ (v189 3).toInt ∧ (v189 3).toInt ≤ 1600 := YIb.b hIv189.1 3 (by decide)
                      have pv193 : (v167 3).toInt ≤ (v189 3).toInt := pv193
                      have pv194 : (v189 5).toInt = (v167 5).toInt ∨ (v167 3).toInt < (v189 3).toInt ∨ ¬ (v189 5).toInt = 59 := pv194
                      have hs2_f190 : f190 2 = (f 2) := kq195.trans hs2_f168
                      have hs3_f190 : f190 3 = (f 3) := kq196.trans hs3_f168
                      have hs6_f190 : f190 6 = (f 6) := kq197.trans hs6_f168
                      have hUv189 : (v189 35).toInt + (v189 36).toInt ≤ 40 := hIv189.2
                      have hq0_v189 : v189 0 = (v 0) := hk0_v189.trans hq0_v167
                      have hq1_v189 : v189 1 = (v167 1) := hk1_v189
                      have zq1_v189 := congrArg Int32.toInt hq1_v189
                      have hq4_v189 : v189 4 = (v 4) := hk4_v189.trans hq4_v167
                      have zq4_v189 := congrArg Int32.toInt hq4_v189
                      have hq8_v189 : v189 8 = (v 8) := hk8_v189.trans hq8_v167
                      have zq8_v189 := congrArg Int32.toInt hq8_v189
                      have hq9_v189 : v189 9 = (v 9) := hk9_v189.trans hq9_v167
                      have zq9_v189 := congrArg Int32.toInt hq9_v189
                      have hq10_v189 : v189 10 = (v 10) := hk10_v189.trans hq10_v167
                      have zq10_v189 := congrArg Int32.toInt hq10_v189
                      have hq13_v189 : v189 13 = (v 13) := hk13_v189.trans hq13_v167
                      have zq13_v189 := congrArg Int32.toInt hq13_v189
                      have hq14_v189 : v189 14 = (v 14) := hk14_v189.trans hq14_v167
                      have zq14_v189 := congrArg Int32.toInt hq14_v189
                      have hq15_v189 : v189 15 = (v 15) := hk15_v189.trans hq15_v167
                      have zq15_v189 := congrArg Int32.toInt hq15_v189
                      have hq17_v189 : v189 17 = (v 17) := hk17_v189.trans hq17_v167
                      have zq17_v189 := congrArg Int32.toInt hq17_v189
                      have hq18_v189 : v189 18 = (v 18) := hk18_v189.trans hq18_v167
                      have zq18_v189 := congrArg Int32.toInt hq18_v189
                      have hq24_v189 : v189 24 = (v 24) := hk24_v189.trans hq24_v167
                      have hq25_v189 : v189 25 = (v 25) := hk25_v189.trans hq25_v167
                      have hq35_v189 : v189 35 = (v 35) := hk35_v189.trans hq35_v167
                      have zq35_v189 := congrArg Int32.toInt hq35_v189
                      have hq36_v189 : v189 36 = (v 36) := hk36_v189.trans hq36_v167
                      have zq36_v189 := congrArg Int32.toInt hq36_v189
                      have hq38_v189 : v189 38 = (v 38) := hk38_v189.trans hq38_v167
                      have hq39_v189 : v189 39 = (v 39) := hk39_v189.trans hq39_v167
                      exact ret (v189, f190, w191, g192) _ _ _ _ _ _ ⟨hIv189, hCf190, hRf190, (hk0_v189.trans hk0_v167), (hk4_v189.trans hk4_v167), (hk9_v189.trans hk9_v167), (hk24_v189.trans hk24_v167), (hk25_v189.trans hk25_v167), (hk35_v189.trans hk35_v167), (hk36_v189.trans hk36_v167), (hk38_v189.trans hk38_v167), (hk39_v189.trans hk39_v167), (by show 0 < (v189 1).toInt ∨ (v 3).toInt < (v189 3).toInt; omega), (by show (v 3).toInt ≤ (v189 3).toInt; omega), (by show (v189 1).toInt = 0 → ¬ (v189 15).toInt = 0 → progOK (f190 2) (f190 3) ((v189 8).toInt).toNat; rw [hs2_f190, hs3_f190]; intro hz8 hz9; first | exact prog_n (hPR (by omega)) (by omega) | exact prog_n (hPF (by omega)) (by omega) | (exfalso; omega))⟩ hP hD hS dX11_readLine_306 (Nat.le_refl _) (Nat.le_refl _)
                  · skip
                    have zc187 : ¬ ((v167 5).toInt = 59) := by rw [fa_eq, show (59 : Int32).toInt = 59 from by decide] at c187; exact c187
                    refine lv_aload_n hx hb dX11_readLine_290 rfl (lv_at hl 0 rfl) ?_
                    refine lv_iconst (v := 2) hx hb dX11_readLine_291 (by decide) ?_
                    refine cbVv (n := 1) (rest := []) hx hb hml hown hts hE hP hD hS hA (sY_X11_wrong_1 l dC dI cy y0 r 2 (upd v167 21 r166) f168 w169 g170 ⟨(YIb.upd (j := 21) (x := r166) hIv167.1 (rlo _) (rhi _)), hIv167.2⟩ hCf168 hRf168 ⟨by decide, by decide⟩) k_1641 k_1643 k_50 k_114 k_1644 (by decide +kernel) ⟨Nat.le_of_ble_eq_true rfl, Nat.le_of_ble_eq_true rfl⟩ 0 11 rfl rfl (rfl) hl.1 rfl (Nat.le_of_ble_eq_true rfl) dX11_readLine_292 (fun u H locs hw hP hD hS => ?_)
                    obtain ⟨v198, f199, w200, g201⟩ := u
                    obtain ⟨hIv198, hCf199, hRf199, hk0_v198, hk3_v198, hk4_v198, hk5_v198, hk8_v198, hk9_v198, hk10_v198, hk13_v198, hk14_v198, hk15_v198, hk17_v198, hk18_v198, hk24_v198, hk25_v198, hk35_v198, hk36_v198, hk38_v198, hk39_v198, pv202, pv203, pv204, kq205, kq206, kq207⟩ := hw
                    have hP : va_P (dC, dI) vwCl (YW cy y0 r v198 f199 w200 g201) H := hP
                    have hD : va_D A (YW cy y0 r v198 f199 w200 g201) := hD
                    have b3_v198 : 0 ≤ (v198 3).toInt ∧ (v198 3).toInt ≤ 1600 := YIb.b hIv198.1 3 (by decide)
                    have b1_v198 : 0 ≤ (v198 1).toInt ∧ (v198 1).toInt ≤ 4 := YIb.b hIv198.1 1 (by decide)
                    have pv202 : (v167 3).toInt ≤ (v198 3).toInt := pv202
                    have pv203 : (v198 5).toInt = (v167 5).toInt ∨ (v167 3).toInt < (v198 3).toInt ∨ ¬ (v198 5).toInt = 59 := pv203
                    have pv204 : 0 < (v198 1).toInt := pv204
                    have hs2_f199 : f199 2 = (f 2) := kq205.trans hs2_f168
                    have hs3_f199 : f199 3 = (f 3) := kq206.trans hs3_f168
                    have hs6_f199 : f199 6 = (f 6) := kq207.trans hs6_f168
                    have hUv198 : (v198 35).toInt + (v198 36).toInt ≤ 40 := hIv198.2
                    have hq0_v198 : v198 0 = (v 0) := hk0_v198.trans hq0_v167
                    have hq3_v198 : v198 3 = (v167 3) := hk3_v198
                    have zq3_v198 := congrArg Int32.toInt hq3_v198
                    have hq4_v198 : v198 4 = (v 4) := hk4_v198.trans hq4_v167
                    have zq4_v198 := congrArg Int32.toInt hq4_v198
                    have hq5_v198 : v198 5 = (v167 5) := hk5_v198
                    have zq5_v198 := congrArg Int32.toInt hq5_v198
                    have hq8_v198 : v198 8 = (v 8) := hk8_v198.trans hq8_v167
                    have zq8_v198 := congrArg Int32.toInt hq8_v198
                    have hq9_v198 : v198 9 = (v 9) := hk9_v198.trans hq9_v167
                    have zq9_v198 := congrArg Int32.toInt hq9_v198
                    have hq10_v198 : v198 10 = (v 10) := hk10_v198.trans hq10_v167
                    have zq10_v198 := congrArg Int32.toInt hq10_v198
                    have hq13_v198 : v198 13 = (v 13) := hk13_v198.trans hq13_v167
                    have zq13_v198 := congrArg Int32.toInt hq13_v198
                    have hq14_v198 : v198 14 = (v 14) := hk14_v198.trans hq14_v167
                    have zq14_v198 := congrArg Int32.toInt hq14_v198
                    have hq15_v198 : v198 15 = (v 15) := hk15_v198.trans hq15_v167
                    have zq15_v198 := congrArg Int32.toInt hq15_v198
                    have hq17_v198 : v198 17 = (v 17) := hk17_v198.trans hq17_v167
                    have zq17_v198 := congrArg Int32.toInt hq17_v198
                    have hq18_v198 : v198 18 = (v 18) := hk18_v198.trans hq18_v167
                    have zq18_v198 := congrArg Int32.toInt hq18_v198
                    have hq24_v198 : v198 24 = (v 24) := hk24_v198.trans hq24_v167
                    have hq25_v198 : v198 25 = (v 25) := hk25_v198.trans hq25_v167
                    have hq35_v198 : v198 35 = (v 35) := hk35_v198.trans hq35_v167
                    have zq35_v198 := congrArg Int32.toInt hq35_v198
                    have hq36_v198 : v198 36 = (v 36) := hk36_v198.trans hq36_v167
                    have zq36_v198 := congrArg Int32.toInt hq36_v198
                    have hq38_v198 : v198 38 = (v 38) := hk38_v198.trans hq38_v167
                    have hq39_v198 : v198 39 = (v 39) := hk39_v198.trans hq39_v167
                    refine lv_aload_n hx hb dX11_readLine_295 rfl (lv_at hl 0 rfl) ?_
                    refine va_get (D := (dC, dI)) (ci := 11) (v := .int (v198 1)) (C := RX11) (T := TX11) (N := 79) hx hb hts inB_11 hown hE.1 hP 0 rfl rfl 2 (by decide) (hts _ k_1322) (fun _ h9 => h9) rfl dX11_readLine_296 ?_
                    have b1_v198 : 0 ≤ (v198 1).toInt ∧ (v198 1).toInt ≤ 4 := YIb.b hIv198.1 1 (by decide)
                    refine lv_if_ne (tgt := 306) hx hb dX11_readLine_299 (by decide) (fun c208 => ?_) (fun c208 => ?_)
                    · skip
                      have zc208 : ¬ ((v198 1).toInt = 0) := by rw [fa_eq, show (0 : Int32).toInt = 0 from by decide] at c208; exact c208
                      exact ret (v198, f199, w200, g201) _ _ _ _ _ _ ⟨hIv198, hCf199, hRf199, (hk0_v198.trans hk0_v167), (hk4_v198.trans hk4_v167), (hk9_v198.trans hk9_v167), (hk24_v198.trans hk24_v167), (hk25_v198.trans hk25_v167), (hk35_v198.trans hk35_v167), (hk36_v198.trans hk36_v167), (hk38_v198.trans hk38_v167), (hk39_v198.trans hk39_v167), (by show 0 < (v198 1).toInt ∨ (v 3).toInt < (v198 3).toInt; omega), (by show (v 3).toInt ≤ (v198 3).toInt; omega), (by show (v198 1).toInt = 0 → ¬ (v198 15).toInt = 0 → progOK (f199 2) (f199 3) ((v198 8).toInt).toNat; rw [hs2_f199, hs3_f199]; intro hz8 hz9; first | exact prog_n (hPR (by omega)) (by omega) | exact prog_n (hPF (by omega)) (by omega) | (exfalso; omega))⟩ hP hD hS dX11_readLine_306 (Nat.le_refl _) (Nat.le_refl _)
                    · skip
                      have zc208 : (v198 1).toInt = 0 := by rw [fa_eq, show (0 : Int32).toInt = 0 from by decide] at c208; exact c208
                      refine lv_aload_n hx hb dX11_readLine_302 rfl (lv_at hl 0 rfl) ?_
                      refine cbVv (n := 0) (rest := []) hx hb hml hown hts hE hP hD hS hA (sY_X11_token_1 l dC dI cy y0 r  v198 f199 w200 g201 hIv198 hCf199 hRf199 ) k_1579 k_1581 k_42 k_114 k_1582 (by decide +kernel) ⟨Nat.le_of_ble_eq_true rfl, Nat.le_of_ble_eq_true rfl⟩ 0 11 rfl rfl (rfl) hl.1 rfl (Nat.le_of_ble_eq_true rfl) dX11_readLine_303 (fun u H locs hw hP hD hS => ?_)
                      obtain ⟨v209, f210, w211, g212⟩ := u
                      obtain ⟨hIv209, hCf210, hRf210, hk0_v209, hk1_v209, hk4_v209, hk8_v209, hk9_v209, hk10_v209, hk13_v209, hk14_v209, hk15_v209, hk17_v209, hk18_v209, hk24_v209, hk25_v209, hk35_v209, hk36_v209, hk38_v209, hk39_v209, pv213, pv214, kq215, kq216, kq217⟩ := hw
                      have hP : va_P (dC, dI) vwCl (YW cy y0 r v209 f210 w211 g212) H := hP
                      have hD : va_D A (YW cy y0 r v209 f210 w211 g212) := hD
                      have b3_v209 : 0 ≤ (v209 3).toInt ∧ (v209 3).toInt ≤ 1600 := YIb.b hIv209.1 3 (by decide)
                      have pv213 : (v198 3).toInt ≤ (v209 3).toInt := pv213
                      have pv214 : (v209 5).toInt = (v198 5).toInt ∨ (v198 3).toInt < (v209 3).toInt ∨ ¬ (v209 5).toInt = 59 := pv214
                      have hs2_f210 : f210 2 = (f 2) := kq215.trans hs2_f199
                      have hs3_f210 : f210 3 = (f 3) := kq216.trans hs3_f199
                      have hs6_f210 : f210 6 = (f 6) := kq217.trans hs6_f199
                      have hUv209 : (v209 35).toInt + (v209 36).toInt ≤ 40 := hIv209.2
                      have hq0_v209 : v209 0 = (v 0) := hk0_v209.trans hq0_v198
                      have hq1_v209 : v209 1 = (v198 1) := hk1_v209
                      have zq1_v209 := congrArg Int32.toInt hq1_v209
                      have hq4_v209 : v209 4 = (v 4) := hk4_v209.trans hq4_v198
                      have zq4_v209 := congrArg Int32.toInt hq4_v209
                      have hq8_v209 : v209 8 = (v 8) := hk8_v209.trans hq8_v198
                      have zq8_v209 := congrArg Int32.toInt hq8_v209
                      have hq9_v209 : v209 9 = (v 9) := hk9_v209.trans hq9_v198
                      have zq9_v209 := congrArg Int32.toInt hq9_v209
                      have hq10_v209 : v209 10 = (v 10) := hk10_v209.trans hq10_v198
                      have zq10_v209 := congrArg Int32.toInt hq10_v209
                      have hq13_v209 : v209 13 = (v 13) := hk13_v209.trans hq13_v198
                      have zq13_v209 := congrArg Int32.toInt hq13_v209
                      have hq14_v209 : v209 14 = (v 14) := hk14_v209.trans hq14_v198
                      have zq14_v209 := congrArg Int32.toInt hq14_v209
                      have hq15_v209 : v209 15 = (v 15) := hk15_v209.trans hq15_v198
                      have zq15_v209 := congrArg Int32.toInt hq15_v209
                      have hq17_v209 : v209 17 = (v 17) := hk17_v209.trans hq17_v198
                      have zq17_v209 := congrArg Int32.toInt hq17_v209
                      have hq18_v209 : v209 18 = (v 18) := hk18_v209.trans hq18_v198
                      have zq18_v209 := congrArg Int32.toInt hq18_v209
                      have hq24_v209 : v209 24 = (v 24) := hk24_v209.trans hq24_v198
                      have hq25_v209 : v209 25 = (v 25) := hk25_v209.trans hq25_v198
                      have hq35_v209 : v209 35 = (v 35) := hk35_v209.trans hq35_v198
                      have zq35_v209 := congrArg Int32.toInt hq35_v209
                      have hq36_v209 : v209 36 = (v 36) := hk36_v209.trans hq36_v198
                      have zq36_v209 := congrArg Int32.toInt hq36_v209
                      have hq38_v209 : v209 38 = (v 38) := hk38_v209.trans hq38_v198
                      have hq39_v209 : v209 39 = (v 39) := hk39_v209.trans hq39_v198
                      exact ret (v209, f210, w211, g212) _ _ _ _ _ _ ⟨hIv209, hCf210, hRf210, (hk0_v209.trans (hk0_v198.trans hk0_v167)), (hk4_v209.trans (hk4_v198.trans hk4_v167)), (hk9_v209.trans (hk9_v198.trans hk9_v167)), (hk24_v209.trans (hk24_v198.trans hk24_v167)), (hk25_v209.trans (hk25_v198.trans hk25_v167)), (hk35_v209.trans (hk35_v198.trans hk35_v167)), (hk36_v209.trans (hk36_v198.trans hk36_v167)), (hk38_v209.trans (hk38_v198.trans hk38_v167)), (hk39_v209.trans (hk39_v198.trans hk39_v167)), (by show 0 < (v209 1).toInt ∨ (v 3).toInt < (v209 3).toInt; omega), (by show (v 3).toInt ≤ (v209 3).toInt; omega), (by show (v209 1).toInt = 0 → ¬ (v209 15).toInt = 0 → progOK (f210 2) (f210 3) ((v209 8).toInt).toNat; rw [hs2_f210, hs3_f210]; intro hz8 hz9; first | exact prog_n (hPR (by omega)) (by omega) | exact prog_n (hPF (by omega)) (by omega) | (exfalso; omega))⟩ hP hD hS dX11_readLine_306 (Nat.le_refl _) (Nat.le_refl _)
            · skip
              subst g164
              refine lv_if_eq (tgt := 192) hx hb dX11_readLine_161 (by decide) (fun _ => ?_) (fun c0 => absurd (by decide) c0)
              exact jp192 _ _ _ hP hD hS hl
          refine lv_aload_n hx hb dX11_readLine_115 rfl (lv_at hl 0 rfl) ?_
          refine lv_ldc2 (v := 1651469428) hx hb hown (hts _ k_1629) dX11_readLine_116 ?_
          refine cbVi (n := 1) (rest := []) hx hb hml hown hts hE hP hD hS hA (sY_X11_isWord_1 l dC dI cy y0 r 1651469428 v f w g hIv hCf hRf ) k_1601 k_1603 k_45 k_114 k_1604 (by decide +kernel) ⟨Nat.le_of_ble_eq_true rfl, Nat.le_of_ble_eq_true rfl⟩ 0 11 rfl rfl (rfl) hl.1 rfl (Nat.le_of_ble_eq_true rfl) dX11_readLine_119 (fun r218 u H locs hw hP hD hS => ?_)
          rcases hw with ⟨g219, g219_0⟩ | ⟨g219⟩
          · skip
            subst g219
            refine lv_if_eq (tgt := 154) hx hb dX11_readLine_122 (by decide) (fun c0 => absurd c0 (by decide)) (fun _ => ?_)
            refine lv_aload_n hx hb dX11_readLine_125 rfl (lv_at hl 0 rfl) ?_
            refine va_get (D := (dC, dI)) (ci := 11) (v := .int (v 31)) (C := RX11) (T := TX11) (N := 79) hx hb hts inB_11 hown hE.1 hP 0 rfl rfl 55 (by decide) (hts _ k_1375) (fun _ h9 => h9) rfl dX11_readLine_126 ?_
            refine lv_if_ne (tgt := 154) hx hb dX11_readLine_129 (by decide) (fun c220 => ?_) (fun c220 => ?_)
            · skip
              have zc220 : ¬ ((v 31).toInt = 0) := by rw [fa_eq, show (0 : Int32).toInt = 0 from by decide] at c220; exact c220
              exact jp154 _ _ _ hP hD hS hl
            · skip
              have zc220 : (v 31).toInt = 0 := by rw [fa_eq, show (0 : Int32).toInt = 0 from by decide] at c220; exact c220
              refine lv_aload_n hx hb dX11_readLine_132 rfl (lv_at hl 0 rfl) ?_
              refine lv_iconst (v := 1) hx hb dX11_readLine_133 (by decide) ?_
              refine va_put (D := (dC, dI)) (ci := 11) (v := .int 1) (ty := tyX11 55) (C := RX11) (T := TX11) (N := 79) hx hb hts inB_11 tyX11 tyX11_ok nmX11 hown hE.1 hP hD hS 0 rfl rfl 55 (by decide) (hts _ k_1375) (fun _ h9 => h9) rfl (tyX11_ok 55 (by decide)) rfl rfl (Nat.le_of_ble_eq_true rfl) dX11_readLine_134 (fun H locs hP hD hS => ?_)
              have hP : va_P (dC, dI) vwCl (YW cy y0 r (upd v 31 1) f w g) H := hP
              have hD : va_D A (YW cy y0 r (upd v 31 1) f w g) := hD
              refine lv_aload_n hx hb dX11_readLine_137 rfl (lv_at hl 0 rfl) ?_
              refine lv_aload_n hx hb dX11_readLine_138 rfl (lv_at hl 0 rfl) ?_
              refine lv_ldc2 (v := 1651469428) hx hb hown (hts _ k_1629) dX11_readLine_139 ?_
              refine lv_sipush (v := 999) hx hb dX11_readLine_142 (by decide) ?_
              refine cbVi (n := 2) (rest := [.ref y0]) hx hb hml hown hts hE hP hD hS hA (sY_X11_told_1 l dC dI cy y0 r 1651469428 999 (upd v 31 1) f w g ⟨(YIb.upd (j := 31) (x := 1) hIv.1 (rlo _) (rhi _)), hIv.2⟩ hCf hRf ) k_1645 k_1647 k_51 k_114 k_1648 (by decide +kernel) ⟨Nat.le_of_ble_eq_true rfl, Nat.le_of_ble_eq_true rfl⟩ 0 11 rfl rfl (rfl) hl.1 rfl (Nat.le_of_ble_eq_true rfl) dX11_readLine_145 (fun r221 u H locs hw hP hD hS => ?_)
              obtain ⟨v222, f223, w224, g225⟩ := u
              obtain ⟨hIv222, hCf223, hRf223, hk0_v222, hk4_v222, hk8_v222, hk9_v222, hk10_v222, hk13_v222, hk14_v222, hk15_v222, hk17_v222, hk18_v222, hk24_v222, hk25_v222, hk35_v222, hk36_v222, hk38_v222, hk39_v222, pv226, pv227, kq228, kq229, kq230⟩ := hw
              have hP : va_P (dC, dI) vwCl (YW cy y0 r v222 f223 w224 g225) H := hP
              have hD : va_D A (YW cy y0 r v222 f223 w224 g225) := hD
              have b3_v222 : 0 ≤ (v222 3).toInt ∧ (v222 3).toInt ≤ 1600 := YIb.b hIv222.1 3 (by decide)
              have pv226 : (v 3).toInt ≤ (v222 3).toInt := pv226
              have pv227 : (v222 5).toInt = (v 5).toInt ∨ (v 3).toInt < (v222 3).toInt ∨ ¬ (v222 5).toInt = 59 := pv227
              have hs2_f223 : f223 2 = (f 2) := kq228
              have hs3_f223 : f223 3 = (f 3) := kq229
              have hs6_f223 : f223 6 = (f 6) := kq230
              have hUv222 : (v222 35).toInt + (v222 36).toInt ≤ 40 := hIv222.2
              have hq0_v222 : v222 0 = (v 0) := hk0_v222
              have hq4_v222 : v222 4 = (v 4) := hk4_v222
              have zq4_v222 := congrArg Int32.toInt hq4_v222
              have hq8_v222 : v222 8 = (v 8) := hk8_v222
              have zq8_v222 := congrArg Int32.toInt hq8_v222
              have hq9_v222 : v222 9 = (v 9) := hk9_v222
              have zq9_v222 := congrArg Int32.toInt hq9_v222
              have hq10_v222 : v222 10 = (v 10) := hk10_v222
              have zq10_v222 := congrArg Int32.toInt hq10_v222
              have hq13_v222 : v222 13 = (v 13) := hk13_v222
              have zq13_v222 := congrArg Int32.toInt hq13_v222
              have hq14_v222 : v222 14 = (v 14) := hk14_v222
              have zq14_v222 := congrArg Int32.toInt hq14_v222
              have hq15_v222 : v222 15 = (v 15) := hk15_v222
              have zq15_v222 := congrArg Int32.toInt hq15_v222
              have hq17_v222 : v222 17 = (v 17) := hk17_v222
              have zq17_v222 := congrArg Int32.toInt hq17_v222
              have hq18_v222 : v222 18 = (v 18) := hk18_v222
              have zq18_v222 := congrArg Int32.toInt hq18_v222
              have hq24_v222 : v222 24 = (v 24) := hk24_v222
              have hq25_v222 : v222 25 = (v 25) := hk25_v222
              have hq35_v222 : v222 35 = (v 35) := hk35_v222
              have zq35_v222 := congrArg Int32.toInt hq35_v222
              have hq36_v222 : v222 36 = (v 36) := hk36_v222
              have zq36_v222 := congrArg Int32.toInt hq36_v222
              have hq38_v222 : v222 38 = (v 38) := hk38_v222
              have hq39_v222 : v222 39 = (v 39) := hk39_v222
              refine va_put (D := (dC, dI)) (ci := 11) (v := .int r221) (ty := tyX11 44) (C := RX11) (T := TX11) (N := 79) hx hb hts inB_11 tyX11 tyX11_ok nmX11 hown hE.1 hP hD hS 0 rfl rfl 44 (by decide) (hts _ k_1364) (fun _ h9 => h9) rfl (tyX11_ok 44 (by decide)) rfl rfl (Nat.le_of_ble_eq_true rfl) dX11_readLine_148 (fun H locs hP hD hS => ?_)
              have hP : va_P (dC, dI) vwCl (YW cy y0 r (upd v222 20 r221) f223 w224 g225) H := hP
              have hD : va_D A (YW cy y0 r (upd v222 20 r221) f223 w224 g225) := hD
              refine lv_goto (tgt := 274) hx hb dX11_readLine_151 (by decide) ?_
              refine lv_aload_n hx hb dX11_readLine_274 rfl (lv_at hl 0 rfl) ?_
              refine va_get (D := (dC, dI)) (ci := 11) (v := .int (v222 1)) (C := RX11) (T := TX11) (N := 79) hx hb hts inB_11 hown hE.1 hP 0 rfl rfl 2 (by decide) (hts _ k_1322) (fun _ h9 => h9) rfl dX11_readLine_275 ?_
              have b1_v222 : 0 ≤ (v222 1).toInt ∧ (v222 1).toInt ≤ 4 := YIb.b hIv222.1 1 (by decide)
              refine lv_if_ne (tgt := 295) hx hb dX11_readLine_278 (by decide) (fun c231 => ?_) (fun c231 => ?_)
              · skip
                have zc231 : ¬ ((v222 1).toInt = 0) := by rw [fa_eq, show (0 : Int32).toInt = 0 from by decide] at c231; exact c231
                refine lv_aload_n hx hb dX11_readLine_295 rfl (lv_at hl 0 rfl) ?_
                refine va_get (D := (dC, dI)) (ci := 11) (v := .int (v222 1)) (C := RX11) (T := TX11) (N := 79) hx hb hts inB_11 hown hE.1 hP 0 rfl rfl 2 (by decide) (hts _ k_1322) (fun _ h9 => h9) rfl dX11_readLine_296 ?_
                refine lv_if_ne (tgt := 306) hx hb dX11_readLine_299 (by decide) (fun c232 => ?_) (fun c232 => ?_)
                · skip
                  have zc232 : ¬ ((v222 1).toInt = 0) := by rw [fa_eq, show (0 : Int32).toInt = 0 from by decide] at c232; exact c232
                  exact ret ((upd v222 20 r221), f223, w224, g225) _ _ _ _ _ _ ⟨⟨(YIb.upd (j := 20) (x := r221) hIv222.1 (rlo _) (rhi _)), hIv222.2⟩, hCf223, hRf223, hk0_v222, hk4_v222, hk9_v222, hk24_v222, hk25_v222, hk35_v222, hk36_v222, hk38_v222, hk39_v222, (by show 0 < (v222 1).toInt ∨ (v 3).toInt < (v222 3).toInt; omega), (by show (v 3).toInt ≤ (v222 3).toInt; omega), (by show (v222 1).toInt = 0 → ¬ (v222 15).toInt = 0 → progOK (f223 2) (f223 3) ((v222 8).toInt).toNat; rw [hs2_f223, hs3_f223]; intro hz8 hz9; first | exact prog_n (hPR (by omega)) (by omega) | exact prog_n (hPF (by omega)) (by omega) | (exfalso; omega))⟩ hP hD hS dX11_readLine_306 (Nat.le_refl _) (Nat.le_refl _)
                · skip
                  have zc232 : (v222 1).toInt = 0 := by rw [fa_eq, show (0 : Int32).toInt = 0 from by decide] at c232; exact c232
                  refine lv_aload_n hx hb dX11_readLine_302 rfl (lv_at hl 0 rfl) ?_
                  refine cbVv (n := 0) (rest := []) hx hb hml hown hts hE hP hD hS hA (sY_X11_token_1 l dC dI cy y0 r  (upd v222 20 r221) f223 w224 g225 ⟨(YIb.upd (j := 20) (x := r221) hIv222.1 (rlo _) (rhi _)), hIv222.2⟩ hCf223 hRf223 ) k_1579 k_1581 k_42 k_114 k_1582 (by decide +kernel) ⟨Nat.le_of_ble_eq_true rfl, Nat.le_of_ble_eq_true rfl⟩ 0 11 rfl rfl (rfl) hl.1 rfl (Nat.le_of_ble_eq_true rfl) dX11_readLine_303 (fun u H locs hw hP hD hS => ?_)
                  obtain ⟨v233, f234, w235, g236⟩ := u
                  obtain ⟨hIv233, hCf234, hRf234, hk0_v233, hk1_v233, hk4_v233, hk8_v233, hk9_v233, hk10_v233, hk13_v233, hk14_v233, hk15_v233, hk17_v233, hk18_v233, hk24_v233, hk25_v233, hk35_v233, hk36_v233, hk38_v233, hk39_v233, pv237, pv238, kq239, kq240, kq241⟩ := hw
                  have hP : va_P (dC, dI) vwCl (YW cy y0 r v233 f234 w235 g236) H := hP
                  have hD : va_D A (YW cy y0 r v233 f234 w235 g236) := hD
                  have b3_v233 : 0 ≤ (v233 3).toInt ∧ (v233 3).toInt ≤ 1600 := YIb.b hIv233.1 3 (by decide)
                  have pv237 : (v222 3).toInt ≤ (v233 3).toInt := pv237
                  have pv238 : (v233 5).toInt = (v222 5).toInt ∨ (v222 3).toInt < (v233 3).toInt ∨ ¬ (v233 5).toInt = 59 := pv238
                  have hs2_f234 : f234 2 = (f 2) := kq239.trans hs2_f223
                  have hs3_f234 : f234 3 = (f 3) := kq240.trans hs3_f223
                  have hs6_f234 : f234 6 = (f 6) := kq241.trans hs6_f223
                  have hUv233 : (v233 35).toInt + (v233 36).toInt ≤ 40 := hIv233.2
                  have hq0_v233 : v233 0 = (v 0) := hk0_v233.trans hq0_v222
                  have hq1_v233 : v233 1 = (v222 1) := hk1_v233
                  have zq1_v233 := congrArg Int32.toInt hq1_v233
                  have hq4_v233 : v233 4 = (v 4) := hk4_v233.trans hq4_v222
                  have zq4_v233 := congrArg Int32.toInt hq4_v233
                  have hq8_v233 : v233 8 = (v 8) := hk8_v233.trans hq8_v222
                  have zq8_v233 := congrArg Int32.toInt hq8_v233
                  have hq9_v233 : v233 9 = (v 9) := hk9_v233.trans hq9_v222
                  have zq9_v233 := congrArg Int32.toInt hq9_v233
                  have hq10_v233 : v233 10 = (v 10) := hk10_v233.trans hq10_v222
                  have zq10_v233 := congrArg Int32.toInt hq10_v233
                  have hq13_v233 : v233 13 = (v 13) := hk13_v233.trans hq13_v222
                  have zq13_v233 := congrArg Int32.toInt hq13_v233
                  have hq14_v233 : v233 14 = (v 14) := hk14_v233.trans hq14_v222
                  have zq14_v233 := congrArg Int32.toInt hq14_v233
                  have hq15_v233 : v233 15 = (v 15) := hk15_v233.trans hq15_v222
                  have zq15_v233 := congrArg Int32.toInt hq15_v233
                  have hq17_v233 : v233 17 = (v 17) := hk17_v233.trans hq17_v222
                  have zq17_v233 := congrArg Int32.toInt hq17_v233
                  have hq18_v233 : v233 18 = (v 18) := hk18_v233.trans hq18_v222
                  have zq18_v233 := congrArg Int32.toInt hq18_v233
                  have hq24_v233 : v233 24 = (v 24) := hk24_v233.trans hq24_v222
                  have hq25_v233 : v233 25 = (v 25) := hk25_v233.trans hq25_v222
                  have hq35_v233 : v233 35 = (v 35) := hk35_v233.trans hq35_v222
                  have zq35_v233 := congrArg Int32.toInt hq35_v233
                  have hq36_v233 : v233 36 = (v 36) := hk36_v233.trans hq36_v222
                  have zq36_v233 := congrArg Int32.toInt hq36_v233
                  have hq38_v233 : v233 38 = (v 38) := hk38_v233.trans hq38_v222
                  have hq39_v233 : v233 39 = (v 39) := hk39_v233.trans hq39_v222
                  exact ret (v233, f234, w235, g236) _ _ _ _ _ _ ⟨hIv233, hCf234, hRf234, (hk0_v233.trans hk0_v222), (hk4_v233.trans hk4_v222), (hk9_v233.trans hk9_v222), (hk24_v233.trans hk24_v222), (hk25_v233.trans hk25_v222), (hk35_v233.trans hk35_v222), (hk36_v233.trans hk36_v222), (hk38_v233.trans hk38_v222), (hk39_v233.trans hk39_v222), (by show 0 < (v233 1).toInt ∨ (v 3).toInt < (v233 3).toInt; omega), (by show (v 3).toInt ≤ (v233 3).toInt; omega), (by show (v233 1).toInt = 0 → ¬ (v233 15).toInt = 0 → progOK (f234 2) (f234 3) ((v233 8).toInt).toNat; rw [hs2_f234, hs3_f234]; intro hz8 hz9; first | exact prog_n (hPR (by omega)) (by omega) | exact prog_n (hPF (by omega)) (by omega) | (exfalso; omega))⟩ hP hD hS dX11_readLine_306 (Nat.le_refl _) (Nat.le_refl _)
              · skip
                have zc231 : (v222 1).toInt = 0 := by rw [fa_eq, show (0 : Int32).toInt = 0 from by decide] at c231; exact c231
                refine lv_aload_n hx hb dX11_readLine_281 rfl (lv_at hl 0 rfl) ?_
                refine va_get (D := (dC, dI)) (ci := 11) (v := .int (v222 5)) (C := RX11) (T := TX11) (N := 79) hx hb hts inB_11 hown hE.1 hP 0 rfl rfl 6 (by decide) (hts _ k_1326) (fun _ h9 => h9) rfl dX11_readLine_282 ?_
                refine lv_bipush (v := 59) hx hb dX11_readLine_285 (by decide) ?_
                refine lv_icmp_eq (tgt := 295) hx hb dX11_readLine_287 (by decide) (fun c242 => ?_) (fun c242 => ?_)
                · skip
                  have zc242 : (v222 5).toInt = 59 := by rw [fa_eq, show (59 : Int32).toInt = 59 from by decide] at c242; exact c242
                  refine lv_aload_n hx hb dX11_readLine_295 rfl (lv_at hl 0 rfl) ?_
                  refine va_get (D := (dC, dI)) (ci := 11) (v := .int (v222 1)) (C := RX11) (T := TX11) (N := 79) hx hb hts inB_11 hown hE.1 hP 0 rfl rfl 2 (by decide) (hts _ k_1322) (fun _ h9 => h9) rfl dX11_readLine_296 ?_
                  refine lv_if_ne (tgt := 306) hx hb dX11_readLine_299 (by decide) (fun c243 => ?_) (fun c243 => ?_)
                  · skip
                    have zc243 : ¬ ((v222 1).toInt = 0) := by rw [fa_eq, show (0 : Int32).toInt = 0 from by decide] at c243; exact c243
                    exact ret ((upd v222 20 r221), f223, w224, g225) _ _ _ _ _ _ ⟨⟨(YIb.upd (j := 20) (x := r221) hIv222.1 (rlo _) (rhi _)), hIv222.2⟩, hCf223, hRf223, hk0_v222, hk4_v222, hk9_v222, hk24_v222, hk25_v222, hk35_v222, hk36_v222, hk38_v222, hk39_v222, (by show 0 < (v222 1).toInt ∨ (v 3).toInt < (v222 3).toInt; omega), (by show (v 3).toInt ≤ (v222 3).toInt; omega), (by show (v222 1).toInt = 0 → ¬ (v222 15).toInt = 0 → progOK (f223 2) (f223 3) ((v222 8).toInt).toNat; rw [hs2_f223, hs3_f223]; intro hz8 hz9; first | exact prog_n (hPR (by omega)) (by omega) | exact prog_n (hPF (by omega)) (by omega) | (exfalso; omega))⟩ hP hD hS dX11_readLine_306 (Nat.le_refl _) (Nat.le_refl _)
                  · skip
                    have zc243 : (v222 1).toInt = 0 := by rw [fa_eq, show (0 : Int32).toInt = 0 from by decide] at c243; exact c243
                    refine lv_aload_n hx hb dX11_readLine_302 rfl (lv_at hl 0 rfl) ?_
                    refine cbVv (n := 0) (rest := []) hx hb hml hown hts hE hP hD hS hA (sY_X11_token_1 l dC dI cy y0 r  (upd v222 20 r221) f223 w224 g225 ⟨(YIb.upd (j := 20) (x := r221) hIv222.1 (rlo _) (rhi _)), hIv222.2⟩ hCf223 hRf223 ) k_1579 k_1581 k_42 k_114 k_1582 (by decide +kernel) ⟨Nat.le_of_ble_eq_true rfl, Nat.le_of_ble_eq_true rfl⟩ 0 11 rfl rfl (rfl) hl.1 rfl (Nat.le_of_ble_eq_true rfl) dX11_readLine_303 (fun u H locs hw hP hD hS => ?_)
                    obtain ⟨v244, f245, w246, g247⟩ := u
                    obtain ⟨hIv244, hCf245, hRf245, hk0_v244, hk1_v244, hk4_v244, hk8_v244, hk9_v244, hk10_v244, hk13_v244, hk14_v244, hk15_v244, hk17_v244, hk18_v244, hk24_v244, hk25_v244, hk35_v244, hk36_v244, hk38_v244, hk39_v244, pv248, pv249, kq250, kq251, kq252⟩ := hw
                    have hP : va_P (dC, dI) vwCl (YW cy y0 r v244 f245 w246 g247) H := hP
                    have hD : va_D A (YW cy y0 r v244 f245 w246 g247) := hD
                    have b3_v244 : 0 ≤ (v244 3).toInt ∧ (v244 3).toInt ≤ 1600 := YIb.b hIv244.1 3 (by decide)
                    have pv248 : (v222 3).toInt ≤ (v244 3).toInt := pv248
                    have pv249 : (v244 5).toInt = (v222 5).toInt ∨ (v222 3).toInt < (v244 3).toInt ∨ ¬ (v244 5).toInt = 59 := pv249
                    have hs2_f245 : f245 2 = (f 2) := kq250.trans hs2_f223
                    have hs3_f245 : f245 3 = (f 3) := kq251.trans hs3_f223
                    have hs6_f245 : f245 6 = (f 6) := kq252.trans hs6_f223
                    have hUv244 : (v244 35).toInt + (v244 36).toInt ≤ 40 := hIv244.2
                    have hq0_v244 : v244 0 = (v 0) := hk0_v244.trans hq0_v222
                    have hq1_v244 : v244 1 = (v222 1) := hk1_v244
                    have zq1_v244 := congrArg Int32.toInt hq1_v244
                    have hq4_v244 : v244 4 = (v 4) := hk4_v244.trans hq4_v222
                    have zq4_v244 := congrArg Int32.toInt hq4_v244
                    have hq8_v244 : v244 8 = (v 8) := hk8_v244.trans hq8_v222
                    have zq8_v244 := congrArg Int32.toInt hq8_v244
                    have hq9_v244 : v244 9 = (v 9) := hk9_v244.trans hq9_v222
                    have zq9_v244 := congrArg Int32.toInt hq9_v244
                    have hq10_v244 : v244 10 = (v 10) := hk10_v244.trans hq10_v222
                    have zq10_v244 := congrArg Int32.toInt hq10_v244
                    have hq13_v244 : v244 13 = (v 13) := hk13_v244.trans hq13_v222
                    have zq13_v244 := congrArg Int32.toInt hq13_v244
                    have hq14_v244 : v244 14 = (v 14) := hk14_v244.trans hq14_v222
                    have zq14_v244 := congrArg Int32.toInt hq14_v244
                    have hq15_v244 : v244 15 = (v 15) := hk15_v244.trans hq15_v222
                    have zq15_v244 := congrArg Int32.toInt hq15_v244
                    have hq17_v244 : v244 17 = (v 17) := hk17_v244.trans hq17_v222
                    have zq17_v244 := congrArg Int32.toInt hq17_v244
                    have hq18_v244 : v244 18 = (v 18) := hk18_v244.trans hq18_v222
                    have zq18_v244 := congrArg Int32.toInt hq18_v244
                    have hq24_v244 : v244 24 = (v 24) := hk24_v244.trans hq24_v222
                    have hq25_v244 : v244 25 = (v 25) := hk25_v244.trans hq25_v222
                    have hq35_v244 : v244 35 = (v 35) := hk35_v244.trans hq35_v222
                    have zq35_v244 := congrArg Int32.toInt hq35_v244
                    have hq36_v244 : v244 36 = (v 36) := hk36_v244.trans hq36_v222
                    have zq36_v244 := congrArg Int32.toInt hq36_v244
                    have hq38_v244 : v244 38 = (v 38) := hk38_v244.trans hq38_v222
                    have hq39_v244 : v244 39 = (v 39) := hk39_v244.trans hq39_v222
                    exact ret (v244, f245, w246, g247) _ _ _ _ _ _ ⟨hIv244, hCf245, hRf245, (hk0_v244.trans hk0_v222), (hk4_v244.trans hk4_v222), (hk9_v244.trans hk9_v222), (hk24_v244.trans hk24_v222), (hk25_v244.trans hk25_v222), (hk35_v244.trans hk35_v222), (hk36_v244.trans hk36_v222), (hk38_v244.trans hk38_v222), (hk39_v244.trans hk39_v222), (by show 0 < (v244 1).toInt ∨ (v 3).toInt < (v244 3).toInt; omega), (by show (v 3).toInt ≤ (v244 3).toInt; omega), (by show (v244 1).toInt = 0 → ¬ (v244 15).toInt = 0 → progOK (f245 2) (f245 3) ((v244 8).toInt).toNat; rw [hs2_f245, hs3_f245]; intro hz8 hz9; first | exact prog_n (hPR (by omega)) (by omega) | exact prog_n (hPF (by omega)) (by omega) | (exfalso; omega))⟩ hP hD hS dX11_readLine_306 (Nat.le_refl _) (Nat.le_refl _)
                · skip
                  have zc242 : ¬ ((v222 5).toInt = 59) := by rw [fa_eq, show (59 : Int32).toInt = 59 from by decide] at c242; exact c242
                  refine lv_aload_n hx hb dX11_readLine_290 rfl (lv_at hl 0 rfl) ?_
                  refine lv_iconst (v := 2) hx hb dX11_readLine_291 (by decide) ?_
                  refine cbVv (n := 1) (rest := []) hx hb hml hown hts hE hP hD hS hA (sY_X11_wrong_1 l dC dI cy y0 r 2 (upd v222 20 r221) f223 w224 g225 ⟨(YIb.upd (j := 20) (x := r221) hIv222.1 (rlo _) (rhi _)), hIv222.2⟩ hCf223 hRf223 ⟨by decide, by decide⟩) k_1641 k_1643 k_50 k_114 k_1644 (by decide +kernel) ⟨Nat.le_of_ble_eq_true rfl, Nat.le_of_ble_eq_true rfl⟩ 0 11 rfl rfl (rfl) hl.1 rfl (Nat.le_of_ble_eq_true rfl) dX11_readLine_292 (fun u H locs hw hP hD hS => ?_)
                  obtain ⟨v253, f254, w255, g256⟩ := u
                  obtain ⟨hIv253, hCf254, hRf254, hk0_v253, hk3_v253, hk4_v253, hk5_v253, hk8_v253, hk9_v253, hk10_v253, hk13_v253, hk14_v253, hk15_v253, hk17_v253, hk18_v253, hk24_v253, hk25_v253, hk35_v253, hk36_v253, hk38_v253, hk39_v253, pv257, pv258, pv259, kq260, kq261, kq262⟩ := hw
                  have hP : va_P (dC, dI) vwCl (YW cy y0 r v253 f254 w255 g256) H := hP
                  have hD : va_D A (YW cy y0 r v253 f254 w255 g256) := hD
                  have b3_v253 : 0 ≤ (v253 3).toInt ∧ (v253 3).toInt ≤ 1600 := YIb.b hIv253.1 3 (by decide)
                  have b1_v253 : 0 ≤ (v253 1).toInt ∧ (v253 1).toInt ≤ 4 := YIb.b hIv253.1 1 (by decide)
                  have pv257 : (v222 3).toInt ≤ (v253 3).toInt := pv257
                  have pv258 : (v253 5).toInt = (v222 5).toInt ∨ (v222 3).toInt < (v253 3).toInt ∨ ¬ (v253 5).toInt = 59 := pv258
                  have pv259 : 0 < (v253 1).toInt := pv259
                  have hs2_f254 : f254 2 = (f 2) := kq260.trans hs2_f223
                  have hs3_f254 : f254 3 = (f 3) := kq261.trans hs3_f223
                  have hs6_f254 : f254 6 = (f 6) := kq262.trans hs6_f223
                  have hUv253 : (v253 35).toInt + (v253 36).toInt ≤ 40 := hIv253.2
                  have hq0_v253 : v253 0 = (v 0) := hk0_v253.trans hq0_v222
                  have hq3_v253 : v253 3 = (v222 3) := hk3_v253
                  have zq3_v253 := congrArg Int32.toInt hq3_v253
                  have hq4_v253 : v253 4 = (v 4) := hk4_v253.trans hq4_v222
                  have zq4_v253 := congrArg Int32.toInt hq4_v253
                  have hq5_v253 : v253 5 = (v222 5) := hk5_v253
                  have zq5_v253 := congrArg Int32.toInt hq5_v253
                  have hq8_v253 : v253 8 = (v 8) := hk8_v253.trans hq8_v222
                  have zq8_v253 := congrArg Int32.toInt hq8_v253
                  have hq9_v253 : v253 9 = (v 9) := hk9_v253.trans hq9_v222
                  have zq9_v253 := congrArg Int32.toInt hq9_v253
                  have hq10_v253 : v253 10 = (v 10) := hk10_v253.trans hq10_v222
                  have zq10_v253 := congrArg Int32.toInt hq10_v253
                  have hq13_v253 : v253 13 = (v 13) := hk13_v253.trans hq13_v222
                  have zq13_v253 := congrArg Int32.toInt hq13_v253
                  have hq14_v253 : v253 14 = (v 14) := hk14_v253.trans hq14_v222
                  have zq14_v253 := congrArg Int32.toInt hq14_v253
                  have hq15_v253 : v253 15 = (v 15) := hk15_v253.trans hq15_v222
                  have zq15_v253 := congrArg Int32.toInt hq15_v253
                  have hq17_v253 : v253 17 = (v 17) := hk17_v253.trans hq17_v222
                  have zq17_v253 := congrArg Int32.toInt hq17_v253
                  have hq18_v253 : v253 18 = (v 18) := hk18_v253.trans hq18_v222
                  have zq18_v253 := congrArg Int32.toInt hq18_v253
                  have hq24_v253 : v253 24 = (v 24) := hk24_v253.trans hq24_v222
                  have hq25_v253 : v253 25 = (v 25) := hk25_v253.trans hq25_v222
                  have hq35_v253 : v253 35 = (v 35) := hk35_v253.trans hq35_v222
                  have zq35_v253 := congrArg Int32.toInt hq35_v253
                  have hq36_v253 : v253 36 = (v 36) := hk36_v253.trans hq36_v222
                  have zq36_v253 := congrArg Int32.toInt hq36_v253
                  have hq38_v253 : v253 38 = (v 38) := hk38_v253.trans hq38_v222
                  have hq39_v253 : v253 39 = (v 39) := hk39_v253.trans hq39_v222
                  refine lv_aload_n hx hb dX11_readLine_295 rfl (lv_at hl 0 rfl) ?_
                  refine va_get (D := (dC, dI)) (ci := 11) (v := .int (v253 1)) (C := RX11) (T := TX11) (N := 79) hx hb hts inB_11 hown hE.1 hP 0 rfl rfl 2 (by decide) (hts _ k_1322) (fun _ h9 => h9) rfl dX11_readLine_296 ?_
                  have b1_v253 : 0 ≤ (v253 1).toInt ∧ (v253 1).toInt ≤ 4 := YIb.b hIv253.1 1 (by decide)
                  refine lv_if_ne (tgt := 306) hx hb dX11_readLine_299 (by decide) (fun c263 => ?_) (fun c263 => ?_)
                  · skip
                    have zc263 : ¬ ((v253 1).toInt = 0) := by rw [fa_eq, show (0 : Int32).toInt = 0 from by decide] at c263; exact c263
                    exact ret (v253, f254, w255, g256) _ _ _ _ _ _ ⟨hIv253, hCf254, hRf254, (hk0_v253.trans hk0_v222), (hk4_v253.trans hk4_v222), (hk9_v253.trans hk9_v222), (hk24_v253.trans hk24_v222), (hk25_v253.trans hk25_v222), (hk35_v253.trans hk35_v222), (hk36_v253.trans hk36_v222), (hk38_v253.trans hk38_v222), (hk39_v253.trans hk39_v222), (by show 0 < (v253 1).toInt ∨ (v 3).toInt < (v253 3).toInt; omega), (by show (v 3).toInt ≤ (v253 3).toInt; omega), (by show (v253 1).toInt = 0 → ¬ (v253 15).toInt = 0 → progOK (f254 2) (f254 3) ((v253 8).toInt).toNat; rw [hs2_f254, hs3_f254]; intro hz8 hz9; first | exact prog_n (hPR (by omega)) (by omega) | exact prog_n (hPF (by omega)) (by omega) | (exfalso; omega))⟩ hP hD hS dX11_readLine_306 (Nat.le_refl _) (Nat.le_refl _)
                  · skip
                    have zc263 : (v253 1).toInt = 0 := by rw [fa_eq, show (0 : Int32).toInt = 0 from by decide] at c263; exact c263
                    refine lv_aload_n hx hb dX11_readLine_302 rfl (lv_at hl 0 rfl) ?_
                    refine cbVv (n := 0) (rest := []) hx hb hml hown hts hE hP hD hS hA (sY_X11_token_1 l dC dI cy y0 r  v253 f254 w255 g256 hIv253 hCf254 hRf254 ) k_1579 k_1581 k_42 k_114 k_1582 (by decide +kernel) ⟨Nat.le_of_ble_eq_true rfl, Nat.le_of_ble_eq_true rfl⟩ 0 11 rfl rfl (rfl) hl.1 rfl (Nat.le_of_ble_eq_true rfl) dX11_readLine_303 (fun u H locs hw hP hD hS => ?_)
                    obtain ⟨v264, f265, w266, g267⟩ := u
                    obtain ⟨hIv264, hCf265, hRf265, hk0_v264, hk1_v264, hk4_v264, hk8_v264, hk9_v264, hk10_v264, hk13_v264, hk14_v264, hk15_v264, hk17_v264, hk18_v264, hk24_v264, hk25_v264, hk35_v264, hk36_v264, hk38_v264, hk39_v264, pv268, pv269, kq270, kq271, kq272⟩ := hw
                    have hP : va_P (dC, dI) vwCl (YW cy y0 r v264 f265 w266 g267) H := hP
                    have hD : va_D A (YW cy y0 r v264 f265 w266 g267) := hD
                    have b3_v264 : 0 ≤ (v264 3).toInt ∧ (v264 3).toInt ≤ 1600 := YIb.b hIv264.1 3 (by decide)
                    have pv268 : (v253 3).toInt ≤ (v264 3).toInt := pv268
                    have pv269 : (v264 5).toInt = (v253 5).toInt ∨ (v253 3).toInt < (v264 3).toInt ∨ ¬ (v264 5).toInt = 59 := pv269
                    have hs2_f265 : f265 2 = (f 2) := kq270.trans hs2_f254
                    have hs3_f265 : f265 3 = (f 3) := kq271.trans hs3_f254
                    have hs6_f265 : f265 6 = (f 6) := kq272.trans hs6_f254
                    have hUv264 : (v264 35).toInt + (v264 36).toInt ≤ 40 := hIv264.2
                    have hq0_v264 : v264 0 = (v 0) := hk0_v264.trans hq0_v253
                    have hq1_v264 : v264 1 = (v253 1) := hk1_v264
                    have zq1_v264 := congrArg Int32.toInt hq1_v264
                    have hq4_v264 : v264 4 = (v 4) := hk4_v264.trans hq4_v253
                    have zq4_v264 := congrArg Int32.toInt hq4_v264
                    have hq8_v264 : v264 8 = (v 8) := hk8_v264.trans hq8_v253
                    have zq8_v264 := congrArg Int32.toInt hq8_v264
                    have hq9_v264 : v264 9 = (v 9) := hk9_v264.trans hq9_v253
                    have zq9_v264 := congrArg Int32.toInt hq9_v264
                    have hq10_v264 : v264 10 = (v 10) := hk10_v264.trans hq10_v253
                    have zq10_v264 := congrArg Int32.toInt hq10_v264
                    have hq13_v264 : v264 13 = (v 13) := hk13_v264.trans hq13_v253
                    have zq13_v264 := congrArg Int32.toInt hq13_v264
                    have hq14_v264 : v264 14 = (v 14) := hk14_v264.trans hq14_v253
                    have zq14_v264 := congrArg Int32.toInt hq14_v264
                    have hq15_v264 : v264 15 = (v 15) := hk15_v264.trans hq15_v253
                    have zq15_v264 := congrArg Int32.toInt hq15_v264
                    have hq17_v264 : v264 17 = (v 17) := hk17_v264.trans hq17_v253
                    have zq17_v264 := congrArg Int32.toInt hq17_v264
                    have hq18_v264 : v264 18 = (v 18) := hk18_v264.trans hq18_v253
                    have zq18_v264 := congrArg Int32.toInt hq18_v264
                    have hq24_v264 : v264 24 = (v 24) := hk24_v264.trans hq24_v253
                    have hq25_v264 : v264 25 = (v 25) := hk25_v264.trans hq25_v253
                    have hq35_v264 : v264 35 = (v 35) := hk35_v264.trans hq35_v253
                    have zq35_v264 := congrArg Int32.toInt hq35_v264
                    have hq36_v264 : v264 36 = (v 36) := hk36_v264.trans hq36_v253
                    have zq36_v264 := congrArg Int32.toInt hq36_v264
                    have hq38_v264 : v264 38 = (v 38) := hk38_v264.trans hq38_v253
                    have hq39_v264 : v264 39 = (v 39) := hk39_v264.trans hq39_v253
                    exact ret (v264, f265, w266, g267) _ _ _ _ _ _ ⟨hIv264, hCf265, hRf265, (hk0_v264.trans (hk0_v253.trans hk0_v222)), (hk4_v264.trans (hk4_v253.trans hk4_v222)), (hk9_v264.trans (hk9_v253.trans hk9_v222)), (hk24_v264.trans (hk24_v253.trans hk24_v222)), (hk25_v264.trans (hk25_v253.trans hk25_v222)), (hk35_v264.trans (hk35_v253.trans hk35_v222)), (hk36_v264.trans (hk36_v253.trans hk36_v222)), (hk38_v264.trans (hk38_v253.trans hk38_v222)), (hk39_v264.trans (hk39_v253.trans hk39_v222)), (by show 0 < (v264 1).toInt ∨ (v 3).toInt < (v264 3).toInt; omega), (by show (v 3).toInt ≤ (v264 3).toInt; omega), (by show (v264 1).toInt = 0 → ¬ (v264 15).toInt = 0 → progOK (f265 2) (f265 3) ((v264 8).toInt).toNat; rw [hs2_f265, hs3_f265]; intro hz8 hz9; first | exact prog_n (hPR (by omega)) (by omega) | exact prog_n (hPF (by omega)) (by omega) | (exfalso; omega))⟩ hP hD hS dX11_readLine_306 (Nat.le_refl _) (Nat.le_refl _)
          · skip
            subst g219
            refine lv_if_eq (tgt := 154) hx hb dX11_readLine_122 (by decide) (fun _ => ?_) (fun c0 => absurd (by decide) c0)
            exact jp154 _ _ _ hP hD hS hl
        refine lv_aload_n hx hb dX11_readLine_76 rfl (lv_at hl 0 rfl) ?_
        refine lv_ldc2 (v := 1700885369) hx hb hown (hts _ k_1628) dX11_readLine_77 ?_
        refine cbVi (n := 1) (rest := []) hx hb hml hown hts hE hP hD hS hA (sY_X11_isWord_1 l dC dI cy y0 r 1700885369 v f w g hIv hCf hRf ) k_1601 k_1603 k_45 k_114 k_1604 (by decide +kernel) ⟨Nat.le_of_ble_eq_true rfl, Nat.le_of_ble_eq_true rfl⟩ 0 11 rfl rfl (rfl) hl.1 rfl (Nat.le_of_ble_eq_true rfl) dX11_readLine_80 (fun r273 u H locs hw hP hD hS => ?_)
        rcases hw with ⟨g274, g274_0⟩ | ⟨g274⟩
        · skip
          subst g274
          refine lv_if_eq (tgt := 115) hx hb dX11_readLine_83 (by decide) (fun c0 => absurd c0 (by decide)) (fun _ => ?_)
          refine lv_aload_n hx hb dX11_readLine_86 rfl (lv_at hl 0 rfl) ?_
          refine va_get (D := (dC, dI)) (ci := 11) (v := .int (v 30)) (C := RX11) (T := TX11) (N := 79) hx hb hts inB_11 hown hE.1 hP 0 rfl rfl 54 (by decide) (hts _ k_1374) (fun _ h9 => h9) rfl dX11_readLine_87 ?_
          refine lv_if_ne (tgt := 115) hx hb dX11_readLine_90 (by decide) (fun c275 => ?_) (fun c275 => ?_)
          · skip
            have zc275 : ¬ ((v 30).toInt = 0) := by rw [fa_eq, show (0 : Int32).toInt = 0 from by decide] at c275; exact c275
            exact jp115 _ _ _ hP hD hS hl
          · skip
            have zc275 : (v 30).toInt = 0 := by rw [fa_eq, show (0 : Int32).toInt = 0 from by decide] at c275; exact c275
            refine lv_aload_n hx hb dX11_readLine_93 rfl (lv_at hl 0 rfl) ?_
            refine lv_iconst (v := 1) hx hb dX11_readLine_94 (by decide) ?_
            refine va_put (D := (dC, dI)) (ci := 11) (v := .int 1) (ty := tyX11 54) (C := RX11) (T := TX11) (N := 79) hx hb hts inB_11 tyX11 tyX11_ok nmX11 hown hE.1 hP hD hS 0 rfl rfl 54 (by decide) (hts _ k_1374) (fun _ h9 => h9) rfl (tyX11_ok 54 (by decide)) rfl rfl (Nat.le_of_ble_eq_true rfl) dX11_readLine_95 (fun H locs hP hD hS => ?_)
            have hP : va_P (dC, dI) vwCl (YW cy y0 r (upd v 30 1) f w g) H := hP
            have hD : va_D A (YW cy y0 r (upd v 30 1) f w g) := hD
            refine lv_aload_n hx hb dX11_readLine_98 rfl (lv_at hl 0 rfl) ?_
            refine lv_aload_n hx hb dX11_readLine_99 rfl (lv_at hl 0 rfl) ?_
            refine lv_ldc2 (v := 1700885369) hx hb hown (hts _ k_1628) dX11_readLine_100 ?_
            refine lv_sipush (v := 999) hx hb dX11_readLine_103 (by decide) ?_
            refine cbVi (n := 2) (rest := [.ref y0]) hx hb hml hown hts hE hP hD hS hA (sY_X11_told_1 l dC dI cy y0 r 1700885369 999 (upd v 30 1) f w g ⟨(YIb.upd (j := 30) (x := 1) hIv.1 (rlo _) (rhi _)), hIv.2⟩ hCf hRf ) k_1645 k_1647 k_51 k_114 k_1648 (by decide +kernel) ⟨Nat.le_of_ble_eq_true rfl, Nat.le_of_ble_eq_true rfl⟩ 0 11 rfl rfl (rfl) hl.1 rfl (Nat.le_of_ble_eq_true rfl) dX11_readLine_106 (fun r276 u H locs hw hP hD hS => ?_)
            obtain ⟨v277, f278, w279, g280⟩ := u
            obtain ⟨hIv277, hCf278, hRf278, hk0_v277, hk4_v277, hk8_v277, hk9_v277, hk10_v277, hk13_v277, hk14_v277, hk15_v277, hk17_v277, hk18_v277, hk24_v277, hk25_v277, hk35_v277, hk36_v277, hk38_v277, hk39_v277, pv281, pv282, kq283, kq284, kq285⟩ := hw
            have hP : va_P (dC, dI) vwCl (YW cy y0 r v277 f278 w279 g280) H := hP
            have hD : va_D A (YW cy y0 r v277 f278 w279 g280) := hD
            have b3_v277 : 0 ≤ (v277 3).toInt ∧ (v277 3).toInt ≤ 1600 := YIb.b hIv277.1 3 (by decide)
            have pv281 : (v 3).toInt ≤ (v277 3).toInt := pv281
            have pv282 : (v277 5).toInt = (v 5).toInt ∨ (v 3).toInt < (v277 3).toInt ∨ ¬ (v277 5).toInt = 59 := pv282
            have hs2_f278 : f278 2 = (f 2) := kq283
            have hs3_f278 : f278 3 = (f 3) := kq284
            have hs6_f278 : f278 6 = (f 6) := kq285
            have hUv277 : (v277 35).toInt + (v277 36).toInt ≤ 40 := hIv277.2
            have hq0_v277 : v277 0 = (v 0) := hk0_v277
            have hq4_v277 : v277 4 = (v 4) := hk4_v277
            have zq4_v277 := congrArg Int32.toInt hq4_v277
            have hq8_v277 : v277 8 = (v 8) := hk8_v277
            have zq8_v277 := congrArg Int32.toInt hq8_v277
            have hq9_v277 : v277 9 = (v 9) := hk9_v277
            have zq9_v277 := congrArg Int32.toInt hq9_v277
            have hq10_v277 : v277 10 = (v 10) := hk10_v277
            have zq10_v277 := congrArg Int32.toInt hq10_v277
            have hq13_v277 : v277 13 = (v 13) := hk13_v277
            have zq13_v277 := congrArg Int32.toInt hq13_v277
            have hq14_v277 : v277 14 = (v 14) := hk14_v277
            have zq14_v277 := congrArg Int32.toInt hq14_v277
            have hq15_v277 : v277 15 = (v 15) := hk15_v277
            have zq15_v277 := congrArg Int32.toInt hq15_v277
            have hq17_v277 : v277 17 = (v 17) := hk17_v277
            have zq17_v277 := congrArg Int32.toInt hq17_v277
            have hq18_v277 : v277 18 = (v 18) := hk18_v277
            have zq18_v277 := congrArg Int32.toInt hq18_v277
            have hq24_v277 : v277 24 = (v 24) := hk24_v277
            have hq25_v277 : v277 25 = (v 25) := hk25_v277
            have hq35_v277 : v277 35 = (v 35) := hk35_v277
            have zq35_v277 := congrArg Int32.toInt hq35_v277
            have hq36_v277 : v277 36 = (v 36) := hk36_v277
            have zq36_v277 := congrArg Int32.toInt hq36_v277
            have hq38_v277 : v277 38 = (v 38) := hk38_v277
            have hq39_v277 : v277 39 = (v 39) := hk39_v277
            refine va_put (D := (dC, dI)) (ci := 11) (v := .int r276) (ty := tyX11 43) (C := RX11) (T := TX11) (N := 79) hx hb hts inB_11 tyX11 tyX11_ok nmX11 hown hE.1 hP hD hS 0 rfl rfl 43 (by decide) (hts _ k_1363) (fun _ h9 => h9) rfl (tyX11_ok 43 (by decide)) rfl rfl (Nat.le_of_ble_eq_true rfl) dX11_readLine_109 (fun H locs hP hD hS => ?_)
            have hP : va_P (dC, dI) vwCl (YW cy y0 r (upd v277 19 r276) f278 w279 g280) H := hP
            have hD : va_D A (YW cy y0 r (upd v277 19 r276) f278 w279 g280) := hD
            refine lv_goto (tgt := 274) hx hb dX11_readLine_112 (by decide) ?_
            refine lv_aload_n hx hb dX11_readLine_274 rfl (lv_at hl 0 rfl) ?_
            refine va_get (D := (dC, dI)) (ci := 11) (v := .int (v277 1)) (C := RX11) (T := TX11) (N := 79) hx hb hts inB_11 hown hE.1 hP 0 rfl rfl 2 (by decide) (hts _ k_1322) (fun _ h9 => h9) rfl dX11_readLine_275 ?_
            have b1_v277 : 0 ≤ (v277 1).toInt ∧ (v277 1).toInt ≤ 4 := YIb.b hIv277.1 1 (by decide)
            refine lv_if_ne (tgt := 295) hx hb dX11_readLine_278 (by decide) (fun c286 => ?_) (fun c286 => ?_)
            · skip
              have zc286 : ¬ ((v277 1).toInt = 0) := by rw [fa_eq, show (0 : Int32).toInt = 0 from by decide] at c286; exact c286
              refine lv_aload_n hx hb dX11_readLine_295 rfl (lv_at hl 0 rfl) ?_
              refine va_get (D := (dC, dI)) (ci := 11) (v := .int (v277 1)) (C := RX11) (T := TX11) (N := 79) hx hb hts inB_11 hown hE.1 hP 0 rfl rfl 2 (by decide) (hts _ k_1322) (fun _ h9 => h9) rfl dX11_readLine_296 ?_
              refine lv_if_ne (tgt := 306) hx hb dX11_readLine_299 (by decide) (fun c287 => ?_) (fun c287 => ?_)
              · skip
                have zc287 : ¬ ((v277 1).toInt = 0) := by rw [fa_eq, show (0 : Int32).toInt = 0 from by decide] at c287; exact c287
                exact ret ((upd v277 19 r276), f278, w279, g280) _ _ _ _ _ _ ⟨⟨(YIb.upd (j := 19) (x := r276) hIv277.1 (rlo _) (rhi _)), hIv277.2⟩, hCf278, hRf278, hk0_v277, hk4_v277, hk9_v277, hk24_v277, hk25_v277, hk35_v277, hk36_v277, hk38_v277, hk39_v277, (by show 0 < (v277 1).toInt ∨ (v 3).toInt < (v277 3).toInt; omega), (by show (v 3).toInt ≤ (v277 3).toInt; omega), (by show (v277 1).toInt = 0 → ¬ (v277 15).toInt = 0 → progOK (f278 2) (f278 3) ((v277 8).toInt).toNat; rw [hs2_f278, hs3_f278]; intro hz8 hz9; first | exact prog_n (hPR (by omega)) (by omega) | exact prog_n (hPF (by omega)) (by omega) | (exfalso; omega))⟩ hP hD hS dX11_readLine_306 (Nat.le_refl _) (Nat.le_refl _)
              · skip
                have zc287 : (v277 1).toInt = 0 := by rw [fa_eq, show (0 : Int32).toInt = 0 from by decide] at c287; exact c287
                refine lv_aload_n hx hb dX11_readLine_302 rfl (lv_at hl 0 rfl) ?_
                refine cbVv (n := 0) (rest := []) hx hb hml hown hts hE hP hD hS hA (sY_X11_token_1 l dC dI cy y0 r  (upd v277 19 r276) f278 w279 g280 ⟨(YIb.upd (j := 19) (x := r276) hIv277.1 (rlo _) (rhi _)), hIv277.2⟩ hCf278 hRf278 ) k_1579 k_1581 k_42 k_114 k_1582 (by decide +kernel) ⟨Nat.le_of_ble_eq_true rfl, Nat.le_of_ble_eq_true rfl⟩ 0 11 rfl rfl (rfl) hl.1 rfl (Nat.le_of_ble_eq_true rfl) dX11_readLine_303 (fun u H locs hw hP hD hS => ?_)
                obtain ⟨v288, f289, w290, g291⟩ := u
                obtain ⟨hIv288, hCf289, hRf289, hk0_v288, hk1_v288, hk4_v288, hk8_v288, hk9_v288, hk10_v288, hk13_v288, hk14_v288, hk15_v288, hk17_v288, hk18_v288, hk24_v288, hk25_v288, hk35_v288, hk36_v288, hk38_v288, hk39_v288, pv292, pv293, kq294, kq295, kq296⟩ := hw
                have hP : va_P (dC, dI) vwCl (YW cy y0 r v288 f289 w290 g291) H := hP
                have hD : va_D A (YW cy y0 r v288 f289 w290 g291) := hD
                have b3_v288 : 0 ≤ (v288 3).toInt ∧ (v288 3).toInt ≤ 1600 := YIb.b hIv288.1 3 (by decide)
                have pv292 : (v277 3).toInt ≤ (v288 3).toInt := pv292
                have pv293 : (v288 5).toInt = (v277 5).toInt ∨ (v277 3).toInt < (v288 3).toInt ∨ ¬ (v288 5).toInt = 59 := pv293
                have hs2_f289 : f289 2 = (f 2) := kq294.trans hs2_f278
                have hs3_f289 : f289 3 = (f 3) := kq295.trans hs3_f278
                have hs6_f289 : f289 6 = (f 6) := kq296.trans hs6_f278
                have hUv288 : (v288 35).toInt + (v288 36).toInt ≤ 40 := hIv288.2
                have hq0_v288 : v288 0 = (v 0) := hk0_v288.trans hq0_v277
                have hq1_v288 : v288 1 = (v277 1) := hk1_v288
                have zq1_v288 := congrArg Int32.toInt hq1_v288
                have hq4_v288 : v288 4 = (v 4) := hk4_v288.trans hq4_v277
                have zq4_v288 := congrArg Int32.toInt hq4_v288
                have hq8_v288 : v288 8 = (v 8) := hk8_v288.trans hq8_v277
                have zq8_v288 := congrArg Int32.toInt hq8_v288
                have hq9_v288 : v288 9 = (v 9) := hk9_v288.trans hq9_v277
                have zq9_v288 := congrArg Int32.toInt hq9_v288
                have hq10_v288 : v288 10 = (v 10) := hk10_v288.trans hq10_v277
                have zq10_v288 := congrArg Int32.toInt hq10_v288
                have hq13_v288 : v288 13 = (v 13) := hk13_v288.trans hq13_v277
                have zq13_v288 := congrArg Int32.toInt hq13_v288
                have hq14_v288 : v288 14 = (v 14) := hk14_v288.trans hq14_v277
                have zq14_v288 := congrArg Int32.toInt hq14_v288
                have hq15_v288 : v288 15 = (v 15) := hk15_v288.trans hq15_v277
                have zq15_v288 := congrArg Int32.toInt hq15_v288
                have hq17_v288 : v288 17 = (v 17) := hk17_v288.trans hq17_v277
                have zq17_v288 := congrArg Int32.toInt hq17_v288
                have hq18_v288 : v288 18 = (v 18) := hk18_v288.trans hq18_v277
                have zq18_v288 := congrArg Int32.toInt hq18_v288
                have hq24_v288 : v288 24 = (v 24) := hk24_v288.trans hq24_v277
                have hq25_v288 : v288 25 = (v 25) := hk25_v288.trans hq25_v277
                have hq35_v288 : v288 35 = (v 35) := hk35_v288.trans hq35_v277
                have zq35_v288 := congrArg Int32.toInt hq35_v288
                have hq36_v288 : v288 36 = (v 36) := hk36_v288.trans hq36_v277
                have zq36_v288 := congrArg Int32.toInt hq36_v288
                have hq38_v288 : v288 38 = (v 38) := hk38_v288.trans hq38_v277
                have hq39_v288 : v288 39 = (v 39) := hk39_v288.trans hq39_v277
                exact ret (v288, f289, w290, g291) _ _ _ _ _ _ ⟨hIv288, hCf289, hRf289, (hk0_v288.trans hk0_v277), (hk4_v288.trans hk4_v277), (hk9_v288.trans hk9_v277), (hk24_v288.trans hk24_v277), (hk25_v288.trans hk25_v277), (hk35_v288.trans hk35_v277), (hk36_v288.trans hk36_v277), (hk38_v288.trans hk38_v277), (hk39_v288.trans hk39_v277), (by show 0 < (v288 1).toInt ∨ (v 3).toInt < (v288 3).toInt; omega), (by show (v 3).toInt ≤ (v288 3).toInt; omega), (by show (v288 1).toInt = 0 → ¬ (v288 15).toInt = 0 → progOK (f289 2) (f289 3) ((v288 8).toInt).toNat; rw [hs2_f289, hs3_f289]; intro hz8 hz9; first | exact prog_n (hPR (by omega)) (by omega) | exact prog_n (hPF (by omega)) (by omega) | (exfalso; omega))⟩ hP hD hS dX11_readLine_306 (Nat.le_refl _) (Nat.le_refl _)
            · skip
              have zc286 : (v277 1).toInt = 0 := by rw [fa_eq, show (0 : Int32).toInt = 0 from by decide] at c286; exact c286
              refine lv_aload_n hx hb dX11_readLine_281 rfl (lv_at hl 0 rfl) ?_
              refine va_get (D := (dC, dI)) (ci := 11) (v := .int (v277 5)) (C := RX11) (T := TX11) (N := 79) hx hb hts inB_11 hown hE.1 hP 0 rfl rfl 6 (by decide) (hts _ k_1326) (fun _ h9 => h9) rfl dX11_readLine_282 ?_
              refine lv_bipush (v := 59) hx hb dX11_readLine_285 (by decide) ?_
              refine lv_icmp_eq (tgt := 295) hx hb dX11_readLine_287 (by decide) (fun c297 => ?_) (fun c297 => ?_)
              · skip
                have zc297 : (v277 5).toInt = 59 := by rw [fa_eq, show (59 : Int32).toInt = 59 from by decide] at c297; exact c297
                refine lv_aload_n hx hb dX11_readLine_295 rfl (lv_at hl 0 rfl) ?_
                refine va_get (D := (dC, dI)) (ci := 11) (v := .int (v277 1)) (C := RX11) (T := TX11) (N := 79) hx hb hts inB_11 hown hE.1 hP 0 rfl rfl 2 (by decide) (hts _ k_1322) (fun _ h9 => h9) rfl dX11_readLine_296 ?_
                refine lv_if_ne (tgt := 306) hx hb dX11_readLine_299 (by decide) (fun c298 => ?_) (fun c298 => ?_)
                · skip
                  have zc298 : ¬ ((v277 1).toInt = 0) := by rw [fa_eq, show (0 : Int32).toInt = 0 from by decide] at c298; exact c298
                  exact ret ((upd v277 19 r276), f278, w279, g280) _ _ _ _ _ _ ⟨⟨(YIb.upd (j := 19) (x := r276) hIv277.1 (rlo _) (rhi _)), hIv277.2⟩, hCf278, hRf278, hk0_v277, hk4_v277, hk9_v277, hk24_v277, hk25_v277, hk35_v277, hk36_v277, hk38_v277, hk39_v277, (by show 0 < (v277 1).toInt ∨ (v 3).toInt < (v277 3).toInt; omega), (by show (v 3).toInt ≤ (v277 3).toInt; omega), (by show (v277 1).toInt = 0 → ¬ (v277 15).toInt = 0 → progOK (f278 2) (f278 3) ((v277 8).toInt).toNat; rw [hs2_f278, hs3_f278]; intro hz8 hz9; first | exact prog_n (hPR (by omega)) (by omega) | exact prog_n (hPF (by omega)) (by omega) | (exfalso; omega))⟩ hP hD hS dX11_readLine_306 (Nat.le_refl _) (Nat.le_refl _)
                · skip
                  have zc298 : (v277 1).toInt = 0 := by rw [fa_eq, show (0 : Int32).toInt = 0 from by decide] at c298; exact c298
                  refine lv_aload_n hx hb dX11_readLine_302 rfl (lv_at hl 0 rfl) ?_
                  refine cbVv (n := 0) (rest := []) hx hb hml hown hts hE hP hD hS hA (sY_X11_token_1 l dC dI cy y0 r  (upd v277 19 r276) f278 w279 g280 ⟨(YIb.upd (j := 19) (x := r276) hIv277.1 (rlo _) (rhi _)), hIv277.2⟩ hCf278 hRf278 ) k_1579 k_1581 k_42 k_114 k_1582 (by decide +kernel) ⟨Nat.le_of_ble_eq_true rfl, Nat.le_of_ble_eq_true rfl⟩ 0 11 rfl rfl (rfl) hl.1 rfl (Nat.le_of_ble_eq_true rfl) dX11_readLine_303 (fun u H locs hw hP hD hS => ?_)
                  obtain ⟨v299, f300, w301, g302⟩ := u
                  obtain ⟨hIv299, hCf300, hRf300, hk0_v299, hk1_v299, hk4_v299, hk8_v299, hk9_v299, hk10_v299, hk13_v299, hk14_v299, hk15_v299, hk17_v299, hk18_v299, hk24_v299, hk25_v299, hk35_v299, hk36_v299, hk38_v299, hk39_v299, pv303, pv304, kq305, kq306, kq307⟩ := hw
                  have hP : va_P (dC, dI) vwCl (YW cy y0 r v299 f300 w301 g302) H := hP
                  have hD : va_D A (YW cy y0 r v299 f300 w301 g302) := hD
                  have b3_v299 : 0 ≤ (v299 3).toInt ∧ (v299 3).toInt ≤ 1600 := YIb.b hIv299.1 3 (by decide)
                  have pv303 : (v277 3).toInt ≤ (v299 3).toInt := pv303
                  have pv304 : (v299 5).toInt = (v277 5).toInt ∨ (v277 3).toInt < (v299 3).toInt ∨ ¬ (v299 5).toInt = 59 := pv304
                  have hs2_f300 : f300 2 = (f 2) := kq305.trans hs2_f278
                  have hs3_f300 : f300 3 = (f 3) := kq306.trans hs3_f278
                  have hs6_f300 : f300 6 = (f 6) := kq307.trans hs6_f278
                  have hUv299 : (v299 35).toInt + (v299 36).toInt ≤ 40 := hIv299.2
                  have hq0_v299 : v299 0 = (v 0) := hk0_v299.trans hq0_v277
                  have hq1_v299 : v299 1 = (v277 1) := hk1_v299
                  have zq1_v299 := congrArg Int32.toInt hq1_v299
                  have hq4_v299 : v299 4 = (v 4) := hk4_v299.trans hq4_v277
                  have zq4_v299 := congrArg Int32.toInt hq4_v299
                  have hq8_v299 : v299 8 = (v 8) := hk8_v299.trans hq8_v277
                  have zq8_v299 := congrArg Int32.toInt hq8_v299
                  have hq9_v299 : v299 9 = (v 9) := hk9_v299.trans hq9_v277
                  have zq9_v299 := congrArg Int32.toInt hq9_v299
                  have hq10_v299 : v299 10 = (v 10) := hk10_v299.trans hq10_v277
                  have zq10_v299 := congrArg Int32.toInt hq10_v299
                  have hq13_v299 : v299 13 = (v 13) := hk13_v299.trans hq13_v277
                  have zq13_v299 := congrArg Int32.toInt hq13_v299
                  have hq14_v299 : v299 14 = (v 14) := hk14_v299.trans hq14_v277
                  have zq14_v299 := congrArg Int32.toInt hq14_v299
                  have hq15_v299 : v299 15 = (v 15) := hk15_v299.trans hq15_v277
                  have zq15_v299 := congrArg Int32.toInt hq15_v299
                  have hq17_v299 : v299 17 = (v 17) := hk17_v299.trans hq17_v277
                  have zq17_v299 := congrArg Int32.toInt hq17_v299
                  have hq18_v299 : v299 18 = (v 18) := hk18_v299.trans hq18_v277
                  have zq18_v299 := congrArg Int32.toInt hq18_v299
                  have hq24_v299 : v299 24 = (v 24) := hk24_v299.trans hq24_v277
                  have hq25_v299 : v299 25 = (v 25) := hk25_v299.trans hq25_v277
                  have hq35_v299 : v299 35 = (v 35) := hk35_v299.trans hq35_v277
                  have zq35_v299 := congrArg Int32.toInt hq35_v299
                  have hq36_v299 : v299 36 = (v 36) := hk36_v299.trans hq36_v277
                  have zq36_v299 := congrArg Int32.toInt hq36_v299
                  have hq38_v299 : v299 38 = (v 38) := hk38_v299.trans hq38_v277
                  have hq39_v299 : v299 39 = (v 39) := hk39_v299.trans hq39_v277
                  exact ret (v299, f300, w301, g302) _ _ _ _ _ _ ⟨hIv299, hCf300, hRf300, (hk0_v299.trans hk0_v277), (hk4_v299.trans hk4_v277), (hk9_v299.trans hk9_v277), (hk24_v299.trans hk24_v277), (hk25_v299.trans hk25_v277), (hk35_v299.trans hk35_v277), (hk36_v299.trans hk36_v277), (hk38_v299.trans hk38_v277), (hk39_v299.trans hk39_v277), (by show 0 < (v299 1).toInt ∨ (v 3).toInt < (v299 3).toInt; omega), (by show (v 3).toInt ≤ (v299 3).toInt; omega), (by show (v299 1).toInt = 0 → ¬ (v299 15).toInt = 0 → progOK (f300 2) (f300 3) ((v299 8).toInt).toNat; rw [hs2_f300, hs3_f300]; intro hz8 hz9; first | exact prog_n (hPR (by omega)) (by omega) | exact prog_n (hPF (by omega)) (by omega) | (exfalso; omega))⟩ hP hD hS dX11_readLine_306 (Nat.le_refl _) (Nat.le_refl _)
              · skip
                have zc297 : ¬ ((v277 5).toInt = 59) := by rw [fa_eq, show (59 : Int32).toInt = 59 from by decide] at c297; exact c297
                refine lv_aload_n hx hb dX11_readLine_290 rfl (lv_at hl 0 rfl) ?_
                refine lv_iconst (v := 2) hx hb dX11_readLine_291 (by decide) ?_
                refine cbVv (n := 1) (rest := []) hx hb hml hown hts hE hP hD hS hA (sY_X11_wrong_1 l dC dI cy y0 r 2 (upd v277 19 r276) f278 w279 g280 ⟨(YIb.upd (j := 19) (x := r276) hIv277.1 (rlo _) (rhi _)), hIv277.2⟩ hCf278 hRf278 ⟨by decide, by decide⟩) k_1641 k_1643 k_50 k_114 k_1644 (by decide +kernel) ⟨Nat.le_of_ble_eq_true rfl, Nat.le_of_ble_eq_true rfl⟩ 0 11 rfl rfl (rfl) hl.1 rfl (Nat.le_of_ble_eq_true rfl) dX11_readLine_292 (fun u H locs hw hP hD hS => ?_)
                obtain ⟨v308, f309, w310, g311⟩ := u
                obtain ⟨hIv308, hCf309, hRf309, hk0_v308, hk3_v308, hk4_v308, hk5_v308, hk8_v308, hk9_v308, hk10_v308, hk13_v308, hk14_v308, hk15_v308, hk17_v308, hk18_v308, hk24_v308, hk25_v308, hk35_v308, hk36_v308, hk38_v308, hk39_v308, pv312, pv313, pv314, kq315, kq316, kq317⟩ := hw
                have hP : va_P (dC, dI) vwCl (YW cy y0 r v308 f309 w310 g311) H := hP
                have hD : va_D A (YW cy y0 r v308 f309 w310 g311) := hD
                have b3_v308 : 0 ≤ (v308 3).toInt ∧ (v308 3).toInt ≤ 1600 := YIb.b hIv308.1 3 (by decide)
                have b1_v308 : 0 ≤ (v308 1).toInt ∧ (v308 1).toInt ≤ 4 := YIb.b hIv308.1 1 (by decide)
                have pv312 : (v277 3).toInt ≤ (v308 3).toInt := pv312
                have pv313 : (v308 5).toInt = (v277 5).toInt ∨ (v277 3).toInt < (v308 3).toInt ∨ ¬ (v308 5).toInt = 59 := pv313
                have pv314 : 0 < (v308 1).toInt := pv314
                have hs2_f309 : f309 2 = (f 2) := kq315.trans hs2_f278
                have hs3_f309 : f309 3 = (f 3) := kq316.trans hs3_f278
                have hs6_f309 : f309 6 = (f 6) := kq317.trans hs6_f278
                have hUv308 : (v308 35).toInt + (v308 36).toInt ≤ 40 := hIv308.2
                have hq0_v308 : v308 0 = (v 0) := hk0_v308.trans hq0_v277
                have hq3_v308 : v308 3 = (v277 3) := hk3_v308
                have zq3_v308 := congrArg Int32.toInt hq3_v308
                have hq4_v308 : v308 4 = (v 4) := hk4_v308.trans hq4_v277
                have zq4_v308 := congrArg Int32.toInt hq4_v308
                have hq5_v308 : v308 5 = (v277 5) := hk5_v308
                have zq5_v308 := congrArg Int32.toInt hq5_v308
                have hq8_v308 : v308 8 = (v 8) := hk8_v308.trans hq8_v277
                have zq8_v308 := congrArg Int32.toInt hq8_v308
                have hq9_v308 : v308 9 = (v 9) := hk9_v308.trans hq9_v277
                have zq9_v308 := congrArg Int32.toInt hq9_v308
                have hq10_v308 : v308 10 = (v 10) := hk10_v308.trans hq10_v277
                have zq10_v308 := congrArg Int32.toInt hq10_v308
                have hq13_v308 : v308 13 = (v 13) := hk13_v308.trans hq13_v277
                have zq13_v308 := congrArg Int32.toInt hq13_v308
                have hq14_v308 : v308 14 = (v 14) := hk14_v308.trans hq14_v277
                have zq14_v308 := congrArg Int32.toInt hq14_v308
                have hq15_v308 : v308 15 = (v 15) := hk15_v308.trans hq15_v277
                have zq15_v308 := congrArg Int32.toInt hq15_v308
                have hq17_v308 : v308 17 = (v 17) := hk17_v308.trans hq17_v277
                have zq17_v308 := congrArg Int32.toInt hq17_v308
                have hq18_v308 : v308 18 = (v 18) := hk18_v308.trans hq18_v277
                have zq18_v308 := congrArg Int32.toInt hq18_v308
                have hq24_v308 : v308 24 = (v 24) := hk24_v308.trans hq24_v277
                have hq25_v308 : v308 25 = (v 25) := hk25_v308.trans hq25_v277
                have hq35_v308 : v308 35 = (v 35) := hk35_v308.trans hq35_v277
                have zq35_v308 := congrArg Int32.toInt hq35_v308
                have hq36_v308 : v308 36 = (v 36) := hk36_v308.trans hq36_v277
                have zq36_v308 := congrArg Int32.toInt hq36_v308
                have hq38_v308 : v308 38 = (v 38) := hk38_v308.trans hq38_v277
                have hq39_v308 : v308 39 = (v 39) := hk39_v308.trans hq39_v277
                refine lv_aload_n hx hb dX11_readLine_295 rfl (lv_at hl 0 rfl) ?_
                refine va_get (D := (dC, dI)) (ci := 11) (v := .int (v308 1)) (C := RX11) (T := TX11) (N := 79) hx hb hts inB_11 hown hE.1 hP 0 rfl rfl 2 (by decide) (hts _ k_1322) (fun _ h9 => h9) rfl dX11_readLine_296 ?_
                have b1_v308 : 0 ≤ (v308 1).toInt ∧ (v308 1).toInt ≤ 4 := YIb.b hIv308.1 1 (by decide)
                refine lv_if_ne (tgt := 306) hx hb dX11_readLine_299 (by decide) (fun c318 => ?_) (fun c318 => ?_)
                · skip
                  have zc318 : ¬ ((v308 1).toInt = 0) := by rw [fa_eq, show (0 : Int32).toInt = 0 from by decide] at c318; exact c318
                  exact ret (v308, f309, w310, g311) _ _ _ _ _ _ ⟨hIv308, hCf309, hRf309, (hk0_v308.trans hk0_v277), (hk4_v308.trans hk4_v277), (hk9_v308.trans hk9_v277), (hk24_v308.trans hk24_v277), (hk25_v308.trans hk25_v277), (hk35_v308.trans hk35_v277), (hk36_v308.trans hk36_v277), (hk38_v308.trans hk38_v277), (hk39_v308.trans hk39_v277), (by show 0 < (v308 1).toInt ∨ (v 3).toInt < (v308 3).toInt; omega), (by show (v 3).toInt ≤ (v308 3).toInt; omega), (by show (v308 1).toInt = 0 → ¬ (v308 15).toInt = 0 → progOK (f309 2) (f309 3) ((v308 8).toInt).toNat; rw [hs2_f309, hs3_f309]; intro hz8 hz9; first | exact prog_n (hPR (by omega)) (by omega) | exact prog_n (hPF (by omega)) (by omega) | (exfalso; omega))⟩ hP hD hS dX11_readLine_306 (Nat.le_refl _) (Nat.le_refl _)
                · skip
                  have zc318 : (v308 1).toInt = 0 := by rw [fa_eq, show (0 : Int32).toInt = 0 from by decide] at c318; exact c318
                  refine lv_aload_n hx hb dX11_readLine_302 rfl (lv_at hl 0 rfl) ?_
                  refine cbVv (n := 0) (rest := []) hx hb hml hown hts hE hP hD hS hA (sY_X11_token_1 l dC dI cy y0 r  v308 f309 w310 g311 hIv308 hCf309 hRf309 ) k_1579 k_1581 k_42 k_114 k_1582 (by decide +kernel) ⟨Nat.le_of_ble_eq_true rfl, Nat.le_of_ble_eq_true rfl⟩ 0 11 rfl rfl (rfl) hl.1 rfl (Nat.le_of_ble_eq_true rfl) dX11_readLine_303 (fun u H locs hw hP hD hS => ?_)
                  obtain ⟨v319, f320, w321, g322⟩ := u
                  obtain ⟨hIv319, hCf320, hRf320, hk0_v319, hk1_v319, hk4_v319, hk8_v319, hk9_v319, hk10_v319, hk13_v319, hk14_v319, hk15_v319, hk17_v319, hk18_v319, hk24_v319, hk25_v319, hk35_v319, hk36_v319, hk38_v319, hk39_v319, pv323, pv324, kq325, kq326, kq327⟩ := hw
                  have hP : va_P (dC, dI) vwCl (YW cy y0 r v319 f320 w321 g322) H := hP
                  have hD : va_D A (YW cy y0 r v319 f320 w321 g322) := hD
                  have b3_v319 : 0 ≤ (v319 3).toInt ∧ (v319 3).toInt ≤ 1600 := YIb.b hIv319.1 3 (by decide)
                  have pv323 : (v308 3).toInt ≤ (v319 3).toInt := pv323
                  have pv324 : (v319 5).toInt = (v308 5).toInt ∨ (v308 3).toInt < (v319 3).toInt ∨ ¬ (v319 5).toInt = 59 := pv324
                  have hs2_f320 : f320 2 = (f 2) := kq325.trans hs2_f309
                  have hs3_f320 : f320 3 = (f 3) := kq326.trans hs3_f309
                  have hs6_f320 : f320 6 = (f 6) := kq327.trans hs6_f309
                  have hUv319 : (v319 35).toInt + (v319 36).toInt ≤ 40 := hIv319.2
                  have hq0_v319 : v319 0 = (v 0) := hk0_v319.trans hq0_v308
                  have hq1_v319 : v319 1 = (v308 1) := hk1_v319
                  have zq1_v319 := congrArg Int32.toInt hq1_v319
                  have hq4_v319 : v319 4 = (v 4) := hk4_v319.trans hq4_v308
                  have zq4_v319 := congrArg Int32.toInt hq4_v319
                  have hq8_v319 : v319 8 = (v 8) := hk8_v319.trans hq8_v308
                  have zq8_v319 := congrArg Int32.toInt hq8_v319
                  have hq9_v319 : v319 9 = (v 9) := hk9_v319.trans hq9_v308
                  have zq9_v319 := congrArg Int32.toInt hq9_v319
                  have hq10_v319 : v319 10 = (v 10) := hk10_v319.trans hq10_v308
                  have zq10_v319 := congrArg Int32.toInt hq10_v319
                  have hq13_v319 : v319 13 = (v 13) := hk13_v319.trans hq13_v308
                  have zq13_v319 := congrArg Int32.toInt hq13_v319
                  have hq14_v319 : v319 14 = (v 14) := hk14_v319.trans hq14_v308
                  have zq14_v319 := congrArg Int32.toInt hq14_v319
                  have hq15_v319 : v319 15 = (v 15) := hk15_v319.trans hq15_v308
                  have zq15_v319 := congrArg Int32.toInt hq15_v319
                  have hq17_v319 : v319 17 = (v 17) := hk17_v319.trans hq17_v308
                  have zq17_v319 := congrArg Int32.toInt hq17_v319
                  have hq18_v319 : v319 18 = (v 18) := hk18_v319.trans hq18_v308
                  have zq18_v319 := congrArg Int32.toInt hq18_v319
                  have hq24_v319 : v319 24 = (v 24) := hk24_v319.trans hq24_v308
                  have hq25_v319 : v319 25 = (v 25) := hk25_v319.trans hq25_v308
                  have hq35_v319 : v319 35 = (v 35) := hk35_v319.trans hq35_v308
                  have zq35_v319 := congrArg Int32.toInt hq35_v319
                  have hq36_v319 : v319 36 = (v 36) := hk36_v319.trans hq36_v308
                  have zq36_v319 := congrArg Int32.toInt hq36_v319
                  have hq38_v319 : v319 38 = (v 38) := hk38_v319.trans hq38_v308
                  have hq39_v319 : v319 39 = (v 39) := hk39_v319.trans hq39_v308
                  exact ret (v319, f320, w321, g322) _ _ _ _ _ _ ⟨hIv319, hCf320, hRf320, (hk0_v319.trans (hk0_v308.trans hk0_v277)), (hk4_v319.trans (hk4_v308.trans hk4_v277)), (hk9_v319.trans (hk9_v308.trans hk9_v277)), (hk24_v319.trans (hk24_v308.trans hk24_v277)), (hk25_v319.trans (hk25_v308.trans hk25_v277)), (hk35_v319.trans (hk35_v308.trans hk35_v277)), (hk36_v319.trans (hk36_v308.trans hk36_v277)), (hk38_v319.trans (hk38_v308.trans hk38_v277)), (hk39_v319.trans (hk39_v308.trans hk39_v277)), (by show 0 < (v319 1).toInt ∨ (v 3).toInt < (v319 3).toInt; omega), (by show (v 3).toInt ≤ (v319 3).toInt; omega), (by show (v319 1).toInt = 0 → ¬ (v319 15).toInt = 0 → progOK (f320 2) (f320 3) ((v319 8).toInt).toNat; rw [hs2_f320, hs3_f320]; intro hz8 hz9; first | exact prog_n (hPR (by omega)) (by omega) | exact prog_n (hPF (by omega)) (by omega) | (exfalso; omega))⟩ hP hD hS dX11_readLine_306 (Nat.le_refl _) (Nat.le_refl _)
        · skip
          subst g274
          refine lv_if_eq (tgt := 115) hx hb dX11_readLine_83 (by decide) (fun _ => ?_) (fun c0 => absurd (by decide) c0)
          exact jp115 _ _ _ hP hD hS hl
      refine lv_aload_n hx hb dX11_readLine_52 rfl (lv_at hl 0 rfl) ?_
      refine lv_ldc2 (v := 6909036) hx hb hown (hts _ k_1627) dX11_readLine_53 ?_
      refine cbVi (n := 1) (rest := []) hx hb hml hown hts hE hP hD hS hA (sY_X11_isWord_1 l dC dI cy y0 r 6909036 v f w g hIv hCf hRf ) k_1601 k_1603 k_45 k_114 k_1604 (by decide +kernel) ⟨Nat.le_of_ble_eq_true rfl, Nat.le_of_ble_eq_true rfl⟩ 0 11 rfl rfl (rfl) hl.1 rfl (Nat.le_of_ble_eq_true rfl) dX11_readLine_56 (fun r328 u H locs hw hP hD hS => ?_)
      rcases hw with ⟨g329, g329_0⟩ | ⟨g329⟩
      · skip
        subst g329
        refine lv_if_eq (tgt := 76) hx hb dX11_readLine_59 (by decide) (fun c0 => absurd c0 (by decide)) (fun _ => ?_)
        refine lv_aload_n hx hb dX11_readLine_62 rfl (lv_at hl 0 rfl) ?_
        refine va_get (D := (dC, dI)) (ci := 11) (v := .int (v 15)) (C := RX11) (T := TX11) (N := 79) hx hb hts inB_11 hown hE.1 hP 0 rfl rfl 24 (by decide) (hts _ k_1344) (fun _ h9 => h9) rfl dX11_readLine_63 ?_
        refine lv_if_ne (tgt := 76) hx hb dX11_readLine_66 (by decide) (fun c330 => ?_) (fun c330 => ?_)
        · skip
          have zc330 : ¬ ((v 15).toInt = 0) := by rw [fa_eq, show (0 : Int32).toInt = 0 from by decide] at c330; exact c330
          exact jp76 _ _ _ hP hD hS hl
        · skip
          have zc330 : (v 15).toInt = 0 := by rw [fa_eq, show (0 : Int32).toInt = 0 from by decide] at c330; exact c330
          refine lv_aload_n hx hb dX11_readLine_69 rfl (lv_at hl 0 rfl) ?_
          refine cbVv (n := 0) (rest := []) hx hb hml hown hts hE hP hD hS hA (sY_X11_formula_1 l dC dI cy y0 r  v f w g hIv hCf hRf ) k_1665 k_1667 k_56 k_114 k_1668 (by decide +kernel) ⟨Nat.le_of_ble_eq_true rfl, Nat.le_of_ble_eq_true rfl⟩ 0 11 rfl rfl (rfl) hl.1 rfl (Nat.le_of_ble_eq_true rfl) dX11_readLine_70 (fun u H locs hw hP hD hS => ?_)
          obtain ⟨v331, f332, w333, g334⟩ := u
          obtain ⟨hIv331, hCf332, hRf332, hk0_v331, hk4_v331, hk9_v331, hk17_v331, hk18_v331, hk24_v331, hk25_v331, hk35_v331, hk36_v331, hk38_v331, hk39_v331, pv335, pv336, pg337⟩ := hw
          have hP : va_P (dC, dI) vwCl (YW cy y0 r v331 f332 w333 g334) H := hP
          have hD : va_D A (YW cy y0 r v331 f332 w333 g334) := hD
          have b3_v331 : 0 ≤ (v331 3).toInt ∧ (v331 3).toInt ≤ 1600 := YIb.b hIv331.1 3 (by decide)
          have b1_v331 : 0 ≤ (v331 1).toInt ∧ (v331 1).toInt ≤ 4 := YIb.b hIv331.1 1 (by decide)
          have b8_v331 : 0 ≤ (v331 8).toInt ∧ (v331 8).toInt ≤ 320 := YIb.b hIv331.1 8 (by decide)
          have pv335 : (v 3).toInt ≤ (v331 3).toInt := pv335
          have pv336 : (v331 5).toInt = (v 5).toInt ∨ (v 3).toInt < (v331 3).toInt ∨ ¬ (v331 5).toInt = 59 := pv336
          have pg337 : (v331 1).toInt = 0 → progOK (f332 2) (f332 3) ((v331 8).toInt).toNat := pg337
          have hUv331 : (v331 35).toInt + (v331 36).toInt ≤ 40 := hIv331.2
          have hq0_v331 : v331 0 = (v 0) := hk0_v331
          have hq4_v331 : v331 4 = (v 4) := hk4_v331
          have zq4_v331 := congrArg Int32.toInt hq4_v331
          have hq9_v331 : v331 9 = (v 9) := hk9_v331
          have zq9_v331 := congrArg Int32.toInt hq9_v331
          have hq17_v331 : v331 17 = (v 17) := hk17_v331
          have zq17_v331 := congrArg Int32.toInt hq17_v331
          have hq18_v331 : v331 18 = (v 18) := hk18_v331
          have zq18_v331 := congrArg Int32.toInt hq18_v331
          have hq24_v331 : v331 24 = (v 24) := hk24_v331
          have hq25_v331 : v331 25 = (v 25) := hk25_v331
          have hq35_v331 : v331 35 = (v 35) := hk35_v331
          have zq35_v331 := congrArg Int32.toInt hq35_v331
          have hq36_v331 : v331 36 = (v 36) := hk36_v331
          have zq36_v331 := congrArg Int32.toInt hq36_v331
          have hq38_v331 : v331 38 = (v 38) := hk38_v331
          have hq39_v331 : v331 39 = (v 39) := hk39_v331
          have hPF := pg337
          refine lv_goto (tgt := 274) hx hb dX11_readLine_73 (by decide) ?_
          refine lv_aload_n hx hb dX11_readLine_274 rfl (lv_at hl 0 rfl) ?_
          refine va_get (D := (dC, dI)) (ci := 11) (v := .int (v331 1)) (C := RX11) (T := TX11) (N := 79) hx hb hts inB_11 hown hE.1 hP 0 rfl rfl 2 (by decide) (hts _ k_1322) (fun _ h9 => h9) rfl dX11_readLine_275 ?_
          have b1_v331 : 0 ≤ (v331 1).toInt ∧ (v331 1).toInt ≤ 4 := YIb.b hIv331.1 1 (by decide)
          refine lv_if_ne (tgt := 295) hx hb dX11_readLine_278 (by decide) (fun c338 => ?_) (fun c338 => ?_)
          · skip
            have zc338 : ¬ ((v331 1).toInt = 0) := by rw [fa_eq, show (0 : Int32).toInt = 0 from by decide] at c338; exact c338
            refine lv_aload_n hx hb dX11_readLine_295 rfl (lv_at hl 0 rfl) ?_
            refine va_get (D := (dC, dI)) (ci := 11) (v := .int (v331 1)) (C := RX11) (T := TX11) (N := 79) hx hb hts inB_11 hown hE.1 hP 0 rfl rfl 2 (by decide) (hts _ k_1322) (fun _ h9 => h9) rfl dX11_readLine_296 ?_
            refine lv_if_ne (tgt := 306) hx hb dX11_readLine_299 (by decide) (fun c339 => ?_) (fun c339 => ?_)
            · skip
              have zc339 : ¬ ((v331 1).toInt = 0) := by rw [fa_eq, show (0 : Int32).toInt = 0 from by decide] at c339; exact c339
              exact ret (v331, f332, w333, g334) _ _ _ _ _ _ ⟨hIv331, hCf332, hRf332, hk0_v331, hk4_v331, hk9_v331, hk24_v331, hk25_v331, hk35_v331, hk36_v331, hk38_v331, hk39_v331, (by show 0 < (v331 1).toInt ∨ (v 3).toInt < (v331 3).toInt; omega), (by show (v 3).toInt ≤ (v331 3).toInt; omega), (by show (v331 1).toInt = 0 → ¬ (v331 15).toInt = 0 → progOK (f332 2) (f332 3) ((v331 8).toInt).toNat; intro hz8 hz9; first | exact prog_n (hPR (by omega)) (by omega) | exact prog_n (hPF (by omega)) (by omega) | (exfalso; omega))⟩ hP hD hS dX11_readLine_306 (Nat.le_refl _) (Nat.le_refl _)
            · skip
              have zc339 : (v331 1).toInt = 0 := by rw [fa_eq, show (0 : Int32).toInt = 0 from by decide] at c339; exact c339
              refine lv_aload_n hx hb dX11_readLine_302 rfl (lv_at hl 0 rfl) ?_
              refine cbVv (n := 0) (rest := []) hx hb hml hown hts hE hP hD hS hA (sY_X11_token_1 l dC dI cy y0 r  v331 f332 w333 g334 hIv331 hCf332 hRf332 ) k_1579 k_1581 k_42 k_114 k_1582 (by decide +kernel) ⟨Nat.le_of_ble_eq_true rfl, Nat.le_of_ble_eq_true rfl⟩ 0 11 rfl rfl (rfl) hl.1 rfl (Nat.le_of_ble_eq_true rfl) dX11_readLine_303 (fun u H locs hw hP hD hS => ?_)
              obtain ⟨v340, f341, w342, g343⟩ := u
              obtain ⟨hIv340, hCf341, hRf341, hk0_v340, hk1_v340, hk4_v340, hk8_v340, hk9_v340, hk10_v340, hk13_v340, hk14_v340, hk15_v340, hk17_v340, hk18_v340, hk24_v340, hk25_v340, hk35_v340, hk36_v340, hk38_v340, hk39_v340, pv344, pv345, kq346, kq347, kq348⟩ := hw
              have hP : va_P (dC, dI) vwCl (YW cy y0 r v340 f341 w342 g343) H := hP
              have hD : va_D A (YW cy y0 r v340 f341 w342 g343) := hD
              have b3_v340 : 0 ≤ (v340 3).toInt ∧ (v340 3).toInt ≤ 1600 := YIb.b hIv340.1 3 (by decide)
              have pv344 : (v331 3).toInt ≤ (v340 3).toInt := pv344
              have pv345 : (v340 5).toInt = (v331 5).toInt ∨ (v331 3).toInt < (v340 3).toInt ∨ ¬ (v340 5).toInt = 59 := pv345
              have hs2_f341 : f341 2 = (f332 2) := kq346
              have hs3_f341 : f341 3 = (f332 3) := kq347
              have hs6_f341 : f341 6 = (f332 6) := kq348
              have hUv340 : (v340 35).toInt + (v340 36).toInt ≤ 40 := hIv340.2
              have hq0_v340 : v340 0 = (v 0) := hk0_v340.trans hq0_v331
              have hq1_v340 : v340 1 = (v331 1) := hk1_v340
              have zq1_v340 := congrArg Int32.toInt hq1_v340
              have hq4_v340 : v340 4 = (v 4) := hk4_v340.trans hq4_v331
              have zq4_v340 := congrArg Int32.toInt hq4_v340
              have hq8_v340 : v340 8 = (v331 8) := hk8_v340
              have zq8_v340 := congrArg Int32.toInt hq8_v340
              have hq9_v340 : v340 9 = (v 9) := hk9_v340.trans hq9_v331
              have zq9_v340 := congrArg Int32.toInt hq9_v340
              have hq10_v340 : v340 10 = (v331 10) := hk10_v340
              have zq10_v340 := congrArg Int32.toInt hq10_v340
              have hq13_v340 : v340 13 = (v331 13) := hk13_v340
              have zq13_v340 := congrArg Int32.toInt hq13_v340
              have hq14_v340 : v340 14 = (v331 14) := hk14_v340
              have zq14_v340 := congrArg Int32.toInt hq14_v340
              have hq15_v340 : v340 15 = (v331 15) := hk15_v340
              have zq15_v340 := congrArg Int32.toInt hq15_v340
              have hq17_v340 : v340 17 = (v 17) := hk17_v340.trans hq17_v331
              have zq17_v340 := congrArg Int32.toInt hq17_v340
              have hq18_v340 : v340 18 = (v 18) := hk18_v340.trans hq18_v331
              have zq18_v340 := congrArg Int32.toInt hq18_v340
              have hq24_v340 : v340 24 = (v 24) := hk24_v340.trans hq24_v331
              have hq25_v340 : v340 25 = (v 25) := hk25_v340.trans hq25_v331
              have hq35_v340 : v340 35 = (v 35) := hk35_v340.trans hq35_v331
              have zq35_v340 := congrArg Int32.toInt hq35_v340
              have hq36_v340 : v340 36 = (v 36) := hk36_v340.trans hq36_v331
              have zq36_v340 := congrArg Int32.toInt hq36_v340
              have hq38_v340 : v340 38 = (v 38) := hk38_v340.trans hq38_v331
              have hq39_v340 : v340 39 = (v 39) := hk39_v340.trans hq39_v331
              exact ret (v340, f341, w342, g343) _ _ _ _ _ _ ⟨hIv340, hCf341, hRf341, (hk0_v340.trans hk0_v331), (hk4_v340.trans hk4_v331), (hk9_v340.trans hk9_v331), (hk24_v340.trans hk24_v331), (hk25_v340.trans hk25_v331), (hk35_v340.trans hk35_v331), (hk36_v340.trans hk36_v331), (hk38_v340.trans hk38_v331), (hk39_v340.trans hk39_v331), (by show 0 < (v340 1).toInt ∨ (v 3).toInt < (v340 3).toInt; omega), (by show (v 3).toInt ≤ (v340 3).toInt; omega), (by show (v340 1).toInt = 0 → ¬ (v340 15).toInt = 0 → progOK (f341 2) (f341 3) ((v340 8).toInt).toNat; rw [hs2_f341, hs3_f341]; intro hz8 hz9; first | exact prog_n (hPR (by omega)) (by omega) | exact prog_n (hPF (by omega)) (by omega) | (exfalso; omega))⟩ hP hD hS dX11_readLine_306 (Nat.le_refl _) (Nat.le_refl _)
          · skip
            have zc338 : (v331 1).toInt = 0 := by rw [fa_eq, show (0 : Int32).toInt = 0 from by decide] at c338; exact c338
            refine lv_aload_n hx hb dX11_readLine_281 rfl (lv_at hl 0 rfl) ?_
            refine va_get (D := (dC, dI)) (ci := 11) (v := .int (v331 5)) (C := RX11) (T := TX11) (N := 79) hx hb hts inB_11 hown hE.1 hP 0 rfl rfl 6 (by decide) (hts _ k_1326) (fun _ h9 => h9) rfl dX11_readLine_282 ?_
            refine lv_bipush (v := 59) hx hb dX11_readLine_285 (by decide) ?_
            refine lv_icmp_eq (tgt := 295) hx hb dX11_readLine_287 (by decide) (fun c349 => ?_) (fun c349 => ?_)
            · skip
              have zc349 : (v331 5).toInt = 59 := by rw [fa_eq, show (59 : Int32).toInt = 59 from by decide] at c349; exact c349
              refine lv_aload_n hx hb dX11_readLine_295 rfl (lv_at hl 0 rfl) ?_
              refine va_get (D := (dC, dI)) (ci := 11) (v := .int (v331 1)) (C := RX11) (T := TX11) (N := 79) hx hb hts inB_11 hown hE.1 hP 0 rfl rfl 2 (by decide) (hts _ k_1322) (fun _ h9 => h9) rfl dX11_readLine_296 ?_
              refine lv_if_ne (tgt := 306) hx hb dX11_readLine_299 (by decide) (fun c350 => ?_) (fun c350 => ?_)
              · skip
                have zc350 : ¬ ((v331 1).toInt = 0) := by rw [fa_eq, show (0 : Int32).toInt = 0 from by decide] at c350; exact c350
                exact ret (v331, f332, w333, g334) _ _ _ _ _ _ ⟨hIv331, hCf332, hRf332, hk0_v331, hk4_v331, hk9_v331, hk24_v331, hk25_v331, hk35_v331, hk36_v331, hk38_v331, hk39_v331, (by show 0 < (v331 1).toInt ∨ (v 3).toInt < (v331 3).toInt; omega), (by show (v 3).toInt ≤ (v331 3).toInt; omega), (by show (v331 1).toInt = 0 → ¬ (v331 15).toInt = 0 → progOK (f332 2) (f332 3) ((v331 8).toInt).toNat; intro hz8 hz9; first | exact prog_n (hPR (by omega)) (by omega) | exact prog_n (hPF (by omega)) (by omega) | (exfalso; omega))⟩ hP hD hS dX11_readLine_306 (Nat.le_refl _) (Nat.le_refl _)
              · skip
                have zc350 : (v331 1).toInt = 0 := by rw [fa_eq, show (0 : Int32).toInt = 0 from by decide] at c350; exact c350
                refine lv_aload_n hx hb dX11_readLine_302 rfl (lv_at hl 0 rfl) ?_
                refine cbVv (n := 0) (rest := []) hx hb hml hown hts hE hP hD hS hA (sY_X11_token_1 l dC dI cy y0 r  v331 f332 w333 g334 hIv331 hCf332 hRf332 ) k_1579 k_1581 k_42 k_114 k_1582 (by decide +kernel) ⟨Nat.le_of_ble_eq_true rfl, Nat.le_of_ble_eq_true rfl⟩ 0 11 rfl rfl (rfl) hl.1 rfl (Nat.le_of_ble_eq_true rfl) dX11_readLine_303 (fun u H locs hw hP hD hS => ?_)
                obtain ⟨v351, f352, w353, g354⟩ := u
                obtain ⟨hIv351, hCf352, hRf352, hk0_v351, hk1_v351, hk4_v351, hk8_v351, hk9_v351, hk10_v351, hk13_v351, hk14_v351, hk15_v351, hk17_v351, hk18_v351, hk24_v351, hk25_v351, hk35_v351, hk36_v351, hk38_v351, hk39_v351, pv355, pv356, kq357, kq358, kq359⟩ := hw
                have hP : va_P (dC, dI) vwCl (YW cy y0 r v351 f352 w353 g354) H := hP
                have hD : va_D A (YW cy y0 r v351 f352 w353 g354) := hD
                have b3_v351 : 0 ≤ (v351 3).toInt ∧ (v351 3).toInt ≤ 1600 := YIb.b hIv351.1 3 (by decide)
                have pv355 : (v331 3).toInt ≤ (v351 3).toInt := pv355
                have pv356 : (v351 5).toInt = (v331 5).toInt ∨ (v331 3).toInt < (v351 3).toInt ∨ ¬ (v351 5).toInt = 59 := pv356
                have hs2_f352 : f352 2 = (f332 2) := kq357
                have hs3_f352 : f352 3 = (f332 3) := kq358
                have hs6_f352 : f352 6 = (f332 6) := kq359
                have hUv351 : (v351 35).toInt + (v351 36).toInt ≤ 40 := hIv351.2
                have hq0_v351 : v351 0 = (v 0) := hk0_v351.trans hq0_v331
                have hq1_v351 : v351 1 = (v331 1) := hk1_v351
                have zq1_v351 := congrArg Int32.toInt hq1_v351
                have hq4_v351 : v351 4 = (v 4) := hk4_v351.trans hq4_v331
                have zq4_v351 := congrArg Int32.toInt hq4_v351
                have hq8_v351 : v351 8 = (v331 8) := hk8_v351
                have zq8_v351 := congrArg Int32.toInt hq8_v351
                have hq9_v351 : v351 9 = (v 9) := hk9_v351.trans hq9_v331
                have zq9_v351 := congrArg Int32.toInt hq9_v351
                have hq10_v351 : v351 10 = (v331 10) := hk10_v351
                have zq10_v351 := congrArg Int32.toInt hq10_v351
                have hq13_v351 : v351 13 = (v331 13) := hk13_v351
                have zq13_v351 := congrArg Int32.toInt hq13_v351
                have hq14_v351 : v351 14 = (v331 14) := hk14_v351
                have zq14_v351 := congrArg Int32.toInt hq14_v351
                have hq15_v351 : v351 15 = (v331 15) := hk15_v351
                have zq15_v351 := congrArg Int32.toInt hq15_v351
                have hq17_v351 : v351 17 = (v 17) := hk17_v351.trans hq17_v331
                have zq17_v351 := congrArg Int32.toInt hq17_v351
                have hq18_v351 : v351 18 = (v 18) := hk18_v351.trans hq18_v331
                have zq18_v351 := congrArg Int32.toInt hq18_v351
                have hq24_v351 : v351 24 = (v 24) := hk24_v351.trans hq24_v331
                have hq25_v351 : v351 25 = (v 25) := hk25_v351.trans hq25_v331
                have hq35_v351 : v351 35 = (v 35) := hk35_v351.trans hq35_v331
                have zq35_v351 := congrArg Int32.toInt hq35_v351
                have hq36_v351 : v351 36 = (v 36) := hk36_v351.trans hq36_v331
                have zq36_v351 := congrArg Int32.toInt hq36_v351
                have hq38_v351 : v351 38 = (v 38) := hk38_v351.trans hq38_v331
                have hq39_v351 : v351 39 = (v 39) := hk39_v351.trans hq39_v331
                exact ret (v351, f352, w353, g354) _ _ _ _ _ _ ⟨hIv351, hCf352, hRf352, (hk0_v351.trans hk0_v331), (hk4_v351.trans hk4_v331), (hk9_v351.trans hk9_v331), (hk24_v351.trans hk24_v331), (hk25_v351.trans hk25_v331), (hk35_v351.trans hk35_v331), (hk36_v351.trans hk36_v331), (hk38_v351.trans hk38_v331), (hk39_v351.trans hk39_v331), (by show 0 < (v351 1).toInt ∨ (v 3).toInt < (v351 3).toInt; omega), (by show (v 3).toInt ≤ (v351 3).toInt; omega), (by show (v351 1).toInt = 0 → ¬ (v351 15).toInt = 0 → progOK (f352 2) (f352 3) ((v351 8).toInt).toNat; rw [hs2_f352, hs3_f352]; intro hz8 hz9; first | exact prog_n (hPR (by omega)) (by omega) | exact prog_n (hPF (by omega)) (by omega) | (exfalso; omega))⟩ hP hD hS dX11_readLine_306 (Nat.le_refl _) (Nat.le_refl _)
            · skip
              have zc349 : ¬ ((v331 5).toInt = 59) := by rw [fa_eq, show (59 : Int32).toInt = 59 from by decide] at c349; exact c349
              refine lv_aload_n hx hb dX11_readLine_290 rfl (lv_at hl 0 rfl) ?_
              refine lv_iconst (v := 2) hx hb dX11_readLine_291 (by decide) ?_
              refine cbVv (n := 1) (rest := []) hx hb hml hown hts hE hP hD hS hA (sY_X11_wrong_1 l dC dI cy y0 r 2 v331 f332 w333 g334 hIv331 hCf332 hRf332 ⟨by decide, by decide⟩) k_1641 k_1643 k_50 k_114 k_1644 (by decide +kernel) ⟨Nat.le_of_ble_eq_true rfl, Nat.le_of_ble_eq_true rfl⟩ 0 11 rfl rfl (rfl) hl.1 rfl (Nat.le_of_ble_eq_true rfl) dX11_readLine_292 (fun u H locs hw hP hD hS => ?_)
              obtain ⟨v360, f361, w362, g363⟩ := u
              obtain ⟨hIv360, hCf361, hRf361, hk0_v360, hk3_v360, hk4_v360, hk5_v360, hk8_v360, hk9_v360, hk10_v360, hk13_v360, hk14_v360, hk15_v360, hk17_v360, hk18_v360, hk24_v360, hk25_v360, hk35_v360, hk36_v360, hk38_v360, hk39_v360, pv364, pv365, pv366, kq367, kq368, kq369⟩ := hw
              have hP : va_P (dC, dI) vwCl (YW cy y0 r v360 f361 w362 g363) H := hP
              have hD : va_D A (YW cy y0 r v360 f361 w362 g363) := hD
              have b3_v360 : 0 ≤ (v360 3).toInt ∧ (v360 3).toInt ≤ 1600 := YIb.b hIv360.1 3 (by decide)
              have b1_v360 : 0 ≤ (v360 1).toInt ∧ (v360 1).toInt ≤ 4 := YIb.b hIv360.1 1 (by decide)
              have pv364 : (v331 3).toInt ≤ (v360 3).toInt := pv364
              have pv365 : (v360 5).toInt = (v331 5).toInt ∨ (v331 3).toInt < (v360 3).toInt ∨ ¬ (v360 5).toInt = 59 := pv365
              have pv366 : 0 < (v360 1).toInt := pv366
              have hs2_f361 : f361 2 = (f332 2) := kq367
              have hs3_f361 : f361 3 = (f332 3) := kq368
              have hs6_f361 : f361 6 = (f332 6) := kq369
              have hUv360 : (v360 35).toInt + (v360 36).toInt ≤ 40 := hIv360.2
              have hq0_v360 : v360 0 = (v 0) := hk0_v360.trans hq0_v331
              have hq3_v360 : v360 3 = (v331 3) := hk3_v360
              have zq3_v360 := congrArg Int32.toInt hq3_v360
              have hq4_v360 : v360 4 = (v 4) := hk4_v360.trans hq4_v331
              have zq4_v360 := congrArg Int32.toInt hq4_v360
              have hq5_v360 : v360 5 = (v331 5) := hk5_v360
              have zq5_v360 := congrArg Int32.toInt hq5_v360
              have hq8_v360 : v360 8 = (v331 8) := hk8_v360
              have zq8_v360 := congrArg Int32.toInt hq8_v360
              have hq9_v360 : v360 9 = (v 9) := hk9_v360.trans hq9_v331
              have zq9_v360 := congrArg Int32.toInt hq9_v360
              have hq10_v360 : v360 10 = (v331 10) := hk10_v360
              have zq10_v360 := congrArg Int32.toInt hq10_v360
              have hq13_v360 : v360 13 = (v331 13) := hk13_v360
              have zq13_v360 := congrArg Int32.toInt hq13_v360
              have hq14_v360 : v360 14 = (v331 14) := hk14_v360
              have zq14_v360 := congrArg Int32.toInt hq14_v360
              have hq15_v360 : v360 15 = (v331 15) := hk15_v360
              have zq15_v360 := congrArg Int32.toInt hq15_v360
              have hq17_v360 : v360 17 = (v 17) := hk17_v360.trans hq17_v331
              have zq17_v360 := congrArg Int32.toInt hq17_v360
              have hq18_v360 : v360 18 = (v 18) := hk18_v360.trans hq18_v331
              have zq18_v360 := congrArg Int32.toInt hq18_v360
              have hq24_v360 : v360 24 = (v 24) := hk24_v360.trans hq24_v331
              have hq25_v360 : v360 25 = (v 25) := hk25_v360.trans hq25_v331
              have hq35_v360 : v360 35 = (v 35) := hk35_v360.trans hq35_v331
              have zq35_v360 := congrArg Int32.toInt hq35_v360
              have hq36_v360 : v360 36 = (v 36) := hk36_v360.trans hq36_v331
              have zq36_v360 := congrArg Int32.toInt hq36_v360
              have hq38_v360 : v360 38 = (v 38) := hk38_v360.trans hq38_v331
              have hq39_v360 : v360 39 = (v 39) := hk39_v360.trans hq39_v331
              refine lv_aload_n hx hb dX11_readLine_295 rfl (lv_at hl 0 rfl) ?_
              refine va_get (D := (dC, dI)) (ci := 11) (v := .int (v360 1)) (C := RX11) (T := TX11) (N := 79) hx hb hts inB_11 hown hE.1 hP 0 rfl rfl 2 (by decide) (hts _ k_1322) (fun _ h9 => h9) rfl dX11_readLine_296 ?_
              have b1_v360 : 0 ≤ (v360 1).toInt ∧ (v360 1).toInt ≤ 4 := YIb.b hIv360.1 1 (by decide)
              refine lv_if_ne (tgt := 306) hx hb dX11_readLine_299 (by decide) (fun c370 => ?_) (fun c370 => ?_)
              · skip
                have zc370 : ¬ ((v360 1).toInt = 0) := by rw [fa_eq, show (0 : Int32).toInt = 0 from by decide] at c370; exact c370
                exact ret (v360, f361, w362, g363) _ _ _ _ _ _ ⟨hIv360, hCf361, hRf361, (hk0_v360.trans hk0_v331), (hk4_v360.trans hk4_v331), (hk9_v360.trans hk9_v331), (hk24_v360.trans hk24_v331), (hk25_v360.trans hk25_v331), (hk35_v360.trans hk35_v331), (hk36_v360.trans hk36_v331), (hk38_v360.trans hk38_v331), (hk39_v360.trans hk39_v331), (by show 0 < (v360 1).toInt ∨ (v 3).toInt < (v360 3).toInt; omega), (by show (v 3).toInt ≤ (v360 3).toInt; omega), (by show (v360 1).toInt = 0 → ¬ (v360 15).toInt = 0 → progOK (f361 2) (f361 3) ((v360 8).toInt).toNat; rw [hs2_f361, hs3_f361]; intro hz8 hz9; first | exact prog_n (hPR (by omega)) (by omega) | exact prog_n (hPF (by omega)) (by omega) | (exfalso; omega))⟩ hP hD hS dX11_readLine_306 (Nat.le_refl _) (Nat.le_refl _)
              · skip
                have zc370 : (v360 1).toInt = 0 := by rw [fa_eq, show (0 : Int32).toInt = 0 from by decide] at c370; exact c370
                refine lv_aload_n hx hb dX11_readLine_302 rfl (lv_at hl 0 rfl) ?_
                refine cbVv (n := 0) (rest := []) hx hb hml hown hts hE hP hD hS hA (sY_X11_token_1 l dC dI cy y0 r  v360 f361 w362 g363 hIv360 hCf361 hRf361 ) k_1579 k_1581 k_42 k_114 k_1582 (by decide +kernel) ⟨Nat.le_of_ble_eq_true rfl, Nat.le_of_ble_eq_true rfl⟩ 0 11 rfl rfl (rfl) hl.1 rfl (Nat.le_of_ble_eq_true rfl) dX11_readLine_303 (fun u H locs hw hP hD hS => ?_)
                obtain ⟨v371, f372, w373, g374⟩ := u
                obtain ⟨hIv371, hCf372, hRf372, hk0_v371, hk1_v371, hk4_v371, hk8_v371, hk9_v371, hk10_v371, hk13_v371, hk14_v371, hk15_v371, hk17_v371, hk18_v371, hk24_v371, hk25_v371, hk35_v371, hk36_v371, hk38_v371, hk39_v371, pv375, pv376, kq377, kq378, kq379⟩ := hw
                have hP : va_P (dC, dI) vwCl (YW cy y0 r v371 f372 w373 g374) H := hP
                have hD : va_D A (YW cy y0 r v371 f372 w373 g374) := hD
                have b3_v371 : 0 ≤ (v371 3).toInt ∧ (v371 3).toInt ≤ 1600 := YIb.b hIv371.1 3 (by decide)
                have pv375 : (v360 3).toInt ≤ (v371 3).toInt := pv375
                have pv376 : (v371 5).toInt = (v360 5).toInt ∨ (v360 3).toInt < (v371 3).toInt ∨ ¬ (v371 5).toInt = 59 := pv376
                have hs2_f372 : f372 2 = (f332 2) := kq377.trans hs2_f361
                have hs3_f372 : f372 3 = (f332 3) := kq378.trans hs3_f361
                have hs6_f372 : f372 6 = (f332 6) := kq379.trans hs6_f361
                have hUv371 : (v371 35).toInt + (v371 36).toInt ≤ 40 := hIv371.2
                have hq0_v371 : v371 0 = (v 0) := hk0_v371.trans hq0_v360
                have hq1_v371 : v371 1 = (v360 1) := hk1_v371
                have zq1_v371 := congrArg Int32.toInt hq1_v371
                have hq4_v371 : v371 4 = (v 4) := hk4_v371.trans hq4_v360
                have zq4_v371 := congrArg Int32.toInt hq4_v371
                have hq8_v371 : v371 8 = (v331 8) := hk8_v371.trans hq8_v360
                have zq8_v371 := congrArg Int32.toInt hq8_v371
                have hq9_v371 : v371 9 = (v 9) := hk9_v371.trans hq9_v360
                have zq9_v371 := congrArg Int32.toInt hq9_v371
                have hq10_v371 : v371 10 = (v331 10) := hk10_v371.trans hq10_v360
                have zq10_v371 := congrArg Int32.toInt hq10_v371
                have hq13_v371 : v371 13 = (v331 13) := hk13_v371.trans hq13_v360
                have zq13_v371 := congrArg Int32.toInt hq13_v371
                have hq14_v371 : v371 14 = (v331 14) := hk14_v371.trans hq14_v360
                have zq14_v371 := congrArg Int32.toInt hq14_v371
                have hq15_v371 : v371 15 = (v331 15) := hk15_v371.trans hq15_v360
                have zq15_v371 := congrArg Int32.toInt hq15_v371
                have hq17_v371 : v371 17 = (v 17) := hk17_v371.trans hq17_v360
                have zq17_v371 := congrArg Int32.toInt hq17_v371
                have hq18_v371 : v371 18 = (v 18) := hk18_v371.trans hq18_v360
                have zq18_v371 := congrArg Int32.toInt hq18_v371
                have hq24_v371 : v371 24 = (v 24) := hk24_v371.trans hq24_v360
                have hq25_v371 : v371 25 = (v 25) := hk25_v371.trans hq25_v360
                have hq35_v371 : v371 35 = (v 35) := hk35_v371.trans hq35_v360
                have zq35_v371 := congrArg Int32.toInt hq35_v371
                have hq36_v371 : v371 36 = (v 36) := hk36_v371.trans hq36_v360
                have zq36_v371 := congrArg Int32.toInt hq36_v371
                have hq38_v371 : v371 38 = (v 38) := hk38_v371.trans hq38_v360
                have hq39_v371 : v371 39 = (v 39) := hk39_v371.trans hq39_v360
                exact ret (v371, f372, w373, g374) _ _ _ _ _ _ ⟨hIv371, hCf372, hRf372, (hk0_v371.trans (hk0_v360.trans hk0_v331)), (hk4_v371.trans (hk4_v360.trans hk4_v331)), (hk9_v371.trans (hk9_v360.trans hk9_v331)), (hk24_v371.trans (hk24_v360.trans hk24_v331)), (hk25_v371.trans (hk25_v360.trans hk25_v331)), (hk35_v371.trans (hk35_v360.trans hk35_v331)), (hk36_v371.trans (hk36_v360.trans hk36_v331)), (hk38_v371.trans (hk38_v360.trans hk38_v331)), (hk39_v371.trans (hk39_v360.trans hk39_v331)), (by show 0 < (v371 1).toInt ∨ (v 3).toInt < (v371 3).toInt; omega), (by show (v 3).toInt ≤ (v371 3).toInt; omega), (by show (v371 1).toInt = 0 → ¬ (v371 15).toInt = 0 → progOK (f372 2) (f372 3) ((v371 8).toInt).toNat; rw [hs2_f372, hs3_f372]; intro hz8 hz9; first | exact prog_n (hPR (by omega)) (by omega) | exact prog_n (hPF (by omega)) (by omega) | (exfalso; omega))⟩ hP hD hS dX11_readLine_306 (Nat.le_refl _) (Nat.le_refl _)
      · skip
        subst g329
        refine lv_if_eq (tgt := 76) hx hb dX11_readLine_59 (by decide) (fun _ => ?_) (fun c0 => absurd (by decide) c0)
        exact jp76 _ _ _ hP hD hS hl
    refine lv_aload_n hx hb dX11_readLine_26 rfl (lv_at hl 0 rfl) ?_
    refine lv_ldc2 (v := 1668243828) hx hb hown (hts _ k_1624) dX11_readLine_27 ?_
    refine cbVi (n := 1) (rest := []) hx hb hml hown hts hE hP hD hS hA (sY_X11_isWord_1 l dC dI cy y0 r 1668243828 v f w g hIv hCf hRf ) k_1601 k_1603 k_45 k_114 k_1604 (by decide +kernel) ⟨Nat.le_of_ble_eq_true rfl, Nat.le_of_ble_eq_true rfl⟩ 0 11 rfl rfl (rfl) hl.1 rfl (Nat.le_of_ble_eq_true rfl) dX11_readLine_30 (fun r380 u H locs hw hP hD hS => ?_)
    rcases hw with ⟨g381, g381_0⟩ | ⟨g381⟩
    · skip
      subst g381
      refine lv_if_eq (tgt := 52) hx hb dX11_readLine_33 (by decide) (fun c0 => absurd c0 (by decide)) (fun _ => ?_)
      refine lv_aload_n hx hb dX11_readLine_36 rfl (lv_at hl 0 rfl) ?_
      refine va_get (D := (dC, dI)) (ci := 11) (v := .int (v 18)) (C := RX11) (T := TX11) (N := 79) hx hb hts inB_11 hown hE.1 hP 0 rfl rfl 42 (by decide) (hts _ k_1362) (fun _ h9 => h9) rfl dX11_readLine_37 ?_
      have b18_v : 0 ≤ (v 18).toInt ∧ (v 18).toInt ≤ 6 := YIb.b hIv.1 18 (by decide)
      refine lv_bipush (v := 6) hx hb dX11_readLine_40 (by decide) ?_
      refine lv_icmp_ge (tgt := 52) hx hb dX11_readLine_42 (by decide) (fun c382 => ?_) (fun c382 => ?_)
      · skip
        have zc382 : 6 ≤ (v 18).toInt := by rw [fa_le, show (6 : Int32).toInt = 6 from by decide] at c382; exact c382
        exact jp52 _ _ _ hP hD hS hl
      · skip
        have zc382 : ¬ (6 ≤ (v 18).toInt) := by rw [fa_le, show (6 : Int32).toInt = 6 from by decide] at c382; exact c382
        refine lv_aload_n hx hb dX11_readLine_45 rfl (lv_at hl 0 rfl) ?_
        refine cbVv (n := 0) (rest := []) hx hb hml hown hts hE hP hD hS hA (sY_X11_readCoat_1 l dC dI cy y0 r  v f w g hIv hCf hRf (by show (v 18).toInt ≤ 5; omega)) k_1661 k_1663 k_55 k_114 k_1664 (by decide +kernel) ⟨Nat.le_of_ble_eq_true rfl, Nat.le_of_ble_eq_true rfl⟩ 0 11 rfl rfl (rfl) hl.1 rfl (Nat.le_of_ble_eq_true rfl) dX11_readLine_46 (fun u H locs hw hP hD hS => ?_)
        obtain ⟨v383, f384, w385, g386⟩ := u
        obtain ⟨hIv383, hCf384, hRf384, hk0_v383, hk4_v383, hk8_v383, hk9_v383, hk10_v383, hk13_v383, hk14_v383, hk15_v383, hk17_v383, hk24_v383, hk25_v383, hk35_v383, hk36_v383, hk38_v383, hk39_v383, pv387, pv388, kq389, kq390, kq391⟩ := hw
        have hP : va_P (dC, dI) vwCl (YW cy y0 r v383 f384 w385 g386) H := hP
        have hD : va_D A (YW cy y0 r v383 f384 w385 g386) := hD
        have b3_v383 : 0 ≤ (v383 3).toInt ∧ (v383 3).toInt ≤ 1600 := YIb.b hIv383.1 3 (by decide)
        have pv387 : (v 3).toInt ≤ (v383 3).toInt := pv387
        have pv388 : (v383 5).toInt = (v 5).toInt ∨ (v 3).toInt < (v383 3).toInt ∨ ¬ (v383 5).toInt = 59 := pv388
        have hs2_f384 : f384 2 = (f 2) := kq389
        have hs3_f384 : f384 3 = (f 3) := kq390
        have hs6_f384 : f384 6 = (f 6) := kq391
        have hUv383 : (v383 35).toInt + (v383 36).toInt ≤ 40 := hIv383.2
        have hq0_v383 : v383 0 = (v 0) := hk0_v383
        have hq4_v383 : v383 4 = (v 4) := hk4_v383
        have zq4_v383 := congrArg Int32.toInt hq4_v383
        have hq8_v383 : v383 8 = (v 8) := hk8_v383
        have zq8_v383 := congrArg Int32.toInt hq8_v383
        have hq9_v383 : v383 9 = (v 9) := hk9_v383
        have zq9_v383 := congrArg Int32.toInt hq9_v383
        have hq10_v383 : v383 10 = (v 10) := hk10_v383
        have zq10_v383 := congrArg Int32.toInt hq10_v383
        have hq13_v383 : v383 13 = (v 13) := hk13_v383
        have zq13_v383 := congrArg Int32.toInt hq13_v383
        have hq14_v383 : v383 14 = (v 14) := hk14_v383
        have zq14_v383 := congrArg Int32.toInt hq14_v383
        have hq15_v383 : v383 15 = (v 15) := hk15_v383
        have zq15_v383 := congrArg Int32.toInt hq15_v383
        have hq17_v383 : v383 17 = (v 17) := hk17_v383
        have zq17_v383 := congrArg Int32.toInt hq17_v383
        have hq24_v383 : v383 24 = (v 24) := hk24_v383
        have hq25_v383 : v383 25 = (v 25) := hk25_v383
        have hq35_v383 : v383 35 = (v 35) := hk35_v383
        have zq35_v383 := congrArg Int32.toInt hq35_v383
        have hq36_v383 : v383 36 = (v 36) := hk36_v383
        have zq36_v383 := congrArg Int32.toInt hq36_v383
        have hq38_v383 : v383 38 = (v 38) := hk38_v383
        have hq39_v383 : v383 39 = (v 39) := hk39_v383
        refine lv_goto (tgt := 274) hx hb dX11_readLine_49 (by decide) ?_
        refine lv_aload_n hx hb dX11_readLine_274 rfl (lv_at hl 0 rfl) ?_
        refine va_get (D := (dC, dI)) (ci := 11) (v := .int (v383 1)) (C := RX11) (T := TX11) (N := 79) hx hb hts inB_11 hown hE.1 hP 0 rfl rfl 2 (by decide) (hts _ k_1322) (fun _ h9 => h9) rfl dX11_readLine_275 ?_
        have b1_v383 : 0 ≤ (v383 1).toInt ∧ (v383 1).toInt ≤ 4 := YIb.b hIv383.1 1 (by decide)
        refine lv_if_ne (tgt := 295) hx hb dX11_readLine_278 (by decide) (fun c392 => ?_) (fun c392 => ?_)
        · skip
          have zc392 : ¬ ((v383 1).toInt = 0) := by rw [fa_eq, show (0 : Int32).toInt = 0 from by decide] at c392; exact c392
          refine lv_aload_n hx hb dX11_readLine_295 rfl (lv_at hl 0 rfl) ?_
          refine va_get (D := (dC, dI)) (ci := 11) (v := .int (v383 1)) (C := RX11) (T := TX11) (N := 79) hx hb hts inB_11 hown hE.1 hP 0 rfl rfl 2 (by decide) (hts _ k_1322) (fun _ h9 => h9) rfl dX11_readLine_296 ?_
          refine lv_if_ne (tgt := 306) hx hb dX11_readLine_299 (by decide) (fun c393 => ?_) (fun c393 => ?_)
          · skip
            have zc393 : ¬ ((v383 1).toInt = 0) := by rw [fa_eq, show (0 : Int32).toInt = 0 from by decide] at c393; exact c393
            exact ret (v383, f384, w385, g386) _ _ _ _ _ _ ⟨hIv383, hCf384, hRf384, hk0_v383, hk4_v383, hk9_v383, hk24_v383, hk25_v383, hk35_v383, hk36_v383, hk38_v383, hk39_v383, (by show 0 < (v383 1).toInt ∨ (v 3).toInt < (v383 3).toInt; omega), (by show (v 3).toInt ≤ (v383 3).toInt; omega), (by show (v383 1).toInt = 0 → ¬ (v383 15).toInt = 0 → progOK (f384 2) (f384 3) ((v383 8).toInt).toNat; rw [hs2_f384, hs3_f384]; intro hz8 hz9; first | exact prog_n (hPR (by omega)) (by omega) | exact prog_n (hPF (by omega)) (by omega) | (exfalso; omega))⟩ hP hD hS dX11_readLine_306 (Nat.le_refl _) (Nat.le_refl _)
          · skip
            have zc393 : (v383 1).toInt = 0 := by rw [fa_eq, show (0 : Int32).toInt = 0 from by decide] at c393; exact c393
            refine lv_aload_n hx hb dX11_readLine_302 rfl (lv_at hl 0 rfl) ?_
            refine cbVv (n := 0) (rest := []) hx hb hml hown hts hE hP hD hS hA (sY_X11_token_1 l dC dI cy y0 r  v383 f384 w385 g386 hIv383 hCf384 hRf384 ) k_1579 k_1581 k_42 k_114 k_1582 (by decide +kernel) ⟨Nat.le_of_ble_eq_true rfl, Nat.le_of_ble_eq_true rfl⟩ 0 11 rfl rfl (rfl) hl.1 rfl (Nat.le_of_ble_eq_true rfl) dX11_readLine_303 (fun u H locs hw hP hD hS => ?_)
            obtain ⟨v394, f395, w396, g397⟩ := u
            obtain ⟨hIv394, hCf395, hRf395, hk0_v394, hk1_v394, hk4_v394, hk8_v394, hk9_v394, hk10_v394, hk13_v394, hk14_v394, hk15_v394, hk17_v394, hk18_v394, hk24_v394, hk25_v394, hk35_v394, hk36_v394, hk38_v394, hk39_v394, pv398, pv399, kq400, kq401, kq402⟩ := hw
            have hP : va_P (dC, dI) vwCl (YW cy y0 r v394 f395 w396 g397) H := hP
            have hD : va_D A (YW cy y0 r v394 f395 w396 g397) := hD
            have b3_v394 : 0 ≤ (v394 3).toInt ∧ (v394 3).toInt ≤ 1600 := YIb.b hIv394.1 3 (by decide)
            have pv398 : (v383 3).toInt ≤ (v394 3).toInt := pv398
            have pv399 : (v394 5).toInt = (v383 5).toInt ∨ (v383 3).toInt < (v394 3).toInt ∨ ¬ (v394 5).toInt = 59 := pv399
            have hs2_f395 : f395 2 = (f 2) := kq400.trans hs2_f384
            have hs3_f395 : f395 3 = (f 3) := kq401.trans hs3_f384
            have hs6_f395 : f395 6 = (f 6) := kq402.trans hs6_f384
            have hUv394 : (v394 35).toInt + (v394 36).toInt ≤ 40 := hIv394.2
            have hq0_v394 : v394 0 = (v 0) := hk0_v394.trans hq0_v383
            have hq1_v394 : v394 1 = (v383 1) := hk1_v394
            have zq1_v394 := congrArg Int32.toInt hq1_v394
            have hq4_v394 : v394 4 = (v 4) := hk4_v394.trans hq4_v383
            have zq4_v394 := congrArg Int32.toInt hq4_v394
            have hq8_v394 : v394 8 = (v 8) := hk8_v394.trans hq8_v383
            have zq8_v394 := congrArg Int32.toInt hq8_v394
            have hq9_v394 : v394 9 = (v 9) := hk9_v394.trans hq9_v383
            have zq9_v394 := congrArg Int32.toInt hq9_v394
            have hq10_v394 : v394 10 = (v 10) := hk10_v394.trans hq10_v383
            have zq10_v394 := congrArg Int32.toInt hq10_v394
            have hq13_v394 : v394 13 = (v 13) := hk13_v394.trans hq13_v383
            have zq13_v394 := congrArg Int32.toInt hq13_v394
            have hq14_v394 : v394 14 = (v 14) := hk14_v394.trans hq14_v383
            have zq14_v394 := congrArg Int32.toInt hq14_v394
            have hq15_v394 : v394 15 = (v 15) := hk15_v394.trans hq15_v383
            have zq15_v394 := congrArg Int32.toInt hq15_v394
            have hq17_v394 : v394 17 = (v 17) := hk17_v394.trans hq17_v383
            have zq17_v394 := congrArg Int32.toInt hq17_v394
            have hq18_v394 : v394 18 = (v383 18) := hk18_v394
            have zq18_v394 := congrArg Int32.toInt hq18_v394
            have hq24_v394 : v394 24 = (v 24) := hk24_v394.trans hq24_v383
            have hq25_v394 : v394 25 = (v 25) := hk25_v394.trans hq25_v383
            have hq35_v394 : v394 35 = (v 35) := hk35_v394.trans hq35_v383
            have zq35_v394 := congrArg Int32.toInt hq35_v394
            have hq36_v394 : v394 36 = (v 36) := hk36_v394.trans hq36_v383
            have zq36_v394 := congrArg Int32.toInt hq36_v394
            have hq38_v394 : v394 38 = (v 38) := hk38_v394.trans hq38_v383
            have hq39_v394 : v394 39 = (v 39) := hk39_v394.trans hq39_v383
            exact ret (v394, f395, w396, g397) _ _ _ _ _ _ ⟨hIv394, hCf395, hRf395, (hk0_v394.trans hk0_v383), (hk4_v394.trans hk4_v383), (hk9_v394.trans hk9_v383), (hk24_v394.trans hk24_v383), (hk25_v394.trans hk25_v383), (hk35_v394.trans hk35_v383), (hk36_v394.trans hk36_v383), (hk38_v394.trans hk38_v383), (hk39_v394.trans hk39_v383), (by show 0 < (v394 1).toInt ∨ (v 3).toInt < (v394 3).toInt; omega), (by show (v 3).toInt ≤ (v394 3).toInt; omega), (by show (v394 1).toInt = 0 → ¬ (v394 15).toInt = 0 → progOK (f395 2) (f395 3) ((v394 8).toInt).toNat; rw [hs2_f395, hs3_f395]; intro hz8 hz9; first | exact prog_n (hPR (by omega)) (by omega) | exact prog_n (hPF (by omega)) (by omega) | (exfalso; omega))⟩ hP hD hS dX11_readLine_306 (Nat.le_refl _) (Nat.le_refl _)
        · skip
          have zc392 : (v383 1).toInt = 0 := by rw [fa_eq, show (0 : Int32).toInt = 0 from by decide] at c392; exact c392
          refine lv_aload_n hx hb dX11_readLine_281 rfl (lv_at hl 0 rfl) ?_
          refine va_get (D := (dC, dI)) (ci := 11) (v := .int (v383 5)) (C := RX11) (T := TX11) (N := 79) hx hb hts inB_11 hown hE.1 hP 0 rfl rfl 6 (by decide) (hts _ k_1326) (fun _ h9 => h9) rfl dX11_readLine_282 ?_
          refine lv_bipush (v := 59) hx hb dX11_readLine_285 (by decide) ?_
          refine lv_icmp_eq (tgt := 295) hx hb dX11_readLine_287 (by decide) (fun c403 => ?_) (fun c403 => ?_)
          · skip
            have zc403 : (v383 5).toInt = 59 := by rw [fa_eq, show (59 : Int32).toInt = 59 from by decide] at c403; exact c403
            refine lv_aload_n hx hb dX11_readLine_295 rfl (lv_at hl 0 rfl) ?_
            refine va_get (D := (dC, dI)) (ci := 11) (v := .int (v383 1)) (C := RX11) (T := TX11) (N := 79) hx hb hts inB_11 hown hE.1 hP 0 rfl rfl 2 (by decide) (hts _ k_1322) (fun _ h9 => h9) rfl dX11_readLine_296 ?_
            refine lv_if_ne (tgt := 306) hx hb dX11_readLine_299 (by decide) (fun c404 => ?_) (fun c404 => ?_)
            · skip
              have zc404 : ¬ ((v383 1).toInt = 0) := by rw [fa_eq, show (0 : Int32).toInt = 0 from by decide] at c404; exact c404
              exact ret (v383, f384, w385, g386) _ _ _ _ _ _ ⟨hIv383, hCf384, hRf384, hk0_v383, hk4_v383, hk9_v383, hk24_v383, hk25_v383, hk35_v383, hk36_v383, hk38_v383, hk39_v383, (by show 0 < (v383 1).toInt ∨ (v 3).toInt < (v383 3).toInt; omega), (by show (v 3).toInt ≤ (v383 3).toInt; omega), (by show (v383 1).toInt = 0 → ¬ (v383 15).toInt = 0 → progOK (f384 2) (f384 3) ((v383 8).toInt).toNat; rw [hs2_f384, hs3_f384]; intro hz8 hz9; first | exact prog_n (hPR (by omega)) (by omega) | exact prog_n (hPF (by omega)) (by omega) | (exfalso; omega))⟩ hP hD hS dX11_readLine_306 (Nat.le_refl _) (Nat.le_refl _)
            · skip
              have zc404 : (v383 1).toInt = 0 := by rw [fa_eq, show (0 : Int32).toInt = 0 from by decide] at c404; exact c404
              refine lv_aload_n hx hb dX11_readLine_302 rfl (lv_at hl 0 rfl) ?_
              refine cbVv (n := 0) (rest := []) hx hb hml hown hts hE hP hD hS hA (sY_X11_token_1 l dC dI cy y0 r  v383 f384 w385 g386 hIv383 hCf384 hRf384 ) k_1579 k_1581 k_42 k_114 k_1582 (by decide +kernel) ⟨Nat.le_of_ble_eq_true rfl, Nat.le_of_ble_eq_true rfl⟩ 0 11 rfl rfl (rfl) hl.1 rfl (Nat.le_of_ble_eq_true rfl) dX11_readLine_303 (fun u H locs hw hP hD hS => ?_)
              obtain ⟨v405, f406, w407, g408⟩ := u
              obtain ⟨hIv405, hCf406, hRf406, hk0_v405, hk1_v405, hk4_v405, hk8_v405, hk9_v405, hk10_v405, hk13_v405, hk14_v405, hk15_v405, hk17_v405, hk18_v405, hk24_v405, hk25_v405, hk35_v405, hk36_v405, hk38_v405, hk39_v405, pv409, pv410, kq411, kq412, kq413⟩ := hw
              have hP : va_P (dC, dI) vwCl (YW cy y0 r v405 f406 w407 g408) H := hP
              have hD : va_D A (YW cy y0 r v405 f406 w407 g408) := hD
              have b3_v405 : 0 ≤ (v405 3).toInt ∧ (v405 3).toInt ≤ 1600 := YIb.b hIv405.1 3 (by decide)
              have pv409 : (v383 3).toInt ≤ (v405 3).toInt := pv409
              have pv410 : (v405 5).toInt = (v383 5).toInt ∨ (v383 3).toInt < (v405 3).toInt ∨ ¬ (v405 5).toInt = 59 := pv410
              have hs2_f406 : f406 2 = (f 2) := kq411.trans hs2_f384
              have hs3_f406 : f406 3 = (f 3) := kq412.trans hs3_f384
              have hs6_f406 : f406 6 = (f 6) := kq413.trans hs6_f384
              have hUv405 : (v405 35).toInt + (v405 36).toInt ≤ 40 := hIv405.2
              have hq0_v405 : v405 0 = (v 0) := hk0_v405.trans hq0_v383
              have hq1_v405 : v405 1 = (v383 1) := hk1_v405
              have zq1_v405 := congrArg Int32.toInt hq1_v405
              have hq4_v405 : v405 4 = (v 4) := hk4_v405.trans hq4_v383
              have zq4_v405 := congrArg Int32.toInt hq4_v405
              have hq8_v405 : v405 8 = (v 8) := hk8_v405.trans hq8_v383
              have zq8_v405 := congrArg Int32.toInt hq8_v405
              have hq9_v405 : v405 9 = (v 9) := hk9_v405.trans hq9_v383
              have zq9_v405 := congrArg Int32.toInt hq9_v405
              have hq10_v405 : v405 10 = (v 10) := hk10_v405.trans hq10_v383
              have zq10_v405 := congrArg Int32.toInt hq10_v405
              have hq13_v405 : v405 13 = (v 13) := hk13_v405.trans hq13_v383
              have zq13_v405 := congrArg Int32.toInt hq13_v405
              have hq14_v405 : v405 14 = (v 14) := hk14_v405.trans hq14_v383
              have zq14_v405 := congrArg Int32.toInt hq14_v405
              have hq15_v405 : v405 15 = (v 15) := hk15_v405.trans hq15_v383
              have zq15_v405 := congrArg Int32.toInt hq15_v405
              have hq17_v405 : v405 17 = (v 17) := hk17_v405.trans hq17_v383
              have zq17_v405 := congrArg Int32.toInt hq17_v405
              have hq18_v405 : v405 18 = (v383 18) := hk18_v405
              have zq18_v405 := congrArg Int32.toInt hq18_v405
              have hq24_v405 : v405 24 = (v 24) := hk24_v405.trans hq24_v383
              have hq25_v405 : v405 25 = (v 25) := hk25_v405.trans hq25_v383
              have hq35_v405 : v405 35 = (v 35) := hk35_v405.trans hq35_v383
              have zq35_v405 := congrArg Int32.toInt hq35_v405
              have hq36_v405 : v405 36 = (v 36) := hk36_v405.trans hq36_v383
              have zq36_v405 := congrArg Int32.toInt hq36_v405
              have hq38_v405 : v405 38 = (v 38) := hk38_v405.trans hq38_v383
              have hq39_v405 : v405 39 = (v 39) := hk39_v405.trans hq39_v383
              exact ret (v405, f406, w407, g408) _ _ _ _ _ _ ⟨hIv405, hCf406, hRf406, (hk0_v405.trans hk0_v383), (hk4_v405.trans hk4_v383), (hk9_v405.trans hk9_v383), (hk24_v405.trans hk24_v383), (hk25_v405.trans hk25_v383), (hk35_v405.trans hk35_v383), (hk36_v405.trans hk36_v383), (hk38_v405.trans hk38_v383), (hk39_v405.trans hk39_v383), (by show 0 < (v405 1).toInt ∨ (v 3).toInt < (v405 3).toInt; omega), (by show (v 3).toInt ≤ (v405 3).toInt; omega), (by show (v405 1).toInt = 0 → ¬ (v405 15).toInt = 0 → progOK (f406 2) (f406 3) ((v405 8).toInt).toNat; rw [hs2_f406, hs3_f406]; intro hz8 hz9; first | exact prog_n (hPR (by omega)) (by omega) | exact prog_n (hPF (by omega)) (by omega) | (exfalso; omega))⟩ hP hD hS dX11_readLine_306 (Nat.le_refl _) (Nat.le_refl _)
          · skip
            have zc403 : ¬ ((v383 5).toInt = 59) := by rw [fa_eq, show (59 : Int32).toInt = 59 from by decide] at c403; exact c403
            refine lv_aload_n hx hb dX11_readLine_290 rfl (lv_at hl 0 rfl) ?_
            refine lv_iconst (v := 2) hx hb dX11_readLine_291 (by decide) ?_
            refine cbVv (n := 1) (rest := []) hx hb hml hown hts hE hP hD hS hA (sY_X11_wrong_1 l dC dI cy y0 r 2 v383 f384 w385 g386 hIv383 hCf384 hRf384 ⟨by decide, by decide⟩) k_1641 k_1643 k_50 k_114 k_1644 (by decide +kernel) ⟨Nat.le_of_ble_eq_true rfl, Nat.le_of_ble_eq_true rfl⟩ 0 11 rfl rfl (rfl) hl.1 rfl (Nat.le_of_ble_eq_true rfl) dX11_readLine_292 (fun u H locs hw hP hD hS => ?_)
            obtain ⟨v414, f415, w416, g417⟩ := u
            obtain ⟨hIv414, hCf415, hRf415, hk0_v414, hk3_v414, hk4_v414, hk5_v414, hk8_v414, hk9_v414, hk10_v414, hk13_v414, hk14_v414, hk15_v414, hk17_v414, hk18_v414, hk24_v414, hk25_v414, hk35_v414, hk36_v414, hk38_v414, hk39_v414, pv418, pv419, pv420, kq421, kq422, kq423⟩ := hw
            have hP : va_P (dC, dI) vwCl (YW cy y0 r v414 f415 w416 g417) H := hP
            have hD : va_D A (YW cy y0 r v414 f415 w416 g417) := hD
            have b3_v414 : 0 ≤ (v414 3).toInt ∧ (v414 3).toInt ≤ 1600 := YIb.b hIv414.1 3 (by decide)
            have b1_v414 : 0 ≤ (v414 1).toInt ∧ (v414 1).toInt ≤ 4 := YIb.b hIv414.1 1 (by decide)
            have pv418 : (v383 3).toInt ≤ (v414 3).toInt := pv418
            have pv419 : (v414 5).toInt = (v383 5).toInt ∨ (v383 3).toInt < (v414 3).toInt ∨ ¬ (v414 5).toInt = 59 := pv419
            have pv420 : 0 < (v414 1).toInt := pv420
            have hs2_f415 : f415 2 = (f 2) := kq421.trans hs2_f384
            have hs3_f415 : f415 3 = (f 3) := kq422.trans hs3_f384
            have hs6_f415 : f415 6 = (f 6) := kq423.trans hs6_f384
            have hUv414 : (v414 35).toInt + (v414 36).toInt ≤ 40 := hIv414.2
            have hq0_v414 : v414 0 = (v 0) := hk0_v414.trans hq0_v383
            have hq3_v414 : v414 3 = (v383 3) := hk3_v414
            have zq3_v414 := congrArg Int32.toInt hq3_v414
            have hq4_v414 : v414 4 = (v 4) := hk4_v414.trans hq4_v383
            have zq4_v414 := congrArg Int32.toInt hq4_v414
            have hq5_v414 : v414 5 = (v383 5) := hk5_v414
            have zq5_v414 := congrArg Int32.toInt hq5_v414
            have hq8_v414 : v414 8 = (v 8) := hk8_v414.trans hq8_v383
            have zq8_v414 := congrArg Int32.toInt hq8_v414
            have hq9_v414 : v414 9 = (v 9) := hk9_v414.trans hq9_v383
            have zq9_v414 := congrArg Int32.toInt hq9_v414
            have hq10_v414 : v414 10 = (v 10) := hk10_v414.trans hq10_v383
            have zq10_v414 := congrArg Int32.toInt hq10_v414
            have hq13_v414 : v414 13 = (v 13) := hk13_v414.trans hq13_v383
            have zq13_v414 := congrArg Int32.toInt hq13_v414
            have hq14_v414 : v414 14 = (v 14) := hk14_v414.trans hq14_v383
            have zq14_v414 := congrArg Int32.toInt hq14_v414
            have hq15_v414 : v414 15 = (v 15) := hk15_v414.trans hq15_v383
            have zq15_v414 := congrArg Int32.toInt hq15_v414
            have hq17_v414 : v414 17 = (v 17) := hk17_v414.trans hq17_v383
            have zq17_v414 := congrArg Int32.toInt hq17_v414
            have hq18_v414 : v414 18 = (v383 18) := hk18_v414
            have zq18_v414 := congrArg Int32.toInt hq18_v414
            have hq24_v414 : v414 24 = (v 24) := hk24_v414.trans hq24_v383
            have hq25_v414 : v414 25 = (v 25) := hk25_v414.trans hq25_v383
            have hq35_v414 : v414 35 = (v 35) := hk35_v414.trans hq35_v383
            have zq35_v414 := congrArg Int32.toInt hq35_v414
            have hq36_v414 : v414 36 = (v 36) := hk36_v414.trans hq36_v383
            have zq36_v414 := congrArg Int32.toInt hq36_v414
            have hq38_v414 : v414 38 = (v 38) := hk38_v414.trans hq38_v383
            have hq39_v414 : v414 39 = (v 39) := hk39_v414.trans hq39_v383
            refine lv_aload_n hx hb dX11_readLine_295 rfl (lv_at hl 0 rfl) ?_
            refine va_get (D := (dC, dI)) (ci := 11) (v := .int (v414 1)) (C := RX11) (T := TX11) (N := 79) hx hb hts inB_11 hown hE.1 hP 0 rfl rfl 2 (by decide) (hts _ k_1322) (fun _ h9 => h9) rfl dX11_readLine_296 ?_
            have b1_v414 : 0 ≤ (v414 1).toInt ∧ (v414 1).toInt ≤ 4 := YIb.b hIv414.1 1 (by decide)
            refine lv_if_ne (tgt := 306) hx hb dX11_readLine_299 (by decide) (fun c424 => ?_) (fun c424 => ?_)
            · skip
              have zc424 : ¬ ((v414 1).toInt = 0) := by rw [fa_eq, show (0 : Int32).toInt = 0 from by decide] at c424; exact c424
              exact ret (v414, f415, w416, g417) _ _ _ _ _ _ ⟨hIv414, hCf415, hRf415, (hk0_v414.trans hk0_v383), (hk4_v414.trans hk4_v383), (hk9_v414.trans hk9_v383), (hk24_v414.trans hk24_v383), (hk25_v414.trans hk25_v383), (hk35_v414.trans hk35_v383), (hk36_v414.trans hk36_v383), (hk38_v414.trans hk38_v383), (hk39_v414.trans hk39_v383), (by show 0 < (v414 1).toInt ∨ (v 3).toInt < (v414 3).toInt; omega), (by show (v 3).toInt ≤ (v414 3).toInt; omega), (by show (v414 1).toInt = 0 → ¬ (v414 15).toInt = 0 → progOK (f415 2) (f415 3) ((v414 8).toInt).toNat; rw [hs2_f415, hs3_f415]; intro hz8 hz9; first | exact prog_n (hPR (by omega)) (by omega) | exact prog_n (hPF (by omega)) (by omega) | (exfalso; omega))⟩ hP hD hS dX11_readLine_306 (Nat.le_refl _) (Nat.le_refl _)
            · skip
              have zc424 : (v414 1).toInt = 0 := by rw [fa_eq, show (0 : Int32).toInt = 0 from by decide] at c424; exact c424
              refine lv_aload_n hx hb dX11_readLine_302 rfl (lv_at hl 0 rfl) ?_
              refine cbVv (n := 0) (rest := []) hx hb hml hown hts hE hP hD hS hA (sY_X11_token_1 l dC dI cy y0 r  v414 f415 w416 g417 hIv414 hCf415 hRf415 ) k_1579 k_1581 k_42 k_114 k_1582 (by decide +kernel) ⟨Nat.le_of_ble_eq_true rfl, Nat.le_of_ble_eq_true rfl⟩ 0 11 rfl rfl (rfl) hl.1 rfl (Nat.le_of_ble_eq_true rfl) dX11_readLine_303 (fun u H locs hw hP hD hS => ?_)
              obtain ⟨v425, f426, w427, g428⟩ := u
              obtain ⟨hIv425, hCf426, hRf426, hk0_v425, hk1_v425, hk4_v425, hk8_v425, hk9_v425, hk10_v425, hk13_v425, hk14_v425, hk15_v425, hk17_v425, hk18_v425, hk24_v425, hk25_v425, hk35_v425, hk36_v425, hk38_v425, hk39_v425, pv429, pv430, kq431, kq432, kq433⟩ := hw
              have hP : va_P (dC, dI) vwCl (YW cy y0 r v425 f426 w427 g428) H := hP
              have hD : va_D A (YW cy y0 r v425 f426 w427 g428) := hD
              have b3_v425 : 0 ≤ (v425 3).toInt ∧ (v425 3).toInt ≤ 1600 := YIb.b hIv425.1 3 (by decide)
              have pv429 : (v414 3).toInt ≤ (v425 3).toInt := pv429
              have pv430 : (v425 5).toInt = (v414 5).toInt ∨ (v414 3).toInt < (v425 3).toInt ∨ ¬ (v425 5).toInt = 59 := pv430
              have hs2_f426 : f426 2 = (f 2) := kq431.trans hs2_f415
              have hs3_f426 : f426 3 = (f 3) := kq432.trans hs3_f415
              have hs6_f426 : f426 6 = (f 6) := kq433.trans hs6_f415
              have hUv425 : (v425 35).toInt + (v425 36).toInt ≤ 40 := hIv425.2
              have hq0_v425 : v425 0 = (v 0) := hk0_v425.trans hq0_v414
              have hq1_v425 : v425 1 = (v414 1) := hk1_v425
              have zq1_v425 := congrArg Int32.toInt hq1_v425
              have hq4_v425 : v425 4 = (v 4) := hk4_v425.trans hq4_v414
              have zq4_v425 := congrArg Int32.toInt hq4_v425
              have hq8_v425 : v425 8 = (v 8) := hk8_v425.trans hq8_v414
              have zq8_v425 := congrArg Int32.toInt hq8_v425
              have hq9_v425 : v425 9 = (v 9) := hk9_v425.trans hq9_v414
              have zq9_v425 := congrArg Int32.toInt hq9_v425
              have hq10_v425 : v425 10 = (v 10) := hk10_v425.trans hq10_v414
              have zq10_v425 := congrArg Int32.toInt hq10_v425
              have hq13_v425 : v425 13 = (v 13) := hk13_v425.trans hq13_v414
              have zq13_v425 := congrArg Int32.toInt hq13_v425
              have hq14_v425 : v425 14 = (v 14) := hk14_v425.trans hq14_v414
              have zq14_v425 := congrArg Int32.toInt hq14_v425
              have hq15_v425 : v425 15 = (v 15) := hk15_v425.trans hq15_v414
              have zq15_v425 := congrArg Int32.toInt hq15_v425
              have hq17_v425 : v425 17 = (v 17) := hk17_v425.trans hq17_v414
              have zq17_v425 := congrArg Int32.toInt hq17_v425
              have hq18_v425 : v425 18 = (v383 18) := hk18_v425.trans hq18_v414
              have zq18_v425 := congrArg Int32.toInt hq18_v425
              have hq24_v425 : v425 24 = (v 24) := hk24_v425.trans hq24_v414
              have hq25_v425 : v425 25 = (v 25) := hk25_v425.trans hq25_v414
              have hq35_v425 : v425 35 = (v 35) := hk35_v425.trans hq35_v414
              have zq35_v425 := congrArg Int32.toInt hq35_v425
              have hq36_v425 : v425 36 = (v 36) := hk36_v425.trans hq36_v414
              have zq36_v425 := congrArg Int32.toInt hq36_v425
              have hq38_v425 : v425 38 = (v 38) := hk38_v425.trans hq38_v414
              have hq39_v425 : v425 39 = (v 39) := hk39_v425.trans hq39_v414
              exact ret (v425, f426, w427, g428) _ _ _ _ _ _ ⟨hIv425, hCf426, hRf426, (hk0_v425.trans (hk0_v414.trans hk0_v383)), (hk4_v425.trans (hk4_v414.trans hk4_v383)), (hk9_v425.trans (hk9_v414.trans hk9_v383)), (hk24_v425.trans (hk24_v414.trans hk24_v383)), (hk25_v425.trans (hk25_v414.trans hk25_v383)), (hk35_v425.trans (hk35_v414.trans hk35_v383)), (hk36_v425.trans (hk36_v414.trans hk36_v383)), (hk38_v425.trans (hk38_v414.trans hk38_v383)), (hk39_v425.trans (hk39_v414.trans hk39_v383)), (by show 0 < (v425 1).toInt ∨ (v 3).toInt < (v425 3).toInt; omega), (by show (v 3).toInt ≤ (v425 3).toInt; omega), (by show (v425 1).toInt = 0 → ¬ (v425 15).toInt = 0 → progOK (f426 2) (f426 3) ((v425 8).toInt).toNat; rw [hs2_f426, hs3_f426]; intro hz8 hz9; first | exact prog_n (hPR (by omega)) (by omega) | exact prog_n (hPF (by omega)) (by omega) | (exfalso; omega))⟩ hP hD hS dX11_readLine_306 (Nat.le_refl _) (Nat.le_refl _)
    · skip
      subst g381
      refine lv_if_eq (tgt := 52) hx hb dX11_readLine_33 (by decide) (fun _ => ?_) (fun c0 => absurd (by decide) c0)
      exact jp52 _ _ _ hP hD hS hl
  refine lv_aload_n hx hb dX11_readLine_0 rfl (lv_at hl 0 rfl) ?_
  refine lv_ldc2 (v := 7168366) hx hb hown (hts _ k_1600) dX11_readLine_1 ?_
  refine cbVi (n := 1) (rest := []) hx hb hml hown hts hE hP hD hS hA (sY_X11_isWord_1 l dC dI cy y0 r 7168366 v f w g hIv hCf hRf ) k_1601 k_1603 k_45 k_114 k_1604 (by decide +kernel) ⟨Nat.le_of_ble_eq_true rfl, Nat.le_of_ble_eq_true rfl⟩ 0 11 rfl rfl (rfl) hl.1 rfl (Nat.le_of_ble_eq_true rfl) dX11_readLine_4 (fun r434 u H locs hw hP hD hS => ?_)
  rcases hw with ⟨g435, g435_0⟩ | ⟨g435⟩
  · skip
    subst g435
    refine lv_if_eq (tgt := 26) hx hb dX11_readLine_7 (by decide) (fun c0 => absurd c0 (by decide)) (fun _ => ?_)
    refine lv_aload_n hx hb dX11_readLine_10 rfl (lv_at hl 0 rfl) ?_
    refine va_get (D := (dC, dI)) (ci := 11) (v := .int (v 17)) (C := RX11) (T := TX11) (N := 79) hx hb hts inB_11 hown hE.1 hP 0 rfl rfl 41 (by decide) (hts _ k_1361) (fun _ h9 => h9) rfl dX11_readLine_11 ?_
    have b17_v : 0 ≤ (v 17).toInt ∧ (v 17).toInt ≤ 6 := YIb.b hIv.1 17 (by decide)
    refine lv_bipush (v := 6) hx hb dX11_readLine_14 (by decide) ?_
    refine lv_icmp_ge (tgt := 26) hx hb dX11_readLine_16 (by decide) (fun c436 => ?_) (fun c436 => ?_)
    · skip
      have zc436 : 6 ≤ (v 17).toInt := by rw [fa_le, show (6 : Int32).toInt = 6 from by decide] at c436; exact c436
      exact jp26 _ _ _ hP hD hS hl
    · skip
      have zc436 : ¬ (6 ≤ (v 17).toInt) := by rw [fa_le, show (6 : Int32).toInt = 6 from by decide] at c436; exact c436
      refine lv_aload_n hx hb dX11_readLine_19 rfl (lv_at hl 0 rfl) ?_
      refine cbVv (n := 0) (rest := []) hx hb hml hown hts hE hP hD hS hA (sY_X11_readMan_1 l dC dI cy y0 r  v f w g hIv hCf hRf (by show (v 17).toInt ≤ 5; omega)) k_1605 k_1607 k_46 k_114 k_1608 (by decide +kernel) ⟨Nat.le_of_ble_eq_true rfl, Nat.le_of_ble_eq_true rfl⟩ 0 11 rfl rfl (rfl) hl.1 rfl (Nat.le_of_ble_eq_true rfl) dX11_readLine_20 (fun u H locs hw hP hD hS => ?_)
      obtain ⟨v437, f438, w439, g440⟩ := u
      obtain ⟨hIv437, hCf438, hRf438, hk0_v437, hk4_v437, hk8_v437, hk9_v437, hk10_v437, hk13_v437, hk14_v437, hk15_v437, hk18_v437, hk24_v437, hk25_v437, hk35_v437, hk36_v437, hk38_v437, hk39_v437, pv441, pv442, kq443, kq444, kq445⟩ := hw
      have hP : va_P (dC, dI) vwCl (YW cy y0 r v437 f438 w439 g440) H := hP
      have hD : va_D A (YW cy y0 r v437 f438 w439 g440) := hD
      have b3_v437 : 0 ≤ (v437 3).toInt ∧ (v437 3).toInt ≤ 1600 := YIb.b hIv437.1 3 (by decide)
      have pv441 : (v 3).toInt ≤ (v437 3).toInt := pv441
      have pv442 : (v437 5).toInt = (v 5).toInt ∨ (v 3).toInt < (v437 3).toInt ∨ ¬ (v437 5).toInt = 59 := pv442
      have hs2_f438 : f438 2 = (f 2) := kq443
      have hs3_f438 : f438 3 = (f 3) := kq444
      have hs6_f438 : f438 6 = (f 6) := kq445
      have hUv437 : (v437 35).toInt + (v437 36).toInt ≤ 40 := hIv437.2
      have hq0_v437 : v437 0 = (v 0) := hk0_v437
      have hq4_v437 : v437 4 = (v 4) := hk4_v437
      have zq4_v437 := congrArg Int32.toInt hq4_v437
      have hq8_v437 : v437 8 = (v 8) := hk8_v437
      have zq8_v437 := congrArg Int32.toInt hq8_v437
      have hq9_v437 : v437 9 = (v 9) := hk9_v437
      have zq9_v437 := congrArg Int32.toInt hq9_v437
      have hq10_v437 : v437 10 = (v 10) := hk10_v437
      have zq10_v437 := congrArg Int32.toInt hq10_v437
      have hq13_v437 : v437 13 = (v 13) := hk13_v437
      have zq13_v437 := congrArg Int32.toInt hq13_v437
      have hq14_v437 : v437 14 = (v 14) := hk14_v437
      have zq14_v437 := congrArg Int32.toInt hq14_v437
      have hq15_v437 : v437 15 = (v 15) := hk15_v437
      have zq15_v437 := congrArg Int32.toInt hq15_v437
      have hq18_v437 : v437 18 = (v 18) := hk18_v437
      have zq18_v437 := congrArg Int32.toInt hq18_v437
      have hq24_v437 : v437 24 = (v 24) := hk24_v437
      have hq25_v437 : v437 25 = (v 25) := hk25_v437
      have hq35_v437 : v437 35 = (v 35) := hk35_v437
      have zq35_v437 := congrArg Int32.toInt hq35_v437
      have hq36_v437 : v437 36 = (v 36) := hk36_v437
      have zq36_v437 := congrArg Int32.toInt hq36_v437
      have hq38_v437 : v437 38 = (v 38) := hk38_v437
      have hq39_v437 : v437 39 = (v 39) := hk39_v437
      refine lv_goto (tgt := 274) hx hb dX11_readLine_23 (by decide) ?_
      refine lv_aload_n hx hb dX11_readLine_274 rfl (lv_at hl 0 rfl) ?_
      refine va_get (D := (dC, dI)) (ci := 11) (v := .int (v437 1)) (C := RX11) (T := TX11) (N := 79) hx hb hts inB_11 hown hE.1 hP 0 rfl rfl 2 (by decide) (hts _ k_1322) (fun _ h9 => h9) rfl dX11_readLine_275 ?_
      have b1_v437 : 0 ≤ (v437 1).toInt ∧ (v437 1).toInt ≤ 4 := YIb.b hIv437.1 1 (by decide)
      refine lv_if_ne (tgt := 295) hx hb dX11_readLine_278 (by decide) (fun c446 => ?_) (fun c446 => ?_)
      · skip
        have zc446 : ¬ ((v437 1).toInt = 0) := by rw [fa_eq, show (0 : Int32).toInt = 0 from by decide] at c446; exact c446
        refine lv_aload_n hx hb dX11_readLine_295 rfl (lv_at hl 0 rfl) ?_
        refine va_get (D := (dC, dI)) (ci := 11) (v := .int (v437 1)) (C := RX11) (T := TX11) (N := 79) hx hb hts inB_11 hown hE.1 hP 0 rfl rfl 2 (by decide) (hts _ k_1322) (fun _ h9 => h9) rfl dX11_readLine_296 ?_
        refine lv_if_ne (tgt := 306) hx hb dX11_readLine_299 (by decide) (fun c447 => ?_) (fun c447 => ?_)
        · skip
          have zc447 : ¬ ((v437 1).toInt = 0) := by rw [fa_eq, show (0 : Int32).toInt = 0 from by decide] at c447; exact c447
          exact ret (v437, f438, w439, g440) _ _ _ _ _ _ ⟨hIv437, hCf438, hRf438, hk0_v437, hk4_v437, hk9_v437, hk24_v437, hk25_v437, hk35_v437, hk36_v437, hk38_v437, hk39_v437, (by show 0 < (v437 1).toInt ∨ (v 3).toInt < (v437 3).toInt; omega), (by show (v 3).toInt ≤ (v437 3).toInt; omega), (by show (v437 1).toInt = 0 → ¬ (v437 15).toInt = 0 → progOK (f438 2) (f438 3) ((v437 8).toInt).toNat; rw [hs2_f438, hs3_f438]; intro hz8 hz9; first | exact prog_n (hPR (by omega)) (by omega) | exact prog_n (hPF (by omega)) (by omega) | (exfalso; omega))⟩ hP hD hS dX11_readLine_306 (Nat.le_refl _) (Nat.le_refl _)
        · skip
          have zc447 : (v437 1).toInt = 0 := by rw [fa_eq, show (0 : Int32).toInt = 0 from by decide] at c447; exact c447
          refine lv_aload_n hx hb dX11_readLine_302 rfl (lv_at hl 0 rfl) ?_
          refine cbVv (n := 0) (rest := []) hx hb hml hown hts hE hP hD hS hA (sY_X11_token_1 l dC dI cy y0 r  v437 f438 w439 g440 hIv437 hCf438 hRf438 ) k_1579 k_1581 k_42 k_114 k_1582 (by decide +kernel) ⟨Nat.le_of_ble_eq_true rfl, Nat.le_of_ble_eq_true rfl⟩ 0 11 rfl rfl (rfl) hl.1 rfl (Nat.le_of_ble_eq_true rfl) dX11_readLine_303 (fun u H locs hw hP hD hS => ?_)
          obtain ⟨v448, f449, w450, g451⟩ := u
          obtain ⟨hIv448, hCf449, hRf449, hk0_v448, hk1_v448, hk4_v448, hk8_v448, hk9_v448, hk10_v448, hk13_v448, hk14_v448, hk15_v448, hk17_v448, hk18_v448, hk24_v448, hk25_v448, hk35_v448, hk36_v448, hk38_v448, hk39_v448, pv452, pv453, kq454, kq455, kq456⟩ := hw
          have hP : va_P (dC, dI) vwCl (YW cy y0 r v448 f449 w450 g451) H := hP
          have hD : va_D A (YW cy y0 r v448 f449 w450 g451) := hD
          have b3_v448 : 0 ≤ (v448 3).toInt ∧ (v448 3).toInt ≤ 1600 := YIb.b hIv448.1 3 (by decide)
          have pv452 : (v437 3).toInt ≤ (v448 3).toInt := pv452
          have pv453 : (v448 5).toInt = (v437 5).toInt ∨ (v437 3).toInt < (v448 3).toInt ∨ ¬ (v448 5).toInt = 59 := pv453
          have hs2_f449 : f449 2 = (f 2) := kq454.trans hs2_f438
          have hs3_f449 : f449 3 = (f 3) := kq455.trans hs3_f438
          have hs6_f449 : f449 6 = (f 6) := kq456.trans hs6_f438
          have hUv448 : (v448 35).toInt + (v448 36).toInt ≤ 40 := hIv448.2
          have hq0_v448 : v448 0 = (v 0) := hk0_v448.trans hq0_v437
          have hq1_v448 : v448 1 = (v437 1) := hk1_v448
          have zq1_v448 := congrArg Int32.toInt hq1_v448
          have hq4_v448 : v448 4 = (v 4) := hk4_v448.trans hq4_v437
          have zq4_v448 := congrArg Int32.toInt hq4_v448
          have hq8_v448 : v448 8 = (v 8) := hk8_v448.trans hq8_v437
          have zq8_v448 := congrArg Int32.toInt hq8_v448
          have hq9_v448 : v448 9 = (v 9) := hk9_v448.trans hq9_v437
          have zq9_v448 := congrArg Int32.toInt hq9_v448
          have hq10_v448 : v448 10 = (v 10) := hk10_v448.trans hq10_v437
          have zq10_v448 := congrArg Int32.toInt hq10_v448
          have hq13_v448 : v448 13 = (v 13) := hk13_v448.trans hq13_v437
          have zq13_v448 := congrArg Int32.toInt hq13_v448
          have hq14_v448 : v448 14 = (v 14) := hk14_v448.trans hq14_v437
          have zq14_v448 := congrArg Int32.toInt hq14_v448
          have hq15_v448 : v448 15 = (v 15) := hk15_v448.trans hq15_v437
          have zq15_v448 := congrArg Int32.toInt hq15_v448
          have hq17_v448 : v448 17 = (v437 17) := hk17_v448
          have zq17_v448 := congrArg Int32.toInt hq17_v448
          have hq18_v448 : v448 18 = (v 18) := hk18_v448.trans hq18_v437
          have zq18_v448 := congrArg Int32.toInt hq18_v448
          have hq24_v448 : v448 24 = (v 24) := hk24_v448.trans hq24_v437
          have hq25_v448 : v448 25 = (v 25) := hk25_v448.trans hq25_v437
          have hq35_v448 : v448 35 = (v 35) := hk35_v448.trans hq35_v437
          have zq35_v448 := congrArg Int32.toInt hq35_v448
          have hq36_v448 : v448 36 = (v 36) := hk36_v448.trans hq36_v437
          have zq36_v448 := congrArg Int32.toInt hq36_v448
          have hq38_v448 : v448 38 = (v 38) := hk38_v448.trans hq38_v437
          have hq39_v448 : v448 39 = (v 39) := hk39_v448.trans hq39_v437
          exact ret (v448, f449, w450, g451) _ _ _ _ _ _ ⟨hIv448, hCf449, hRf449, (hk0_v448.trans hk0_v437), (hk4_v448.trans hk4_v437), (hk9_v448.trans hk9_v437), (hk24_v448.trans hk24_v437), (hk25_v448.trans hk25_v437), (hk35_v448.trans hk35_v437), (hk36_v448.trans hk36_v437), (hk38_v448.trans hk38_v437), (hk39_v448.trans hk39_v437), (by show 0 < (v448 1).toInt ∨ (v 3).toInt < (v448 3).toInt; omega), (by show (v 3).toInt ≤ (v448 3).toInt; omega), (by show (v448 1).toInt = 0 → ¬ (v448 15).toInt = 0 → progOK (f449 2) (f449 3) ((v448 8).toInt).toNat; rw [hs2_f449, hs3_f449]; intro hz8 hz9; first | exact prog_n (hPR (by omega)) (by omega) | exact prog_n (hPF (by omega)) (by omega) | (exfalso; omega))⟩ hP hD hS dX11_readLine_306 (Nat.le_refl _) (Nat.le_refl _)
      · skip
        have zc446 : (v437 1).toInt = 0 := by rw [fa_eq, show (0 : Int32).toInt = 0 from by decide] at c446; exact c446
        refine lv_aload_n hx hb dX11_readLine_281 rfl (lv_at hl 0 rfl) ?_
        refine va_get (D := (dC, dI)) (ci := 11) (v := .int (v437 5)) (C := RX11) (T := TX11) (N := 79) hx hb hts inB_11 hown hE.1 hP 0 rfl rfl 6 (by decide) (hts _ k_1326) (fun _ h9 => h9) rfl dX11_readLine_282 ?_
        refine lv_bipush (v := 59) hx hb dX11_readLine_285 (by decide) ?_
        refine lv_icmp_eq (tgt := 295) hx hb dX11_readLine_287 (by decide) (fun c457 => ?_) (fun c457 => ?_)
        · skip
          have zc457 : (v437 5).toInt = 59 := by rw [fa_eq, show (59 : Int32).toInt = 59 from by decide] at c457; exact c457
          refine lv_aload_n hx hb dX11_readLine_295 rfl (lv_at hl 0 rfl) ?_
          refine va_get (D := (dC, dI)) (ci := 11) (v := .int (v437 1)) (C := RX11) (T := TX11) (N := 79) hx hb hts inB_11 hown hE.1 hP 0 rfl rfl 2 (by decide) (hts _ k_1322) (fun _ h9 => h9) rfl dX11_readLine_296 ?_
          refine lv_if_ne (tgt := 306) hx hb dX11_readLine_299 (by decide) (fun c458 => ?_) (fun c458 => ?_)
          · skip
            have zc458 : ¬ ((v437 1).toInt = 0) := by rw [fa_eq, show (0 : Int32).toInt = 0 from by decide] at c458; exact c458
            exact ret (v437, f438, w439, g440) _ _ _ _ _ _ ⟨hIv437, hCf438, hRf438, hk0_v437, hk4_v437, hk9_v437, hk24_v437, hk25_v437, hk35_v437, hk36_v437, hk38_v437, hk39_v437, (by show 0 < (v437 1).toInt ∨ (v 3).toInt < (v437 3).toInt; omega), (by show (v 3).toInt ≤ (v437 3).toInt; omega), (by show (v437 1).toInt = 0 → ¬ (v437 15).toInt = 0 → progOK (f438 2) (f438 3) ((v437 8).toInt).toNat; rw [hs2_f438, hs3_f438]; intro hz8 hz9; first | exact prog_n (hPR (by omega)) (by omega) | exact prog_n (hPF (by omega)) (by omega) | (exfalso; omega))⟩ hP hD hS dX11_readLine_306 (Nat.le_refl _) (Nat.le_refl _)
          · skip
            have zc458 : (v437 1).toInt = 0 := by rw [fa_eq, show (0 : Int32).toInt = 0 from by decide] at c458; exact c458
            refine lv_aload_n hx hb dX11_readLine_302 rfl (lv_at hl 0 rfl) ?_
            refine cbVv (n := 0) (rest := []) hx hb hml hown hts hE hP hD hS hA (sY_X11_token_1 l dC dI cy y0 r  v437 f438 w439 g440 hIv437 hCf438 hRf438 ) k_1579 k_1581 k_42 k_114 k_1582 (by decide +kernel) ⟨Nat.le_of_ble_eq_true rfl, Nat.le_of_ble_eq_true rfl⟩ 0 11 rfl rfl (rfl) hl.1 rfl (Nat.le_of_ble_eq_true rfl) dX11_readLine_303 (fun u H locs hw hP hD hS => ?_)
            obtain ⟨v459, f460, w461, g462⟩ := u
            obtain ⟨hIv459, hCf460, hRf460, hk0_v459, hk1_v459, hk4_v459, hk8_v459, hk9_v459, hk10_v459, hk13_v459, hk14_v459, hk15_v459, hk17_v459, hk18_v459, hk24_v459, hk25_v459, hk35_v459, hk36_v459, hk38_v459, hk39_v459, pv463, pv464, kq465, kq466, kq467⟩ := hw
            have hP : va_P (dC, dI) vwCl (YW cy y0 r v459 f460 w461 g462) H := hP
            have hD : va_D A (YW cy y0 r v459 f460 w461 g462) := hD
            have b3_v459 : 0 ≤ (v459 3).toInt ∧ (v459 3).toInt ≤ 1600 := YIb.b hIv459.1 3 (by decide)
            have pv463 : (v437 3).toInt ≤ (v459 3).toInt := pv463
            have pv464 : (v459 5).toInt = (v437 5).toInt ∨ (v437 3).toInt < (v459 3).toInt ∨ ¬ (v459 5).toInt = 59 := pv464
            have hs2_f460 : f460 2 = (f 2) := kq465.trans hs2_f438
            have hs3_f460 : f460 3 = (f 3) := kq466.trans hs3_f438
            have hs6_f460 : f460 6 = (f 6) := kq467.trans hs6_f438
            have hUv459 : (v459 35).toInt + (v459 36).toInt ≤ 40 := hIv459.2
            have hq0_v459 : v459 0 = (v 0) := hk0_v459.trans hq0_v437
            have hq1_v459 : v459 1 = (v437 1) := hk1_v459
            have zq1_v459 := congrArg Int32.toInt hq1_v459
            have hq4_v459 : v459 4 = (v 4) := hk4_v459.trans hq4_v437
            have zq4_v459 := congrArg Int32.toInt hq4_v459
            have hq8_v459 : v459 8 = (v 8) := hk8_v459.trans hq8_v437
            have zq8_v459 := congrArg Int32.toInt hq8_v459
            have hq9_v459 : v459 9 = (v 9) := hk9_v459.trans hq9_v437
            have zq9_v459 := congrArg Int32.toInt hq9_v459
            have hq10_v459 : v459 10 = (v 10) := hk10_v459.trans hq10_v437
            have zq10_v459 := congrArg Int32.toInt hq10_v459
            have hq13_v459 : v459 13 = (v 13) := hk13_v459.trans hq13_v437
            have zq13_v459 := congrArg Int32.toInt hq13_v459
            have hq14_v459 : v459 14 = (v 14) := hk14_v459.trans hq14_v437
            have zq14_v459 := congrArg Int32.toInt hq14_v459
            have hq15_v459 : v459 15 = (v 15) := hk15_v459.trans hq15_v437
            have zq15_v459 := congrArg Int32.toInt hq15_v459
            have hq17_v459 : v459 17 = (v437 17) := hk17_v459
            have zq17_v459 := congrArg Int32.toInt hq17_v459
            have hq18_v459 : v459 18 = (v 18) := hk18_v459.trans hq18_v437
            have zq18_v459 := congrArg Int32.toInt hq18_v459
            have hq24_v459 : v459 24 = (v 24) := hk24_v459.trans hq24_v437
            have hq25_v459 : v459 25 = (v 25) := hk25_v459.trans hq25_v437
            have hq35_v459 : v459 35 = (v 35) := hk35_v459.trans hq35_v437
            have zq35_v459 := congrArg Int32.toInt hq35_v459
            have hq36_v459 : v459 36 = (v 36) := hk36_v459.trans hq36_v437
            have zq36_v459 := congrArg Int32.toInt hq36_v459
            have hq38_v459 : v459 38 = (v 38) := hk38_v459.trans hq38_v437
            have hq39_v459 : v459 39 = (v 39) := hk39_v459.trans hq39_v437
            exact ret (v459, f460, w461, g462) _ _ _ _ _ _ ⟨hIv459, hCf460, hRf460, (hk0_v459.trans hk0_v437), (hk4_v459.trans hk4_v437), (hk9_v459.trans hk9_v437), (hk24_v459.trans hk24_v437), (hk25_v459.trans hk25_v437), (hk35_v459.trans hk35_v437), (hk36_v459.trans hk36_v437), (hk38_v459.trans hk38_v437), (hk39_v459.trans hk39_v437), (by show 0 < (v459 1).toInt ∨ (v 3).toInt < (v459 3).toInt; omega), (by show (v 3).toInt ≤ (v459 3).toInt; omega), (by show (v459 1).toInt = 0 → ¬ (v459 15).toInt = 0 → progOK (f460 2) (f460 3) ((v459 8).toInt).toNat; rw [hs2_f460, hs3_f460]; intro hz8 hz9; first | exact prog_n (hPR (by omega)) (by omega) | exact prog_n (hPF (by omega)) (by omega) | (exfalso; omega))⟩ hP hD hS dX11_readLine_306 (Nat.le_refl _) (Nat.le_refl _)
        · skip
          have zc457 : ¬ ((v437 5).toInt = 59) := by rw [fa_eq, show (59 : Int32).toInt = 59 from by decide] at c457; exact c457
          refine lv_aload_n hx hb dX11_readLine_290 rfl (lv_at hl 0 rfl) ?_
          refine lv_iconst (v := 2) hx hb dX11_readLine_291 (by decide) ?_
          refine cbVv (n := 1) (rest := []) hx hb hml hown hts hE hP hD hS hA (sY_X11_wrong_1 l dC dI cy y0 r 2 v437 f438 w439 g440 hIv437 hCf438 hRf438 ⟨by decide, by decide⟩) k_1641 k_1643 k_50 k_114 k_1644 (by decide +kernel) ⟨Nat.le_of_ble_eq_true rfl, Nat.le_of_ble_eq_true rfl⟩ 0 11 rfl rfl (rfl) hl.1 rfl (Nat.le_of_ble_eq_true rfl) dX11_readLine_292 (fun u H locs hw hP hD hS => ?_)
          obtain ⟨v468, f469, w470, g471⟩ := u
          obtain ⟨hIv468, hCf469, hRf469, hk0_v468, hk3_v468, hk4_v468, hk5_v468, hk8_v468, hk9_v468, hk10_v468, hk13_v468, hk14_v468, hk15_v468, hk17_v468, hk18_v468, hk24_v468, hk25_v468, hk35_v468, hk36_v468, hk38_v468, hk39_v468, pv472, pv473, pv474, kq475, kq476, kq477⟩ := hw
          have hP : va_P (dC, dI) vwCl (YW cy y0 r v468 f469 w470 g471) H := hP
          have hD : va_D A (YW cy y0 r v468 f469 w470 g471) := hD
          have b3_v468 : 0 ≤ (v468 3).toInt ∧ (v468 3).toInt ≤ 1600 := YIb.b hIv468.1 3 (by decide)
          have b1_v468 : 0 ≤ (v468 1).toInt ∧ (v468 1).toInt ≤ 4 := YIb.b hIv468.1 1 (by decide)
          have pv472 : (v437 3).toInt ≤ (v468 3).toInt := pv472
          have pv473 : (v468 5).toInt = (v437 5).toInt ∨ (v437 3).toInt < (v468 3).toInt ∨ ¬ (v468 5).toInt = 59 := pv473
          have pv474 : 0 < (v468 1).toInt := pv474
          have hs2_f469 : f469 2 = (f 2) := kq475.trans hs2_f438
          have hs3_f469 : f469 3 = (f 3) := kq476.trans hs3_f438
          have hs6_f469 : f469 6 = (f 6) := kq477.trans hs6_f438
          have hUv468 : (v468 35).toInt + (v468 36).toInt ≤ 40 := hIv468.2
          have hq0_v468 : v468 0 = (v 0) := hk0_v468.trans hq0_v437
          have hq3_v468 : v468 3 = (v437 3) := hk3_v468
          have zq3_v468 := congrArg Int32.toInt hq3_v468
          have hq4_v468 : v468 4 = (v 4) := hk4_v468.trans hq4_v437
          have zq4_v468 := congrArg Int32.toInt hq4_v468
          have hq5_v468 : v468 5 = (v437 5) := hk5_v468
          have zq5_v468 := congrArg Int32.toInt hq5_v468
          have hq8_v468 : v468 8 = (v 8) := hk8_v468.trans hq8_v437
          have zq8_v468 := congrArg Int32.toInt hq8_v468
          have hq9_v468 : v468 9 = (v 9) := hk9_v468.trans hq9_v437
          have zq9_v468 := congrArg Int32.toInt hq9_v468
          have hq10_v468 : v468 10 = (v 10) := hk10_v468.trans hq10_v437
          have zq10_v468 := congrArg Int32.toInt hq10_v468
          have hq13_v468 : v468 13 = (v 13) := hk13_v468.trans hq13_v437
          have zq13_v468 := congrArg Int32.toInt hq13_v468
          have hq14_v468 : v468 14 = (v 14) := hk14_v468.trans hq14_v437
          have zq14_v468 := congrArg Int32.toInt hq14_v468
          have hq15_v468 : v468 15 = (v 15) := hk15_v468.trans hq15_v437
          have zq15_v468 := congrArg Int32.toInt hq15_v468
          have hq17_v468 : v468 17 = (v437 17) := hk17_v468
          have zq17_v468 := congrArg Int32.toInt hq17_v468
          have hq18_v468 : v468 18 = (v 18) := hk18_v468.trans hq18_v437
          have zq18_v468 := congrArg Int32.toInt hq18_v468
          have hq24_v468 : v468 24 = (v 24) := hk24_v468.trans hq24_v437
          have hq25_v468 : v468 25 = (v 25) := hk25_v468.trans hq25_v437
          have hq35_v468 : v468 35 = (v 35) := hk35_v468.trans hq35_v437
          have zq35_v468 := congrArg Int32.toInt hq35_v468
          have hq36_v468 : v468 36 = (v 36) := hk36_v468.trans hq36_v437
          have zq36_v468 := congrArg Int32.toInt hq36_v468
          have hq38_v468 : v468 38 = (v 38) := hk38_v468.trans hq38_v437
          have hq39_v468 : v468 39 = (v 39) := hk39_v468.trans hq39_v437
          refine lv_aload_n hx hb dX11_readLine_295 rfl (lv_at hl 0 rfl) ?_
          refine va_get (D := (dC, dI)) (ci := 11) (v := .int (v468 1)) (C := RX11) (T := TX11) (N := 79) hx hb hts inB_11 hown hE.1 hP 0 rfl rfl 2 (by decide) (hts _ k_1322) (fun _ h9 => h9) rfl dX11_readLine_296 ?_
          have b1_v468 : 0 ≤ (v468 1).toInt ∧ (v468 1).toInt ≤ 4 := YIb.b hIv468.1 1 (by decide)
          refine lv_if_ne (tgt := 306) hx hb dX11_readLine_299 (by decide) (fun c478 => ?_) (fun c478 => ?_)
          · skip
            have zc478 : ¬ ((v468 1).toInt = 0) := by rw [fa_eq, show (0 : Int32).toInt = 0 from by decide] at c478; exact c478
            exact ret (v468, f469, w470, g471) _ _ _ _ _ _ ⟨hIv468, hCf469, hRf469, (hk0_v468.trans hk0_v437), (hk4_v468.trans hk4_v437), (hk9_v468.trans hk9_v437), (hk24_v468.trans hk24_v437), (hk25_v468.trans hk25_v437), (hk35_v468.trans hk35_v437), (hk36_v468.trans hk36_v437), (hk38_v468.trans hk38_v437), (hk39_v468.trans hk39_v437), (by show 0 < (v468 1).toInt ∨ (v 3).toInt < (v468 3).toInt; omega), (by show (v 3).toInt ≤ (v468 3).toInt; omega), (by show (v468 1).toInt = 0 → ¬ (v468 15).toInt = 0 → progOK (f469 2) (f469 3) ((v468 8).toInt).toNat; rw [hs2_f469, hs3_f469]; intro hz8 hz9; first | exact prog_n (hPR (by omega)) (by omega) | exact prog_n (hPF (by omega)) (by omega) | (exfalso; omega))⟩ hP hD hS dX11_readLine_306 (Nat.le_refl _) (Nat.le_refl _)
          · skip
            have zc478 : (v468 1).toInt = 0 := by rw [fa_eq, show (0 : Int32).toInt = 0 from by decide] at c478; exact c478
            refine lv_aload_n hx hb dX11_readLine_302 rfl (lv_at hl 0 rfl) ?_
            refine cbVv (n := 0) (rest := []) hx hb hml hown hts hE hP hD hS hA (sY_X11_token_1 l dC dI cy y0 r  v468 f469 w470 g471 hIv468 hCf469 hRf469 ) k_1579 k_1581 k_42 k_114 k_1582 (by decide +kernel) ⟨Nat.le_of_ble_eq_true rfl, Nat.le_of_ble_eq_true rfl⟩ 0 11 rfl rfl (rfl) hl.1 rfl (Nat.le_of_ble_eq_true rfl) dX11_readLine_303 (fun u H locs hw hP hD hS => ?_)
            obtain ⟨v479, f480, w481, g482⟩ := u
            obtain ⟨hIv479, hCf480, hRf480, hk0_v479, hk1_v479, hk4_v479, hk8_v479, hk9_v479, hk10_v479, hk13_v479, hk14_v479, hk15_v479, hk17_v479, hk18_v479, hk24_v479, hk25_v479, hk35_v479, hk36_v479, hk38_v479, hk39_v479, pv483, pv484, kq485, kq486, kq487⟩ := hw
            have hP : va_P (dC, dI) vwCl (YW cy y0 r v479 f480 w481 g482) H := hP
            have hD : va_D A (YW cy y0 r v479 f480 w481 g482) := hD
            have b3_v479 : 0 ≤ (v479 3).toInt ∧ (v479 3).toInt ≤ 1600 := YIb.b hIv479.1 3 (by decide)
            have pv483 : (v468 3).toInt ≤ (v479 3).toInt := pv483
            have pv484 : (v479 5).toInt = (v468 5).toInt ∨ (v468 3).toInt < (v479 3).toInt ∨ ¬ (v479 5).toInt = 59 := pv484
            have hs2_f480 : f480 2 = (f 2) := kq485.trans hs2_f469
            have hs3_f480 : f480 3 = (f 3) := kq486.trans hs3_f469
            have hs6_f480 : f480 6 = (f 6) := kq487.trans hs6_f469
            have hUv479 : (v479 35).toInt + (v479 36).toInt ≤ 40 := hIv479.2
            have hq0_v479 : v479 0 = (v 0) := hk0_v479.trans hq0_v468
            have hq1_v479 : v479 1 = (v468 1) := hk1_v479
            have zq1_v479 := congrArg Int32.toInt hq1_v479
            have hq4_v479 : v479 4 = (v 4) := hk4_v479.trans hq4_v468
            have zq4_v479 := congrArg Int32.toInt hq4_v479
            have hq8_v479 : v479 8 = (v 8) := hk8_v479.trans hq8_v468
            have zq8_v479 := congrArg Int32.toInt hq8_v479
            have hq9_v479 : v479 9 = (v 9) := hk9_v479.trans hq9_v468
            have zq9_v479 := congrArg Int32.toInt hq9_v479
            have hq10_v479 : v479 10 = (v 10) := hk10_v479.trans hq10_v468
            have zq10_v479 := congrArg Int32.toInt hq10_v479
            have hq13_v479 : v479 13 = (v 13) := hk13_v479.trans hq13_v468
            have zq13_v479 := congrArg Int32.toInt hq13_v479
            have hq14_v479 : v479 14 = (v 14) := hk14_v479.trans hq14_v468
            have zq14_v479 := congrArg Int32.toInt hq14_v479
            have hq15_v479 : v479 15 = (v 15) := hk15_v479.trans hq15_v468
            have zq15_v479 := congrArg Int32.toInt hq15_v479
            have hq17_v479 : v479 17 = (v437 17) := hk17_v479.trans hq17_v468
            have zq17_v479 := congrArg Int32.toInt hq17_v479
            have hq18_v479 : v479 18 = (v 18) := hk18_v479.trans hq18_v468
            have zq18_v479 := congrArg Int32.toInt hq18_v479
            have hq24_v479 : v479 24 = (v 24) := hk24_v479.trans hq24_v468
            have hq25_v479 : v479 25 = (v 25) := hk25_v479.trans hq25_v468
            have hq35_v479 : v479 35 = (v 35) := hk35_v479.trans hq35_v468
            have zq35_v479 := congrArg Int32.toInt hq35_v479
            have hq36_v479 : v479 36 = (v 36) := hk36_v479.trans hq36_v468
            have zq36_v479 := congrArg Int32.toInt hq36_v479
            have hq38_v479 : v479 38 = (v 38) := hk38_v479.trans hq38_v468
            have hq39_v479 : v479 39 = (v 39) := hk39_v479.trans hq39_v468
            exact ret (v479, f480, w481, g482) _ _ _ _ _ _ ⟨hIv479, hCf480, hRf480, (hk0_v479.trans (hk0_v468.trans hk0_v437)), (hk4_v479.trans (hk4_v468.trans hk4_v437)), (hk9_v479.trans (hk9_v468.trans hk9_v437)), (hk24_v479.trans (hk24_v468.trans hk24_v437)), (hk25_v479.trans (hk25_v468.trans hk25_v437)), (hk35_v479.trans (hk35_v468.trans hk35_v437)), (hk36_v479.trans (hk36_v468.trans hk36_v437)), (hk38_v479.trans (hk38_v468.trans hk38_v437)), (hk39_v479.trans (hk39_v468.trans hk39_v437)), (by show 0 < (v479 1).toInt ∨ (v 3).toInt < (v479 3).toInt; omega), (by show (v 3).toInt ≤ (v479 3).toInt; omega), (by show (v479 1).toInt = 0 → ¬ (v479 15).toInt = 0 → progOK (f480 2) (f480 3) ((v479 8).toInt).toNat; rw [hs2_f480, hs3_f480]; intro hz8 hz9; first | exact prog_n (hPR (by omega)) (by omega) | exact prog_n (hPF (by omega)) (by omega) | (exfalso; omega))⟩ hP hD hS dX11_readLine_306 (Nat.le_refl _) (Nat.le_refl _)
  · skip
    subst g435
    refine lv_if_eq (tgt := 26) hx hb dX11_readLine_7 (by decide) (fun _ => ?_) (fun c0 => absurd (by decide) c0)
    exact jp26 _ _ _ hP hD hS hl
