set_option maxHeartbeats 4000000 in
set_option maxRecDepth 100000 in
theorem sY_X11_readMan_1 (NF : Nat) (l : Launch) (dC : Nat → ClassId) (dI : Nat → Nat → Nat) (cy : Nat → ClassId) (y0 : Nat) (r : Nat → Nat)  (v : Nat → Int32) (f : Nat → Nat → Int32) (w : Int64) (g : Nat → Int64) (hIv : YI v) (hCf : YC f) (hRf : progOK (f 4) (f 5) (v 9).toInt.toNat)  (hf0 : (v 17).toInt ≤ 5) : ctV l (dC, dI) cy yX11_readMan cX11_readMan 1 6 172 0 0 ((Nat → Int32) × (Nat → Nat → Int32) × (Int64) × (Nat → Int64)) [.ref y0] (YW cy y0 r v f w g) (fun u => gsY_X11_readMan_1 NF v f w g = u ∧ KV [1, 2, 3, 5, 6, 7, 17] u.1 v ∧ KF [9, 10, 11] u.2.1 f ∧ YI u.1 ∧ YC u.2.1 ∧ progOK (u.2.1 4) (u.2.1 5) (u.1 9).toInt.toNat ∧ u.1 0 = v 0 ∧ u.1 4 = v 4 ∧ u.1 8 = v 8 ∧ u.1 9 = v 9 ∧ u.1 10 = v 10 ∧ u.1 13 = v 13 ∧ u.1 14 = v 14 ∧ u.1 15 = v 15 ∧ u.1 18 = v 18 ∧ u.1 24 = v 24 ∧ u.1 25 = v 25 ∧ u.1 35 = v 35 ∧ u.1 36 = v 36 ∧ u.1 38 = v 38 ∧ u.1 39 = v 39 ∧ ((v 3).toInt ≤ (u.1 3).toInt) ∧ ((u.1 5).toInt = (v 5).toInt ∨ (v 3).toInt < (u.1 3).toInt ∨ ¬ (u.1 5).toInt = 59) ∧ u.2.1 2 = f 2 ∧ u.2.1 3 = f 3 ∧ u.2.1 6 = f 6) (fun u => YW cy y0 r u.1 u.2.1 u.2.2.1 u.2.2.2) := by
  refine ctV_of (by decide) (Nat.le_of_ble_eq_true rfl) (fun p e s m below meth c A ls Q hx hb hml hts hown hnm hE hP hD hA hl ret => ?_)
  have hUv : (v 35).toInt + (v 36).toInt ≤ 40 := hIv.2
  have hM_v : KV [1, 2, 3, 5, 6, 7, 17] v v := fun _ _ => rfl
  have hA_f : KF [9, 10, 11] f f := fun _ _ => rfl
  have b0_v : (0 : Int) ≤ (v 0).toInt ∧ (v 0).toInt ≤ 1600 := YIb.b hIv.1 0 (by decide)
  have b1_v : (0 : Int) ≤ (v 1).toInt ∧ (v 1).toInt ≤ 4 := YIb.b hIv.1 1 (by decide)
  have b8_v : (0 : Int) ≤ (v 8).toInt ∧ (v 8).toInt ≤ 320 := YIb.b hIv.1 8 (by decide)
  have b10_v : (0 : Int) ≤ (v 10).toInt ∧ (v 10).toInt ≤ 160 := YIb.b hIv.1 10 (by decide)
  have b13_v : (0 : Int) ≤ (v 13).toInt ∧ (v 13).toInt ≤ 31 := YIb.b hIv.1 13 (by decide)
  have b14_v : (0 : Int) ≤ (v 14).toInt ∧ (v 14).toInt ≤ 8 := YIb.b hIv.1 14 (by decide)
  have b15_v : (0 : Int) ≤ (v 15).toInt ∧ (v 15).toInt ≤ 1 := YIb.b hIv.1 15 (by decide)
  have b17_v : (0 : Int) ≤ (v 17).toInt ∧ (v 17).toInt ≤ 6 := YIb.b hIv.1 17 (by decide)
  have b18_v : (0 : Int) ≤ (v 18).toInt ∧ (v 18).toInt ≤ 6 := YIb.b hIv.1 18 (by decide)
  have hGR : GR (v 3).toInt (v 5).toInt (v 3).toInt (v 5).toInt := GR.refl _ _
  have hown : s.vm.findClass RX11 = some m.cls := hown
  have hS : va_S A s.heap s.heap [] := va_S.rf
  have hl : lv_has ls 1 [(0, .ref y0)] := hl
  refine lv_aload_n hx hb dX11_readMan_0 rfl (lv_at hl 0 rfl) ?_
  refine lv_iconst (v := 0) hx hb dX11_readMan_1 (by decide) ?_
  refine lv_aload_n hx hb dX11_readMan_2 rfl (lv_at hl 0 rfl) ?_
  refine va_get (D := (dC, dI)) (ci := 11) (v := .int (v 17)) (C := RX11) (T := TX11) (N := 79) hx hb hts inB_11 hown hE.1 hP 0 rfl rfl 41 (by decide) (hts _ k_1361) (fun _ h9 => h9) rfl dX11_readMan_3 ?_
  have b17_v : 0 ≤ (v 17).toInt ∧ (v 17).toInt ≤ 6 := YIb.b hIv.1 17 (by decide)
  refine cbVv (n := 2) (rest := []) hx hb hml hown hts hE hP hD hS hA (sY_X11_newName_1 NF l dC dI cy y0 r 0 (v 17) v f w g hIv hCf hRf ⟨by decide, by decide⟩ ⟨show (0 : Int) ≤ (v 17).toInt by omega, show (v 17).toInt ≤ (5 : Int) by omega⟩) k_1609 k_1611 k_47 k_114 k_1612 (by decide +kernel) ⟨Nat.le_of_ble_eq_true rfl, Nat.le_of_ble_eq_true rfl⟩ 0 11 rfl rfl (rfl) hl.1 rfl (Nat.le_of_ble_eq_true rfl) dX11_readMan_6 (fun u H locs hw hP hD hS => ?_)
  obtain ⟨hG1, hw⟩ := hw
  obtain ⟨v2, f3, w4, g5⟩ := u
  obtain ⟨kV_v2, kF_f3, hIv2, hCf3, hRf3, hk0_v2, hk4_v2, hk8_v2, hk9_v2, hk10_v2, hk13_v2, hk14_v2, hk15_v2, hk17_v2, hk18_v2, hk24_v2, hk25_v2, hk35_v2, hk36_v2, hk38_v2, hk39_v2, pv6, pv7, kq8, kq9, kq10⟩ := hw
  have hM_v2 : KV [1, 2, 3, 5, 6, 7, 17] v2 v := KV.tr kV_v2 hM_v rfl
  have hA_f3 : KF [9, 10, 11] f3 f := KF.tr kF_f3 hA_f rfl
  have hP : va_P (dC, dI) vwCl (YW cy y0 r v2 f3 w4 g5) H := hP
  have hD : va_D A (YW cy y0 r v2 f3 w4 g5) := hD
  have b3_v2 : 0 ≤ (v2 3).toInt ∧ (v2 3).toInt ≤ 1600 := YIb.b hIv2.1 3 (by decide)
  have pv6 : (v 3).toInt ≤ (v2 3).toInt := pv6
  have pv7 : (v2 5).toInt = (v 5).toInt ∨ (v 3).toInt < (v2 3).toInt ∨ ¬ (v2 5).toInt = 59 := pv7
  have hs2_f3 : f3 2 = (f 2) := kq8
  have hs3_f3 : f3 3 = (f 3) := kq9
  have hs6_f3 : f3 6 = (f 6) := kq10
  have hUv2 : (v2 35).toInt + (v2 36).toInt ≤ 40 := hIv2.2
  have hq0_v2 : v2 0 = (v 0) := hk0_v2
  have zq0_v2 := congrArg Int32.toInt hq0_v2
  have hq8_v2 : v2 8 = (v 8) := hk8_v2
  have zq8_v2 := congrArg Int32.toInt hq8_v2
  have hq9_v2 : v2 9 = (v 9) := hk9_v2
  have zq9_v2 := congrArg Int32.toInt hq9_v2
  have hq10_v2 : v2 10 = (v 10) := hk10_v2
  have zq10_v2 := congrArg Int32.toInt hq10_v2
  have hq13_v2 : v2 13 = (v 13) := hk13_v2
  have zq13_v2 := congrArg Int32.toInt hq13_v2
  have hq14_v2 : v2 14 = (v 14) := hk14_v2
  have zq14_v2 := congrArg Int32.toInt hq14_v2
  have hq15_v2 : v2 15 = (v 15) := hk15_v2
  have zq15_v2 := congrArg Int32.toInt hq15_v2
  have hq17_v2 : v2 17 = (v 17) := hk17_v2
  have zq17_v2 := congrArg Int32.toInt hq17_v2
  have hq18_v2 : v2 18 = (v 18) := hk18_v2
  have zq18_v2 := congrArg Int32.toInt hq18_v2
  have hGR : GR (v 3).toInt (v 5).toInt (v2 3).toInt (v2 5).toInt := GR.tr hGR (show GR (v 3).toInt (v 5).toInt (v2 3).toInt (v2 5).toInt from ⟨pv6, pv7⟩) (by first | rfl | assumption | omega) (by first | rfl | assumption | omega)
  clear pv7
  refine lv_aload_n hx hb dX11_readMan_9 rfl (lv_at hl 0 rfl) ?_
  refine va_get (D := (dC, dI)) (ci := 11) (v := .ref (r 27)) (C := RX11) (T := TX11) (N := 79) hx hb hts inB_11 hown hE.1 hP 0 rfl rfl 27 (by decide) (hts _ k_1347) (fun _ h9 => h9) rfl dX11_readMan_10 ?_
  refine lv_aload_n hx hb dX11_readMan_13 rfl (lv_at hl 0 rfl) ?_
  refine va_get (D := (dC, dI)) (ci := 11) (v := .int (v2 17)) (C := RX11) (T := TX11) (N := 79) hx hb hts inB_11 hown hE.1 hP 0 rfl rfl 41 (by decide) (hts _ k_1361) (fun _ h9 => h9) rfl dX11_readMan_14 ?_
  refine tI (y := (v 17)) hq17_v2 ?_
  have b17_v : 0 ≤ (v 17).toInt ∧ (v 17).toInt ≤ 6 := YIb.b hIv.1 17 (by decide)
  refine lv_aload_n hx hb dX11_readMan_17 rfl (lv_at hl 0 rfl) ?_
  refine lv_ldc2 (v := 1952541804) hx hb hown (hts _ k_1621) dX11_readMan_18 ?_
  refine lv_bipush (v := 99) hx hb dX11_readMan_21 (by decide) ?_
  refine cbVi (n := 2) (rest := [.int (v 17), .ref (r 27)]) hx hb hml hown hts hE hP hD hS hA (sY_X11_told_1 NF l dC dI cy y0 r 1952541804 99 v2 f3 w4 g5 hIv2 hCf3 hRf3 ) k_1645 k_1647 k_51 k_114 k_1648 (by decide +kernel) ⟨Nat.le_of_ble_eq_true rfl, Nat.le_of_ble_eq_true rfl⟩ 0 11 rfl rfl (rfl) hl.1 rfl (Nat.le_of_ble_eq_true rfl) dX11_readMan_23 (fun r11 u H locs hw hP hD hS => ?_)
  obtain ⟨hG12, hw⟩ := hw
  obtain ⟨v13, f14, w15, g16⟩ := u
  obtain ⟨kV_v13, kF_f14, hIv13, hCf14, hRf14, hk0_v13, hk4_v13, hk8_v13, hk9_v13, hk10_v13, hk13_v13, hk14_v13, hk15_v13, hk17_v13, hk18_v13, hk24_v13, hk25_v13, hk35_v13, hk36_v13, hk38_v13, hk39_v13, pv17, pv18, kq19, kq20, kq21⟩ := hw
  have hM_v13 : KV [1, 2, 3, 5, 6, 7, 17] v13 v := KV.tr kV_v13 hM_v2 rfl
  have hA_f14 : KF [9, 10, 11] f14 f := KF.tr kF_f14 hA_f3 rfl
  have hP : va_P (dC, dI) vwCl (YW cy y0 r v13 f14 w15 g16) H := hP
  have hD : va_D A (YW cy y0 r v13 f14 w15 g16) := hD
  have b3_v13 : 0 ≤ (v13 3).toInt ∧ (v13 3).toInt ≤ 1600 := YIb.b hIv13.1 3 (by decide)
  have pv17 : (v2 3).toInt ≤ (v13 3).toInt := pv17
  have pv18 : (v13 5).toInt = (v2 5).toInt ∨ (v2 3).toInt < (v13 3).toInt ∨ ¬ (v13 5).toInt = 59 := pv18
  have hs2_f14 : f14 2 = (f 2) := kq19.trans hs2_f3
  have hs3_f14 : f14 3 = (f 3) := kq20.trans hs3_f3
  have hs6_f14 : f14 6 = (f 6) := kq21.trans hs6_f3
  have hUv13 : (v13 35).toInt + (v13 36).toInt ≤ 40 := hIv13.2
  have hq0_v13 : v13 0 = (v 0) := hk0_v13.trans hq0_v2
  have zq0_v13 := congrArg Int32.toInt hq0_v13
  try clear zq0_v2
  have hq8_v13 : v13 8 = (v 8) := hk8_v13.trans hq8_v2
  have zq8_v13 := congrArg Int32.toInt hq8_v13
  try clear zq8_v2
  have hq9_v13 : v13 9 = (v 9) := hk9_v13.trans hq9_v2
  have zq9_v13 := congrArg Int32.toInt hq9_v13
  try clear zq9_v2
  have hq10_v13 : v13 10 = (v 10) := hk10_v13.trans hq10_v2
  have zq10_v13 := congrArg Int32.toInt hq10_v13
  try clear zq10_v2
  have hq13_v13 : v13 13 = (v 13) := hk13_v13.trans hq13_v2
  have zq13_v13 := congrArg Int32.toInt hq13_v13
  try clear zq13_v2
  have hq14_v13 : v13 14 = (v 14) := hk14_v13.trans hq14_v2
  have zq14_v13 := congrArg Int32.toInt hq14_v13
  try clear zq14_v2
  have hq15_v13 : v13 15 = (v 15) := hk15_v13.trans hq15_v2
  have zq15_v13 := congrArg Int32.toInt hq15_v13
  try clear zq15_v2
  have hq17_v13 : v13 17 = (v 17) := hk17_v13.trans hq17_v2
  have zq17_v13 := congrArg Int32.toInt hq17_v13
  try clear zq17_v2
  have hq18_v13 : v13 18 = (v 18) := hk18_v13.trans hq18_v2
  have zq18_v13 := congrArg Int32.toInt hq18_v13
  try clear zq18_v2
  have hGR : GR (v 3).toInt (v 5).toInt (v13 3).toInt (v13 5).toInt := GR.tr hGR (show GR (v2 3).toInt (v2 5).toInt (v13 3).toInt (v13 5).toInt from ⟨pv17, pv18⟩) (by first | rfl | assumption | omega) (by first | rfl | assumption | omega)
  clear pv18
  refine stI hx hb hE hP hD hS 10 rfl (vp_in_iff.mpr ⟨by omega, by omega⟩) rfl dX11_readMan_26 (fun H locs hP hD hS => ?_)
  obtain ⟨f22, ef22, hP, hD⟩ : ∃ fz9, fz9 = upd2 f14 9 (upd (f14 9) (v 17).toNatClampNeg r11) ∧ va_P (dC, dI) vwCl (YW cy y0 r v13 fz9 w15 g16) H ∧ va_D A (YW cy y0 r v13 fz9 w15 g16) := ⟨_, rfl, hP, hD⟩
  have hCf22 : YC f22 := by rw [ef22]; exact hCf14
  have hRf22 : progOK (f22 4) (f22 5) (v13 9).toInt.toNat := by rw [ef22]; exact hRf14
  have hs2_f22 : f22 2 = (f 2) := by rw [ef22]; exact hs2_f14
  have hs3_f22 : f22 3 = (f 3) := by rw [ef22]; exact hs3_f14
  have hs6_f22 : f22 6 = (f 6) := by rw [ef22]; exact hs6_f14
  have hA_f22 : KF [9, 10, 11] f22 f := by rw [ef22]; exact KF.up hA_f14 rfl
  refine lv_aload_n hx hb dX11_readMan_27 rfl (lv_at hl 0 rfl) ?_
  refine va_get (D := (dC, dI)) (ci := 11) (v := .ref (r 28)) (C := RX11) (T := TX11) (N := 79) hx hb hts inB_11 hown hE.1 hP 0 rfl rfl 28 (by decide) (hts _ k_1348) (fun _ h9 => h9) rfl dX11_readMan_28 ?_
  refine lv_aload_n hx hb dX11_readMan_31 rfl (lv_at hl 0 rfl) ?_
  refine va_get (D := (dC, dI)) (ci := 11) (v := .int (v13 17)) (C := RX11) (T := TX11) (N := 79) hx hb hts inB_11 hown hE.1 hP 0 rfl rfl 41 (by decide) (hts _ k_1361) (fun _ h9 => h9) rfl dX11_readMan_32 ?_
  refine tI (y := (v 17)) hq17_v13 ?_
  have b17_v : 0 ≤ (v 17).toInt ∧ (v 17).toInt ≤ 6 := YIb.b hIv.1 17 (by decide)
  refine lv_aload_n hx hb dX11_readMan_35 rfl (lv_at hl 0 rfl) ?_
  refine lv_ldc2 (v := 2003395685) hx hb hown (hts _ k_1622) dX11_readMan_36 ?_
  refine lv_bipush (v := 99) hx hb dX11_readMan_39 (by decide) ?_
  refine cbVi (n := 2) (rest := [.int (v 17), .ref (r 28)]) hx hb hml hown hts hE hP hD hS hA (sY_X11_told_1 NF l dC dI cy y0 r 2003395685 99 v13 f22 w15 g16 hIv13 hCf22 hRf22 ) k_1645 k_1647 k_51 k_114 k_1648 (by decide +kernel) ⟨Nat.le_of_ble_eq_true rfl, Nat.le_of_ble_eq_true rfl⟩ 0 11 rfl rfl (rfl) hl.1 rfl (Nat.le_of_ble_eq_true rfl) dX11_readMan_41 (fun r23 u H locs hw hP hD hS => ?_)
  obtain ⟨hG24, hw⟩ := hw
  obtain ⟨v25, f26, w27, g28⟩ := u
  obtain ⟨kV_v25, kF_f26, hIv25, hCf26, hRf26, hk0_v25, hk4_v25, hk8_v25, hk9_v25, hk10_v25, hk13_v25, hk14_v25, hk15_v25, hk17_v25, hk18_v25, hk24_v25, hk25_v25, hk35_v25, hk36_v25, hk38_v25, hk39_v25, pv29, pv30, kq31, kq32, kq33⟩ := hw
  have hM_v25 : KV [1, 2, 3, 5, 6, 7, 17] v25 v := KV.tr kV_v25 hM_v13 rfl
  have hA_f26 : KF [9, 10, 11] f26 f := KF.tr kF_f26 hA_f22 rfl
  have hP : va_P (dC, dI) vwCl (YW cy y0 r v25 f26 w27 g28) H := hP
  have hD : va_D A (YW cy y0 r v25 f26 w27 g28) := hD
  have b3_v25 : 0 ≤ (v25 3).toInt ∧ (v25 3).toInt ≤ 1600 := YIb.b hIv25.1 3 (by decide)
  have pv29 : (v13 3).toInt ≤ (v25 3).toInt := pv29
  have pv30 : (v25 5).toInt = (v13 5).toInt ∨ (v13 3).toInt < (v25 3).toInt ∨ ¬ (v25 5).toInt = 59 := pv30
  have hs2_f26 : f26 2 = (f 2) := kq31.trans hs2_f22
  have hs3_f26 : f26 3 = (f 3) := kq32.trans hs3_f22
  have hs6_f26 : f26 6 = (f 6) := kq33.trans hs6_f22
  have hUv25 : (v25 35).toInt + (v25 36).toInt ≤ 40 := hIv25.2
  have hq0_v25 : v25 0 = (v 0) := hk0_v25.trans hq0_v13
  have zq0_v25 := congrArg Int32.toInt hq0_v25
  try clear zq0_v13
  have hq8_v25 : v25 8 = (v 8) := hk8_v25.trans hq8_v13
  have zq8_v25 := congrArg Int32.toInt hq8_v25
  try clear zq8_v13
  have hq9_v25 : v25 9 = (v 9) := hk9_v25.trans hq9_v13
  have zq9_v25 := congrArg Int32.toInt hq9_v25
  try clear zq9_v13
  have hq10_v25 : v25 10 = (v 10) := hk10_v25.trans hq10_v13
  have zq10_v25 := congrArg Int32.toInt hq10_v25
  try clear zq10_v13
  have hq13_v25 : v25 13 = (v 13) := hk13_v25.trans hq13_v13
  have zq13_v25 := congrArg Int32.toInt hq13_v25
  try clear zq13_v13
  have hq14_v25 : v25 14 = (v 14) := hk14_v25.trans hq14_v13
  have zq14_v25 := congrArg Int32.toInt hq14_v25
  try clear zq14_v13
  have hq15_v25 : v25 15 = (v 15) := hk15_v25.trans hq15_v13
  have zq15_v25 := congrArg Int32.toInt hq15_v25
  try clear zq15_v13
  have hq17_v25 : v25 17 = (v 17) := hk17_v25.trans hq17_v13
  have zq17_v25 := congrArg Int32.toInt hq17_v25
  try clear zq17_v13
  have hq18_v25 : v25 18 = (v 18) := hk18_v25.trans hq18_v13
  have zq18_v25 := congrArg Int32.toInt hq18_v25
  try clear zq18_v13
  have hGR : GR (v 3).toInt (v 5).toInt (v25 3).toInt (v25 5).toInt := GR.tr hGR (show GR (v13 3).toInt (v13 5).toInt (v25 3).toInt (v25 5).toInt from ⟨pv29, pv30⟩) (by first | rfl | assumption | omega) (by first | rfl | assumption | omega)
  clear pv30
  refine stI hx hb hE hP hD hS 11 rfl (vp_in_iff.mpr ⟨by omega, by omega⟩) rfl dX11_readMan_44 (fun H locs hP hD hS => ?_)
  obtain ⟨f34, ef34, hP, hD⟩ : ∃ fz9, fz9 = upd2 f26 10 (upd (f26 10) (v 17).toNatClampNeg r23) ∧ va_P (dC, dI) vwCl (YW cy y0 r v25 fz9 w27 g28) H ∧ va_D A (YW cy y0 r v25 fz9 w27 g28) := ⟨_, rfl, hP, hD⟩
  have hCf34 : YC f34 := by rw [ef34]; exact hCf26
  have hRf34 : progOK (f34 4) (f34 5) (v25 9).toInt.toNat := by rw [ef34]; exact hRf26
  have hs2_f34 : f34 2 = (f 2) := by rw [ef34]; exact hs2_f26
  have hs3_f34 : f34 3 = (f 3) := by rw [ef34]; exact hs3_f26
  have hs6_f34 : f34 6 = (f 6) := by rw [ef34]; exact hs6_f26
  have hA_f34 : KF [9, 10, 11] f34 f := by rw [ef34]; exact KF.up hA_f26 rfl
  refine lv_aload_n hx hb dX11_readMan_45 rfl (lv_at hl 0 rfl) ?_
  refine va_get (D := (dC, dI)) (ci := 11) (v := .ref (r 29)) (C := RX11) (T := TX11) (N := 79) hx hb hts inB_11 hown hE.1 hP 0 rfl rfl 29 (by decide) (hts _ k_1349) (fun _ h9 => h9) rfl dX11_readMan_46 ?_
  refine lv_aload_n hx hb dX11_readMan_49 rfl (lv_at hl 0 rfl) ?_
  refine va_get (D := (dC, dI)) (ci := 11) (v := .int (v25 17)) (C := RX11) (T := TX11) (N := 79) hx hb hts inB_11 hown hE.1 hP 0 rfl rfl 41 (by decide) (hts _ k_1361) (fun _ h9 => h9) rfl dX11_readMan_50 ?_
  refine tI (y := (v 17)) hq17_v25 ?_
  have b17_v : 0 ≤ (v 17).toInt ∧ (v 17).toInt ≤ 6 := YIb.b hIv.1 17 (by decide)
  refine lv_aload_n hx hb dX11_readMan_53 rfl (lv_at hl 0 rfl) ?_
  refine lv_ldc2 (v := 444301539187) hx hb hown (hts _ k_1623) dX11_readMan_54 ?_
  refine lv_bipush (v := 9) hx hb dX11_readMan_57 (by decide) ?_
  refine cbVi (n := 2) (rest := [.int (v 17), .ref (r 29)]) hx hb hml hown hts hE hP hD hS hA (sY_X11_option_1 NF l dC dI cy y0 r 444301539187 9 v25 f34 w27 g28 hIv25 hCf34 hRf34 ) k_1657 k_1659 k_54 k_114 k_1660 (by decide +kernel) ⟨Nat.le_of_ble_eq_true rfl, Nat.le_of_ble_eq_true rfl⟩ 0 11 rfl rfl (rfl) hl.1 rfl (Nat.le_of_ble_eq_true rfl) dX11_readMan_59 (fun r35 u H locs hw hP hD hS => ?_)
  obtain ⟨hG36, hw⟩ := hw
  obtain ⟨v37, f38, w39, g40⟩ := u
  obtain ⟨kV_v37, kF_f38, hIv37, hCf38, hRf38, hk0_v37, hk4_v37, hk8_v37, hk9_v37, hk10_v37, hk13_v37, hk14_v37, hk15_v37, hk17_v37, hk18_v37, hk24_v37, hk25_v37, hk35_v37, hk36_v37, hk38_v37, hk39_v37, pv41, pv42, kq43, kq44, kq45⟩ := hw
  have hM_v37 : KV [1, 2, 3, 5, 6, 7, 17] v37 v := KV.tr kV_v37 hM_v25 rfl
  have hA_f38 : KF [9, 10, 11] f38 f := KF.tr kF_f38 hA_f34 rfl
  have hP : va_P (dC, dI) vwCl (YW cy y0 r v37 f38 w39 g40) H := hP
  have hD : va_D A (YW cy y0 r v37 f38 w39 g40) := hD
  have b3_v37 : 0 ≤ (v37 3).toInt ∧ (v37 3).toInt ≤ 1600 := YIb.b hIv37.1 3 (by decide)
  have pv41 : (v25 3).toInt ≤ (v37 3).toInt := pv41
  have pv42 : (v37 5).toInt = (v25 5).toInt ∨ (v25 3).toInt < (v37 3).toInt ∨ ¬ (v37 5).toInt = 59 := pv42
  have hs2_f38 : f38 2 = (f 2) := kq43.trans hs2_f34
  have hs3_f38 : f38 3 = (f 3) := kq44.trans hs3_f34
  have hs6_f38 : f38 6 = (f 6) := kq45.trans hs6_f34
  have hUv37 : (v37 35).toInt + (v37 36).toInt ≤ 40 := hIv37.2
  have hq0_v37 : v37 0 = (v 0) := hk0_v37.trans hq0_v25
  have zq0_v37 := congrArg Int32.toInt hq0_v37
  try clear zq0_v25
  have hq8_v37 : v37 8 = (v 8) := hk8_v37.trans hq8_v25
  have zq8_v37 := congrArg Int32.toInt hq8_v37
  try clear zq8_v25
  have hq9_v37 : v37 9 = (v 9) := hk9_v37.trans hq9_v25
  have zq9_v37 := congrArg Int32.toInt hq9_v37
  try clear zq9_v25
  have hq10_v37 : v37 10 = (v 10) := hk10_v37.trans hq10_v25
  have zq10_v37 := congrArg Int32.toInt hq10_v37
  try clear zq10_v25
  have hq13_v37 : v37 13 = (v 13) := hk13_v37.trans hq13_v25
  have zq13_v37 := congrArg Int32.toInt hq13_v37
  try clear zq13_v25
  have hq14_v37 : v37 14 = (v 14) := hk14_v37.trans hq14_v25
  have zq14_v37 := congrArg Int32.toInt hq14_v37
  try clear zq14_v25
  have hq15_v37 : v37 15 = (v 15) := hk15_v37.trans hq15_v25
  have zq15_v37 := congrArg Int32.toInt hq15_v37
  try clear zq15_v25
  have hq17_v37 : v37 17 = (v 17) := hk17_v37.trans hq17_v25
  have zq17_v37 := congrArg Int32.toInt hq17_v37
  try clear zq17_v25
  have hq18_v37 : v37 18 = (v 18) := hk18_v37.trans hq18_v25
  have zq18_v37 := congrArg Int32.toInt hq18_v37
  try clear zq18_v25
  have hGR : GR (v 3).toInt (v 5).toInt (v37 3).toInt (v37 5).toInt := GR.tr hGR (show GR (v25 3).toInt (v25 5).toInt (v37 3).toInt (v37 5).toInt from ⟨pv41, pv42⟩) (by first | rfl | assumption | omega) (by first | rfl | assumption | omega)
  clear pv42
  refine stI hx hb hE hP hD hS 12 rfl (vp_in_iff.mpr ⟨by omega, by omega⟩) rfl dX11_readMan_62 (fun H locs hP hD hS => ?_)
  obtain ⟨f46, ef46, hP, hD⟩ : ∃ fz9, fz9 = upd2 f38 11 (upd (f38 11) (v 17).toNatClampNeg r35) ∧ va_P (dC, dI) vwCl (YW cy y0 r v37 fz9 w39 g40) H ∧ va_D A (YW cy y0 r v37 fz9 w39 g40) := ⟨_, rfl, hP, hD⟩
  have hCf46 : YC f46 := by rw [ef46]; exact hCf38
  have hRf46 : progOK (f46 4) (f46 5) (v37 9).toInt.toNat := by rw [ef46]; exact hRf38
  have hs2_f46 : f46 2 = (f 2) := by rw [ef46]; exact hs2_f38
  have hs3_f46 : f46 3 = (f 3) := by rw [ef46]; exact hs3_f38
  have hs6_f46 : f46 6 = (f 6) := by rw [ef46]; exact hs6_f38
  have hA_f46 : KF [9, 10, 11] f46 f := by rw [ef46]; exact KF.up hA_f38 rfl
  refine lv_aload_n hx hb dX11_readMan_63 rfl (lv_at hl 0 rfl) ?_
  refine va_get (D := (dC, dI)) (ci := 11) (v := .int (v37 1)) (C := RX11) (T := TX11) (N := 79) hx hb hts inB_11 hown hE.1 hP 0 rfl rfl 2 (by decide) (hts _ k_1322) (fun _ h9 => h9) rfl dX11_readMan_64 ?_
  have b1_v37 : 0 ≤ (v37 1).toInt ∧ (v37 1).toInt ≤ 4 := YIb.b hIv37.1 1 (by decide)
  refine lv_if_ne (tgt := 80) hx hb dX11_readMan_67 (by decide) (fun c47 => ?_) (fun c47 => ?_)
  · skip
    have zc47 : ¬ ((v37 1).toInt = 0) := by rw [fa_eq, show (0 : Int32).toInt = 0 from by decide] at c47; exact c47
    exact ret (v37, f46, w39, g40) _ _ _ _ _ _ ⟨(gsY_X11_readMan_1_q0 hG1 hG12 ef22 hG24 ef34 hG36 ef46 c47), hM_v37, hA_f46, hIv37, hCf46, hRf46, (hk0_v37.trans (hk0_v25.trans (hk0_v13.trans hk0_v2))), (hk4_v37.trans (hk4_v25.trans (hk4_v13.trans hk4_v2))), (hk8_v37.trans (hk8_v25.trans (hk8_v13.trans hk8_v2))), (hk9_v37.trans (hk9_v25.trans (hk9_v13.trans hk9_v2))), (hk10_v37.trans (hk10_v25.trans (hk10_v13.trans hk10_v2))), (hk13_v37.trans (hk13_v25.trans (hk13_v13.trans hk13_v2))), (hk14_v37.trans (hk14_v25.trans (hk14_v13.trans hk14_v2))), (hk15_v37.trans (hk15_v25.trans (hk15_v13.trans hk15_v2))), (hk18_v37.trans (hk18_v25.trans (hk18_v13.trans hk18_v2))), (hk24_v37.trans (hk24_v25.trans (hk24_v13.trans hk24_v2))), (hk25_v37.trans (hk25_v25.trans (hk25_v13.trans hk25_v2))), (hk35_v37.trans (hk35_v25.trans (hk35_v13.trans hk35_v2))), (hk36_v37.trans (hk36_v25.trans (hk36_v13.trans hk36_v2))), (hk38_v37.trans (hk38_v25.trans (hk38_v13.trans hk38_v2))), (hk39_v37.trans (hk39_v25.trans (hk39_v13.trans hk39_v2))), (by show (v 3).toInt ≤ (v37 3).toInt; exact (GR.cast hGR (by first | rfl | assumption | omega) (by first | rfl | assumption | omega)).1), (by show (v37 5).toInt = (v 5).toInt ∨ (v 3).toInt < (v37 3).toInt ∨ ¬ (v37 5).toInt = 59; exact (GR.cast hGR (by first | rfl | assumption | omega) (by first | rfl | assumption | omega)).2), hs2_f46, hs3_f46, hs6_f46⟩ hP hD hS dX11_readMan_80 (Nat.le_refl _) (Nat.le_refl _)
  · skip
    have zc47 : (v37 1).toInt = 0 := by rw [fa_eq, show (0 : Int32).toInt = 0 from by decide] at c47; exact c47
    refine lv_aload_n hx hb dX11_readMan_70 rfl (lv_at hl 0 rfl) ?_
    refine lv_dup hx hb dX11_readMan_71 rfl ?_
    refine va_get (D := (dC, dI)) (ci := 11) (v := .int (v37 17)) (C := RX11) (T := TX11) (N := 79) hx hb hts inB_11 hown hE.1 hP 0 rfl rfl 41 (by decide) (hts _ k_1361) (fun _ h9 => h9) rfl dX11_readMan_72 ?_
    refine tI (y := (v 17)) hq17_v37 ?_
    have b17_v : 0 ≤ (v 17).toInt ∧ (v 17).toInt ≤ 6 := YIb.b hIv.1 17 (by decide)
    refine lv_iconst (v := 1) hx hb dX11_readMan_75 (by decide) ?_
    refine lv_iadd hx hb dX11_readMan_76 ?_
    refine lv_topi (fun t48 et48 => ?_)
    have rg49 := fb_rng (v 17)
    have zt48 : t48.toInt = (v 17).toInt + 1 := by rw [et48]; exact add_i rfl (by decide) (by omega) (by omega)
    refine va_put (D := (dC, dI)) (ci := 11) (v := .int t48) (ty := tyX11 41) (C := RX11) (T := TX11) (N := 79) hx hb hts inB_11 tyX11 tyX11_ok nmX11 hown hE.1 hP hD hS 0 rfl rfl 41 (by decide) (hts _ k_1361) (fun _ h9 => h9) rfl (tyX11_ok 41 (by decide)) rfl rfl (Nat.le_of_ble_eq_true rfl) dX11_readMan_77 (fun H locs hP hD hS => ?_)
    have hP : va_P (dC, dI) vwCl (YW cy y0 r (upd v37 17 t48) f46 w39 g40) H := hP
    have hD : va_D A (YW cy y0 r (upd v37 17 t48) f46 w39 g40) := hD
    exact ret ((upd v37 17 t48), f46, w39, g40) _ _ _ _ _ _ ⟨(gsY_X11_readMan_1_q1 hG1 hG12 ef22 hG24 ef34 hG36 ef46 c47 et48), (KV.up (j := 17) (x := t48) hM_v37 rfl), hA_f46, ⟨(YIb.upd (j := 17) (x := t48) hIv37.1 (show (0 : Int) ≤ t48.toInt by omega) (show t48.toInt ≤ (6 : Int) by omega)), hIv37.2⟩, hCf46, hRf46, (hk0_v37.trans (hk0_v25.trans (hk0_v13.trans hk0_v2))), (hk4_v37.trans (hk4_v25.trans (hk4_v13.trans hk4_v2))), (hk8_v37.trans (hk8_v25.trans (hk8_v13.trans hk8_v2))), (hk9_v37.trans (hk9_v25.trans (hk9_v13.trans hk9_v2))), (hk10_v37.trans (hk10_v25.trans (hk10_v13.trans hk10_v2))), (hk13_v37.trans (hk13_v25.trans (hk13_v13.trans hk13_v2))), (hk14_v37.trans (hk14_v25.trans (hk14_v13.trans hk14_v2))), (hk15_v37.trans (hk15_v25.trans (hk15_v13.trans hk15_v2))), (hk18_v37.trans (hk18_v25.trans (hk18_v13.trans hk18_v2))), (hk24_v37.trans (hk24_v25.trans (hk24_v13.trans hk24_v2))), (hk25_v37.trans (hk25_v25.trans (hk25_v13.trans hk25_v2))), (hk35_v37.trans (hk35_v25.trans (hk35_v13.trans hk35_v2))), (hk36_v37.trans (hk36_v25.trans (hk36_v13.trans hk36_v2))), (hk38_v37.trans (hk38_v25.trans (hk38_v13.trans hk38_v2))), (hk39_v37.trans (hk39_v25.trans (hk39_v13.trans hk39_v2))), (by show (v 3).toInt ≤ (v37 3).toInt; exact (GR.cast hGR (by first | rfl | assumption | omega) (by first | rfl | assumption | omega)).1), (by show (v37 5).toInt = (v 5).toInt ∨ (v 3).toInt < (v37 3).toInt ∨ ¬ (v37 5).toInt = 59; exact (GR.cast hGR (by first | rfl | assumption | omega) (by first | rfl | assumption | omega)).2), hs2_f46, hs3_f46, hs6_f46⟩ hP hD hS dX11_readMan_80 (Nat.le_refl _) (Nat.le_refl _)
