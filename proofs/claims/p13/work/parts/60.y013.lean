set_option maxHeartbeats 4000000 in
set_option maxRecDepth 100000 in
theorem sY_X11_readCoat_1 (NF : Nat) (l : Launch) (dC : Nat → ClassId) (dI : Nat → Nat → Nat) (cy : Nat → ClassId) (y0 : Nat) (r : Nat → Nat)  (v : Nat → Int32) (f : Nat → Nat → Int32) (w : Int64) (g : Nat → Int64) (hIv : YI v) (hCf : YC f) (hRf : progOK (f 4) (f 5) (v 9).toInt.toNat)  (hf0 : (v 18).toInt ≤ 5) : ctV l (dC, dI) cy yX11_readCoat cX11_readCoat 1 6 172 0 0 ((Nat → Int32) × (Nat → Nat → Int32) × (Int64) × (Nat → Int64)) [.ref y0] (YW cy y0 r v f w g) (fun u => gsY_X11_readCoat_1 NF v f w g = u ∧ KV [1, 2, 3, 5, 6, 7, 18] u.1 v ∧ KF [12, 13, 14, 15] u.2.1 f ∧ YI u.1 ∧ YC u.2.1 ∧ progOK (u.2.1 4) (u.2.1 5) (u.1 9).toInt.toNat ∧ u.1 0 = v 0 ∧ u.1 4 = v 4 ∧ u.1 8 = v 8 ∧ u.1 9 = v 9 ∧ u.1 10 = v 10 ∧ u.1 13 = v 13 ∧ u.1 14 = v 14 ∧ u.1 15 = v 15 ∧ u.1 17 = v 17 ∧ u.1 24 = v 24 ∧ u.1 25 = v 25 ∧ u.1 35 = v 35 ∧ u.1 36 = v 36 ∧ u.1 38 = v 38 ∧ u.1 39 = v 39 ∧ ((v 3).toInt ≤ (u.1 3).toInt) ∧ ((u.1 5).toInt = (v 5).toInt ∨ (v 3).toInt < (u.1 3).toInt ∨ ¬ (u.1 5).toInt = 59) ∧ u.2.1 2 = f 2 ∧ u.2.1 3 = f 3 ∧ u.2.1 6 = f 6) (fun u => YW cy y0 r u.1 u.2.1 u.2.2.1 u.2.2.2) := by
  refine ctV_of (by decide) (Nat.le_of_ble_eq_true rfl) (fun p e s m below meth c A ls Q hx hb hml hts hown hnm hE hP hD hA hl ret => ?_)
  have hUv : (v 35).toInt + (v 36).toInt ≤ 40 := hIv.2
  have hM_v : KV [1, 2, 3, 5, 6, 7, 18] v v := fun _ _ => rfl
  have hA_f : KF [12, 13, 14, 15] f f := fun _ _ => rfl
  have b0_v : (0 : Int) ≤ (v 0).toInt ∧ (v 0).toInt ≤ 1600 := YIb.b hIv.1 0 (by decide)
  have b1_v : (0 : Int) ≤ (v 1).toInt ∧ (v 1).toInt ≤ 4 := YIb.b hIv.1 1 (by decide)
  have b8_v : (0 : Int) ≤ (v 8).toInt ∧ (v 8).toInt ≤ 320 := YIb.b hIv.1 8 (by decide)
  have b10_v : (0 : Int) ≤ (v 10).toInt ∧ (v 10).toInt ≤ 160 := YIb.b hIv.1 10 (by decide)
  have b13_v : (0 : Int) ≤ (v 13).toInt ∧ (v 13).toInt ≤ 31 := YIb.b hIv.1 13 (by decide)
  have b14_v : (0 : Int) ≤ (v 14).toInt ∧ (v 14).toInt ≤ 8 := YIb.b hIv.1 14 (by decide)
  have b15_v : (0 : Int) ≤ (v 15).toInt ∧ (v 15).toInt ≤ 1 := YIb.b hIv.1 15 (by decide)
  have b17_v : (0 : Int) ≤ (v 17).toInt ∧ (v 17).toInt ≤ 6 := YIb.b hIv.1 17 (by decide)
  have b18_v : (0 : Int) ≤ (v 18).toInt ∧ (v 18).toInt ≤ 6 := YIb.b hIv.1 18 (by decide)
  have hGR : GR (v 3).toInt (v 5).toInt (v 3).toInt (v 5).toInt := GR.refl _ _
  have hown : s.vm.findClass RX11 = some m.cls := hown
  have hS : va_S A s.heap s.heap [] := va_S.rf
  have hl : lv_has ls 1 [(0, .ref y0)] := hl
  refine lv_aload_n hx hb dX11_readCoat_0 rfl (lv_at hl 0 rfl) ?_
  refine lv_bipush (v := 6) hx hb dX11_readCoat_1 (by decide) ?_
  refine lv_aload_n hx hb dX11_readCoat_3 rfl (lv_at hl 0 rfl) ?_
  refine va_get (D := (dC, dI)) (ci := 11) (v := .int (v 18)) (C := RX11) (T := TX11) (N := 79) hx hb hts inB_11 hown hE.1 hP 0 rfl rfl 42 (by decide) (hts _ k_1362) (fun _ h9 => h9) rfl dX11_readCoat_4 ?_
  have b18_v : 0 ≤ (v 18).toInt ∧ (v 18).toInt ≤ 6 := YIb.b hIv.1 18 (by decide)
  refine cbVv (n := 2) (rest := []) hx hb hml hown hts hE hP hD hS hA (sY_X11_newName_1 NF l dC dI cy y0 r 6 (v 18) v f w g hIv hCf hRf ⟨by decide, by decide⟩ ⟨show (0 : Int) ≤ (v 18).toInt by omega, show (v 18).toInt ≤ (5 : Int) by omega⟩) k_1609 k_1611 k_47 k_114 k_1612 (by decide +kernel) ⟨Nat.le_of_ble_eq_true rfl, Nat.le_of_ble_eq_true rfl⟩ 0 11 rfl rfl (rfl) hl.1 rfl (Nat.le_of_ble_eq_true rfl) dX11_readCoat_7 (fun u H locs hw hP hD hS => ?_)
  obtain ⟨hG1, hw⟩ := hw
  obtain ⟨v2, f3, w4, g5⟩ := u
  obtain ⟨kV_v2, kF_f3, hIv2, hCf3, hRf3, hk0_v2, hk4_v2, hk8_v2, hk9_v2, hk10_v2, hk13_v2, hk14_v2, hk15_v2, hk17_v2, hk18_v2, hk24_v2, hk25_v2, hk35_v2, hk36_v2, hk38_v2, hk39_v2, pv6, pv7, kq8, kq9, kq10⟩ := hw
  have hM_v2 : KV [1, 2, 3, 5, 6, 7, 18] v2 v := KV.tr kV_v2 hM_v rfl
  have hA_f3 : KF [12, 13, 14, 15] f3 f := KF.tr kF_f3 hA_f rfl
  have hP : va_P (dC, dI) vwCl (YW cy y0 r v2 f3 w4 g5) H := hP
  have hD : va_D A (YW cy y0 r v2 f3 w4 g5) := hD
  have b3_v2 : 0 ≤ (v2 3).toInt ∧ (v2 3).toInt ≤ 1600 := YIb.b hIv2.1 3 (by decide)
  have pv6 : (v 3).toInt ≤ (v2 3).toInt := pv6
  have pv7 : (v2 5).toInt = (v 5).toInt ∨ (v 3).toInt < (v2 3).toInt ∨ ¬ (v2 5).toInt = 59 := pv7
  have hs2_f3 : f3 2 = (f 2) := kq8
  have hs3_f3 : f3 3 = (f 3) := kq9
  have hs6_f3 : f3 6 = (f 6) := kq10
  have hUv2 : (v2 35).toInt + (v2 36).toInt ≤ 40 := hIv2.2
  have hq0_v2 : v2 0 = (v 0) := hk0_v2
  have zq0_v2 := congrArg Int32.toInt hq0_v2
  have hq8_v2 : v2 8 = (v 8) := hk8_v2
  have zq8_v2 := congrArg Int32.toInt hq8_v2
  have hq9_v2 : v2 9 = (v 9) := hk9_v2
  have zq9_v2 := congrArg Int32.toInt hq9_v2
  have hq10_v2 : v2 10 = (v 10) := hk10_v2
  have zq10_v2 := congrArg Int32.toInt hq10_v2
  have hq13_v2 : v2 13 = (v 13) := hk13_v2
  have zq13_v2 := congrArg Int32.toInt hq13_v2
  have hq14_v2 : v2 14 = (v 14) := hk14_v2
  have zq14_v2 := congrArg Int32.toInt hq14_v2
  have hq15_v2 : v2 15 = (v 15) := hk15_v2
  have zq15_v2 := congrArg Int32.toInt hq15_v2
  have hq17_v2 : v2 17 = (v 17) := hk17_v2
  have zq17_v2 := congrArg Int32.toInt hq17_v2
  have hq18_v2 : v2 18 = (v 18) := hk18_v2
  have zq18_v2 := congrArg Int32.toInt hq18_v2
  have hGR : GR (v 3).toInt (v 5).toInt (v2 3).toInt (v2 5).toInt := GR.tr hGR (show GR (v 3).toInt (v 5).toInt (v2 3).toInt (v2 5).toInt from ⟨pv6, pv7⟩) (by first | rfl | assumption | omega) (by first | rfl | assumption | omega)
  clear pv7
  refine lv_aload_n hx hb dX11_readCoat_10 rfl (lv_at hl 0 rfl) ?_
  refine va_get (D := (dC, dI)) (ci := 11) (v := .ref (r 30)) (C := RX11) (T := TX11) (N := 79) hx hb hts inB_11 hown hE.1 hP 0 rfl rfl 30 (by decide) (hts _ k_1350) (fun _ h9 => h9) rfl dX11_readCoat_11 ?_
  refine lv_aload_n hx hb dX11_readCoat_14 rfl (lv_at hl 0 rfl) ?_
  refine va_get (D := (dC, dI)) (ci := 11) (v := .int (v2 18)) (C := RX11) (T := TX11) (N := 79) hx hb hts inB_11 hown hE.1 hP 0 rfl rfl 42 (by decide) (hts _ k_1362) (fun _ h9 => h9) rfl dX11_readCoat_15 ?_
  refine tI (y := (v 18)) hq18_v2 ?_
  have b18_v : 0 ≤ (v 18).toInt ∧ (v 18).toInt ≤ 6 := YIb.b hIv.1 18 (by decide)
  refine lv_aload_n hx hb dX11_readCoat_18 rfl (lv_at hl 0 rfl) ?_
  refine lv_ldc2 (v := 1952541804) hx hb hown (hts _ k_1621) dX11_readCoat_19 ?_
  refine lv_bipush (v := 99) hx hb dX11_readCoat_22 (by decide) ?_
  refine cbVi (n := 2) (rest := [.int (v 18), .ref (r 30)]) hx hb hml hown hts hE hP hD hS hA (sY_X11_told_1 NF l dC dI cy y0 r 1952541804 99 v2 f3 w4 g5 hIv2 hCf3 hRf3 ) k_1645 k_1647 k_51 k_114 k_1648 (by decide +kernel) ⟨Nat.le_of_ble_eq_true rfl, Nat.le_of_ble_eq_true rfl⟩ 0 11 rfl rfl (rfl) hl.1 rfl (Nat.le_of_ble_eq_true rfl) dX11_readCoat_24 (fun r11 u H locs hw hP hD hS => ?_)
  obtain ⟨hG12, hw⟩ := hw
  obtain ⟨v13, f14, w15, g16⟩ := u
  obtain ⟨kV_v13, kF_f14, hIv13, hCf14, hRf14, hk0_v13, hk4_v13, hk8_v13, hk9_v13, hk10_v13, hk13_v13, hk14_v13, hk15_v13, hk17_v13, hk18_v13, hk24_v13, hk25_v13, hk35_v13, hk36_v13, hk38_v13, hk39_v13, pv17, pv18, kq19, kq20, kq21⟩ := hw
  have hM_v13 : KV [1, 2, 3, 5, 6, 7, 18] v13 v := KV.tr kV_v13 hM_v2 rfl
  have hA_f14 : KF [12, 13, 14, 15] f14 f := KF.tr kF_f14 hA_f3 rfl
  have hP : va_P (dC, dI) vwCl (YW cy y0 r v13 f14 w15 g16) H := hP
  have hD : va_D A (YW cy y0 r v13 f14 w15 g16) := hD
  have b3_v13 : 0 ≤ (v13 3).toInt ∧ (v13 3).toInt ≤ 1600 := YIb.b hIv13.1 3 (by decide)
  have pv17 : (v2 3).toInt ≤ (v13 3).toInt := pv17
  have pv18 : (v13 5).toInt = (v2 5).toInt ∨ (v2 3).toInt < (v13 3).toInt ∨ ¬ (v13 5).toInt = 59 := pv18
  have hs2_f14 : f14 2 = (f 2) := kq19.trans hs2_f3
  have hs3_f14 : f14 3 = (f 3) := kq20.trans hs3_f3
  have hs6_f14 : f14 6 = (f 6) := kq21.trans hs6_f3
  have hUv13 : (v13 35).toInt + (v13 36).toInt ≤ 40 := hIv13.2
  have hq0_v13 : v13 0 = (v 0) := hk0_v13.trans hq0_v2
  have zq0_v13 := congrArg Int32.toInt hq0_v13
  try clear zq0_v2
  have hq8_v13 : v13 8 = (v 8) := hk8_v13.trans hq8_v2
  have zq8_v13 := congrArg Int32.toInt hq8_v13
  try clear zq8_v2
  have hq9_v13 : v13 9 = (v 9) := hk9_v13.trans hq9_v2
  have zq9_v13 := congrArg Int32.toInt hq9_v13
  try clear zq9_v2
  have hq10_v13 : v13 10 = (v 10) := hk10_v13.trans hq10_v2
  have zq10_v13 := congrArg Int32.toInt hq10_v13
  try clear zq10_v2
  have hq13_v13 : v13 13 = (v 13) := hk13_v13.trans hq13_v2
  have zq13_v13 := congrArg Int32.toInt hq13_v13
  try clear zq13_v2
  have hq14_v13 : v13 14 = (v 14) := hk14_v13.trans hq14_v2
  have zq14_v13 := congrArg Int32.toInt hq14_v13
  try clear zq14_v2
  have hq15_v13 : v13 15 = (v 15) := hk15_v13.trans hq15_v2
  have zq15_v13 := congrArg Int32.toInt hq15_v13
  try clear zq15_v2
  have hq17_v13 : v13 17 = (v 17) := hk17_v13.trans hq17_v2
  have zq17_v13 := congrArg Int32.toInt hq17_v13
  try clear zq17_v2
  have hq18_v13 : v13 18 = (v 18) := hk18_v13.trans hq18_v2
  have zq18_v13 := congrArg Int32.toInt hq18_v13
  try clear zq18_v2
  have hGR : GR (v 3).toInt (v 5).toInt (v13 3).toInt (v13 5).toInt := GR.tr hGR (show GR (v2 3).toInt (v2 5).toInt (v13 3).toInt (v13 5).toInt from ⟨pv17, pv18⟩) (by first | rfl | assumption | omega) (by first | rfl | assumption | omega)
  clear pv18
  refine stI hx hb hE hP hD hS 13 rfl (vp_in_iff.mpr ⟨by omega, by omega⟩) rfl dX11_readCoat_27 (fun H locs hP hD hS => ?_)
  obtain ⟨f22, ef22, hP, hD⟩ : ∃ fz9, fz9 = upd2 f14 12 (upd (f14 12) (v 18).toNatClampNeg r11) ∧ va_P (dC, dI) vwCl (YW cy y0 r v13 fz9 w15 g16) H ∧ va_D A (YW cy y0 r v13 fz9 w15 g16) := ⟨_, rfl, hP, hD⟩
  have hCf22 : YC f22 := by rw [ef22]; exact hCf14
  have hRf22 : progOK (f22 4) (f22 5) (v13 9).toInt.toNat := by rw [ef22]; exact hRf14
  have hs2_f22 : f22 2 = (f 2) := by rw [ef22]; exact hs2_f14
  have hs3_f22 : f22 3 = (f 3) := by rw [ef22]; exact hs3_f14
  have hs6_f22 : f22 6 = (f 6) := by rw [ef22]; exact hs6_f14
  have hA_f22 : KF [12, 13, 14, 15] f22 f := by rw [ef22]; exact KF.up hA_f14 rfl
  refine lv_aload_n hx hb dX11_readCoat_28 rfl (lv_at hl 0 rfl) ?_
  refine va_get (D := (dC, dI)) (ci := 11) (v := .ref (r 31)) (C := RX11) (T := TX11) (N := 79) hx hb hts inB_11 hown hE.1 hP 0 rfl rfl 31 (by decide) (hts _ k_1351) (fun _ h9 => h9) rfl dX11_readCoat_29 ?_
  refine lv_aload_n hx hb dX11_readCoat_32 rfl (lv_at hl 0 rfl) ?_
  refine va_get (D := (dC, dI)) (ci := 11) (v := .int (v13 18)) (C := RX11) (T := TX11) (N := 79) hx hb hts inB_11 hown hE.1 hP 0 rfl rfl 42 (by decide) (hts _ k_1362) (fun _ h9 => h9) rfl dX11_readCoat_33 ?_
  refine tI (y := (v 18)) hq18_v13 ?_
  have b18_v : 0 ≤ (v 18).toInt ∧ (v 18).toInt ≤ 6 := YIb.b hIv.1 18 (by decide)
  refine lv_aload_n hx hb dX11_readCoat_36 rfl (lv_at hl 0 rfl) ?_
  refine lv_ldc2 (v := 2003395685) hx hb hown (hts _ k_1622) dX11_readCoat_37 ?_
  refine lv_bipush (v := 99) hx hb dX11_readCoat_40 (by decide) ?_
  refine cbVi (n := 2) (rest := [.int (v 18), .ref (r 31)]) hx hb hml hown hts hE hP hD hS hA (sY_X11_told_1 NF l dC dI cy y0 r 2003395685 99 v13 f22 w15 g16 hIv13 hCf22 hRf22 ) k_1645 k_1647 k_51 k_114 k_1648 (by decide +kernel) ⟨Nat.le_of_ble_eq_true rfl, Nat.le_of_ble_eq_true rfl⟩ 0 11 rfl rfl (rfl) hl.1 rfl (Nat.le_of_ble_eq_true rfl) dX11_readCoat_42 (fun r23 u H locs hw hP hD hS => ?_)
  obtain ⟨hG24, hw⟩ := hw
  obtain ⟨v25, f26, w27, g28⟩ := u
  obtain ⟨kV_v25, kF_f26, hIv25, hCf26, hRf26, hk0_v25, hk4_v25, hk8_v25, hk9_v25, hk10_v25, hk13_v25, hk14_v25, hk15_v25, hk17_v25, hk18_v25, hk24_v25, hk25_v25, hk35_v25, hk36_v25, hk38_v25, hk39_v25, pv29, pv30, kq31, kq32, kq33⟩ := hw
  have hM_v25 : KV [1, 2, 3, 5, 6, 7, 18] v25 v := KV.tr kV_v25 hM_v13 rfl
  have hA_f26 : KF [12, 13, 14, 15] f26 f := KF.tr kF_f26 hA_f22 rfl
  have hP : va_P (dC, dI) vwCl (YW cy y0 r v25 f26 w27 g28) H := hP
  have hD : va_D A (YW cy y0 r v25 f26 w27 g28) := hD
  have b3_v25 : 0 ≤ (v25 3).toInt ∧ (v25 3).toInt ≤ 1600 := YIb.b hIv25.1 3 (by decide)
  have pv29 : (v13 3).toInt ≤ (v25 3).toInt := pv29
  have pv30 : (v25 5).toInt = (v13 5).toInt ∨ (v13 3).toInt < (v25 3).toInt ∨ ¬ (v25 5).toInt = 59 := pv30
  have hs2_f26 : f26 2 = (f 2) := kq31.trans hs2_f22
  have hs3_f26 : f26 3 = (f 3) := kq32.trans hs3_f22
  have hs6_f26 : f26 6 = (f 6) := kq33.trans hs6_f22
  have hUv25 : (v25 35).toInt + (v25 36).toInt ≤ 40 := hIv25.2
  have hq0_v25 : v25 0 = (v 0) := hk0_v25.trans hq0_v13
  have zq0_v25 := congrArg Int32.toInt hq0_v25
  try clear zq0_v13
  have hq8_v25 : v25 8 = (v 8) := hk8_v25.trans hq8_v13
  have zq8_v25 := congrArg Int32.toInt hq8_v25
  try clear zq8_v13
  have hq9_v25 : v25 9 = (v 9) := hk9_v25.trans hq9_v13
  have zq9_v25 := congrArg Int32.toInt hq9_v25
  try clear zq9_v13
  have hq10_v25 : v25 10 = (v 10) := hk10_v25.trans hq10_v13
  have zq10_v25 := congrArg Int32.toInt hq10_v25
  try clear zq10_v13
  have hq13_v25 : v25 13 = (v 13) := hk13_v25.trans hq13_v13
  have zq13_v25 := congrArg Int32.toInt hq13_v25
  try clear zq13_v13
  have hq14_v25 : v25 14 = (v 14) := hk14_v25.trans hq14_v13
  have zq14_v25 := congrArg Int32.toInt hq14_v25
  try clear zq14_v13
  have hq15_v25 : v25 15 = (v 15) := hk15_v25.trans hq15_v13
  have zq15_v25 := congrArg Int32.toInt hq15_v25
  try clear zq15_v13
  have hq17_v25 : v25 17 = (v 17) := hk17_v25.trans hq17_v13
  have zq17_v25 := congrArg Int32.toInt hq17_v25
  try clear zq17_v13
  have hq18_v25 : v25 18 = (v 18) := hk18_v25.trans hq18_v13
  have zq18_v25 := congrArg Int32.toInt hq18_v25
  try clear zq18_v13
  have hGR : GR (v 3).toInt (v 5).toInt (v25 3).toInt (v25 5).toInt := GR.tr hGR (show GR (v13 3).toInt (v13 5).toInt (v25 3).toInt (v25 5).toInt from ⟨pv29, pv30⟩) (by first | rfl | assumption | omega) (by first | rfl | assumption | omega)
  clear pv30
  refine stI hx hb hE hP hD hS 14 rfl (vp_in_iff.mpr ⟨by omega, by omega⟩) rfl dX11_readCoat_45 (fun H locs hP hD hS => ?_)
  obtain ⟨f34, ef34, hP, hD⟩ : ∃ fz9, fz9 = upd2 f26 13 (upd (f26 13) (v 18).toNatClampNeg r23) ∧ va_P (dC, dI) vwCl (YW cy y0 r v25 fz9 w27 g28) H ∧ va_D A (YW cy y0 r v25 fz9 w27 g28) := ⟨_, rfl, hP, hD⟩
  have hCf34 : YC f34 := by rw [ef34]; exact hCf26
  have hRf34 : progOK (f34 4) (f34 5) (v25 9).toInt.toNat := by rw [ef34]; exact hRf26
  have hs2_f34 : f34 2 = (f 2) := by rw [ef34]; exact hs2_f26
  have hs3_f34 : f34 3 = (f 3) := by rw [ef34]; exact hs3_f26
  have hs6_f34 : f34 6 = (f 6) := by rw [ef34]; exact hs6_f26
  have hA_f34 : KF [12, 13, 14, 15] f34 f := by rw [ef34]; exact KF.up hA_f26 rfl
  refine lv_aload_n hx hb dX11_readCoat_46 rfl (lv_at hl 0 rfl) ?_
  refine va_get (D := (dC, dI)) (ci := 11) (v := .ref (r 32)) (C := RX11) (T := TX11) (N := 79) hx hb hts inB_11 hown hE.1 hP 0 rfl rfl 32 (by decide) (hts _ k_1352) (fun _ h9 => h9) rfl dX11_readCoat_47 ?_
  refine lv_aload_n hx hb dX11_readCoat_50 rfl (lv_at hl 0 rfl) ?_
  refine va_get (D := (dC, dI)) (ci := 11) (v := .int (v25 18)) (C := RX11) (T := TX11) (N := 79) hx hb hts inB_11 hown hE.1 hP 0 rfl rfl 42 (by decide) (hts _ k_1362) (fun _ h9 => h9) rfl dX11_readCoat_51 ?_
  refine tI (y := (v 18)) hq18_v25 ?_
  have b18_v : 0 ≤ (v 18).toInt ∧ (v 18).toInt ≤ 6 := YIb.b hIv.1 18 (by decide)
  refine lv_aload_n hx hb dX11_readCoat_54 rfl (lv_at hl 0 rfl) ?_
  refine lv_ldc2 (v := 1936023917) hx hb hown (hts _ k_1625) dX11_readCoat_55 ?_
  refine lv_bipush (v := 20) hx hb dX11_readCoat_58 (by decide) ?_
  refine cbVi (n := 2) (rest := [.int (v 18), .ref (r 32)]) hx hb hml hown hts hE hP hD hS hA (sY_X11_option_1 NF l dC dI cy y0 r 1936023917 20 v25 f34 w27 g28 hIv25 hCf34 hRf34 ) k_1657 k_1659 k_54 k_114 k_1660 (by decide +kernel) ⟨Nat.le_of_ble_eq_true rfl, Nat.le_of_ble_eq_true rfl⟩ 0 11 rfl rfl (rfl) hl.1 rfl (Nat.le_of_ble_eq_true rfl) dX11_readCoat_60 (fun r35 u H locs hw hP hD hS => ?_)
  obtain ⟨hG36, hw⟩ := hw
  obtain ⟨v37, f38, w39, g40⟩ := u
  obtain ⟨kV_v37, kF_f38, hIv37, hCf38, hRf38, hk0_v37, hk4_v37, hk8_v37, hk9_v37, hk10_v37, hk13_v37, hk14_v37, hk15_v37, hk17_v37, hk18_v37, hk24_v37, hk25_v37, hk35_v37, hk36_v37, hk38_v37, hk39_v37, pv41, pv42, kq43, kq44, kq45⟩ := hw
  have hM_v37 : KV [1, 2, 3, 5, 6, 7, 18] v37 v := KV.tr kV_v37 hM_v25 rfl
  have hA_f38 : KF [12, 13, 14, 15] f38 f := KF.tr kF_f38 hA_f34 rfl
  have hP : va_P (dC, dI) vwCl (YW cy y0 r v37 f38 w39 g40) H := hP
  have hD : va_D A (YW cy y0 r v37 f38 w39 g40) := hD
  have b3_v37 : 0 ≤ (v37 3).toInt ∧ (v37 3).toInt ≤ 1600 := YIb.b hIv37.1 3 (by decide)
  have pv41 : (v25 3).toInt ≤ (v37 3).toInt := pv41
  have pv42 : (v37 5).toInt = (v25 5).toInt ∨ (v25 3).toInt < (v37 3).toInt ∨ ¬ (v37 5).toInt = 59 := pv42
  have hs2_f38 : f38 2 = (f 2) := kq43.trans hs2_f34
  have hs3_f38 : f38 3 = (f 3) := kq44.trans hs3_f34
  have hs6_f38 : f38 6 = (f 6) := kq45.trans hs6_f34
  have hUv37 : (v37 35).toInt + (v37 36).toInt ≤ 40 := hIv37.2
  have hq0_v37 : v37 0 = (v 0) := hk0_v37.trans hq0_v25
  have zq0_v37 := congrArg Int32.toInt hq0_v37
  try clear zq0_v25
  have hq8_v37 : v37 8 = (v 8) := hk8_v37.trans hq8_v25
  have zq8_v37 := congrArg Int32.toInt hq8_v37
  try clear zq8_v25
  have hq9_v37 : v37 9 = (v 9) := hk9_v37.trans hq9_v25
  have zq9_v37 := congrArg Int32.toInt hq9_v37
  try clear zq9_v25
  have hq10_v37 : v37 10 = (v 10) := hk10_v37.trans hq10_v25
  have zq10_v37 := congrArg Int32.toInt hq10_v37
  try clear zq10_v25
  have hq13_v37 : v37 13 = (v 13) := hk13_v37.trans hq13_v25
  have zq13_v37 := congrArg Int32.toInt hq13_v37
  try clear zq13_v25
  have hq14_v37 : v37 14 = (v 14) := hk14_v37.trans hq14_v25
  have zq14_v37 := congrArg Int32.toInt hq14_v37
  try clear zq14_v25
  have hq15_v37 : v37 15 = (v 15) := hk15_v37.trans hq15_v25
  have zq15_v37 := congrArg Int32.toInt hq15_v37
  try clear zq15_v25
  have hq17_v37 : v37 17 = (v 17) := hk17_v37.trans hq17_v25
  have zq17_v37 := congrArg Int32.toInt hq17_v37
  try clear zq17_v25
  have hq18_v37 : v37 18 = (v 18) := hk18_v37.trans hq18_v25
  have zq18_v37 := congrArg Int32.toInt hq18_v37
  try clear zq18_v25
  have hGR : GR (v 3).toInt (v 5).toInt (v37 3).toInt (v37 5).toInt := GR.tr hGR (show GR (v25 3).toInt (v25 5).toInt (v37 3).toInt (v37 5).toInt from ⟨pv41, pv42⟩) (by first | rfl | assumption | omega) (by first | rfl | assumption | omega)
  clear pv42
  refine stI hx hb hE hP hD hS 15 rfl (vp_in_iff.mpr ⟨by omega, by omega⟩) rfl dX11_readCoat_63 (fun H locs hP hD hS => ?_)
  obtain ⟨f46, ef46, hP, hD⟩ : ∃ fz9, fz9 = upd2 f38 14 (upd (f38 14) (v 18).toNatClampNeg r35) ∧ va_P (dC, dI) vwCl (YW cy y0 r v37 fz9 w39 g40) H ∧ va_D A (YW cy y0 r v37 fz9 w39 g40) := ⟨_, rfl, hP, hD⟩
  have hCf46 : YC f46 := by rw [ef46]; exact hCf38
  have hRf46 : progOK (f46 4) (f46 5) (v37 9).toInt.toNat := by rw [ef46]; exact hRf38
  have hs2_f46 : f46 2 = (f 2) := by rw [ef46]; exact hs2_f38
  have hs3_f46 : f46 3 = (f 3) := by rw [ef46]; exact hs3_f38
  have hs6_f46 : f46 6 = (f 6) := by rw [ef46]; exact hs6_f38
  have hA_f46 : KF [12, 13, 14, 15] f46 f := by rw [ef46]; exact KF.up hA_f38 rfl
  refine lv_aload_n hx hb dX11_readCoat_64 rfl (lv_at hl 0 rfl) ?_
  refine va_get (D := (dC, dI)) (ci := 11) (v := .ref (r 33)) (C := RX11) (T := TX11) (N := 79) hx hb hts inB_11 hown hE.1 hP 0 rfl rfl 33 (by decide) (hts _ k_1353) (fun _ h9 => h9) rfl dX11_readCoat_65 ?_
  refine lv_aload_n hx hb dX11_readCoat_68 rfl (lv_at hl 0 rfl) ?_
  refine va_get (D := (dC, dI)) (ci := 11) (v := .int (v37 18)) (C := RX11) (T := TX11) (N := 79) hx hb hts inB_11 hown hE.1 hP 0 rfl rfl 42 (by decide) (hts _ k_1362) (fun _ h9 => h9) rfl dX11_readCoat_69 ?_
  refine tI (y := (v 18)) hq18_v37 ?_
  have b18_v : 0 ≤ (v 18).toInt ∧ (v 18).toInt ≤ 6 := YIb.b hIv.1 18 (by decide)
  refine lv_aload_n hx hb dX11_readCoat_72 rfl (lv_at hl 0 rfl) ?_
  refine lv_ldc2 (v := 2003792494) hx hb hown (hts _ k_1626) dX11_readCoat_73 ?_
  refine lv_bipush (v := 99) hx hb dX11_readCoat_76 (by decide) ?_
  refine cbVi (n := 2) (rest := [.int (v 18), .ref (r 33)]) hx hb hml hown hts hE hP hD hS hA (sY_X11_option_1 NF l dC dI cy y0 r 2003792494 99 v37 f46 w39 g40 hIv37 hCf46 hRf46 ) k_1657 k_1659 k_54 k_114 k_1660 (by decide +kernel) ⟨Nat.le_of_ble_eq_true rfl, Nat.le_of_ble_eq_true rfl⟩ 0 11 rfl rfl (rfl) hl.1 rfl (Nat.le_of_ble_eq_true rfl) dX11_readCoat_78 (fun r47 u H locs hw hP hD hS => ?_)
  obtain ⟨hG48, hw⟩ := hw
  obtain ⟨v49, f50, w51, g52⟩ := u
  obtain ⟨kV_v49, kF_f50, hIv49, hCf50, hRf50, hk0_v49, hk4_v49, hk8_v49, hk9_v49, hk10_v49, hk13_v49, hk14_v49, hk15_v49, hk17_v49, hk18_v49, hk24_v49, hk25_v49, hk35_v49, hk36_v49, hk38_v49, hk39_v49, pv53, pv54, kq55, kq56, kq57⟩ := hw
  have hM_v49 : KV [1, 2, 3, 5, 6, 7, 18] v49 v := KV.tr kV_v49 hM_v37 rfl
  have hA_f50 : KF [12, 13, 14, 15] f50 f := KF.tr kF_f50 hA_f46 rfl
  have hP : va_P (dC, dI) vwCl (YW cy y0 r v49 f50 w51 g52) H := hP
  have hD : va_D A (YW cy y0 r v49 f50 w51 g52) := hD
  have b3_v49 : 0 ≤ (v49 3).toInt ∧ (v49 3).toInt ≤ 1600 := YIb.b hIv49.1 3 (by decide)
  have pv53 : (v37 3).toInt ≤ (v49 3).toInt := pv53
  have pv54 : (v49 5).toInt = (v37 5).toInt ∨ (v37 3).toInt < (v49 3).toInt ∨ ¬ (v49 5).toInt = 59 := pv54
  have hs2_f50 : f50 2 = (f 2) := kq55.trans hs2_f46
  have hs3_f50 : f50 3 = (f 3) := kq56.trans hs3_f46
  have hs6_f50 : f50 6 = (f 6) := kq57.trans hs6_f46
  have hUv49 : (v49 35).toInt + (v49 36).toInt ≤ 40 := hIv49.2
  have hq0_v49 : v49 0 = (v 0) := hk0_v49.trans hq0_v37
  have zq0_v49 := congrArg Int32.toInt hq0_v49
  try clear zq0_v37
  have hq8_v49 : v49 8 = (v 8) := hk8_v49.trans hq8_v37
  have zq8_v49 := congrArg Int32.toInt hq8_v49
  try clear zq8_v37
  have hq9_v49 : v49 9 = (v 9) := hk9_v49.trans hq9_v37
  have zq9_v49 := congrArg Int32.toInt hq9_v49
  try clear zq9_v37
  have hq10_v49 : v49 10 = (v 10) := hk10_v49.trans hq10_v37
  have zq10_v49 := congrArg Int32.toInt hq10_v49
  try clear zq10_v37
  have hq13_v49 : v49 13 = (v 13) := hk13_v49.trans hq13_v37
  have zq13_v49 := congrArg Int32.toInt hq13_v49
  try clear zq13_v37
  have hq14_v49 : v49 14 = (v 14) := hk14_v49.trans hq14_v37
  have zq14_v49 := congrArg Int32.toInt hq14_v49
  try clear zq14_v37
  have hq15_v49 : v49 15 = (v 15) := hk15_v49.trans hq15_v37
  have zq15_v49 := congrArg Int32.toInt hq15_v49
  try clear zq15_v37
  have hq17_v49 : v49 17 = (v 17) := hk17_v49.trans hq17_v37
  have zq17_v49 := congrArg Int32.toInt hq17_v49
  try clear zq17_v37
  have hq18_v49 : v49 18 = (v 18) := hk18_v49.trans hq18_v37
  have zq18_v49 := congrArg Int32.toInt hq18_v49
  try clear zq18_v37
  have hGR : GR (v 3).toInt (v 5).toInt (v49 3).toInt (v49 5).toInt := GR.tr hGR (show GR (v37 3).toInt (v37 5).toInt (v49 3).toInt (v49 5).toInt from ⟨pv53, pv54⟩) (by first | rfl | assumption | omega) (by first | rfl | assumption | omega)
  clear pv54
  refine stI hx hb hE hP hD hS 16 rfl (vp_in_iff.mpr ⟨by omega, by omega⟩) rfl dX11_readCoat_81 (fun H locs hP hD hS => ?_)
  obtain ⟨f58, ef58, hP, hD⟩ : ∃ fz9, fz9 = upd2 f50 15 (upd (f50 15) (v 18).toNatClampNeg r47) ∧ va_P (dC, dI) vwCl (YW cy y0 r v49 fz9 w51 g52) H ∧ va_D A (YW cy y0 r v49 fz9 w51 g52) := ⟨_, rfl, hP, hD⟩
  have hCf58 : YC f58 := by rw [ef58]; exact hCf50
  have hRf58 : progOK (f58 4) (f58 5) (v49 9).toInt.toNat := by rw [ef58]; exact hRf50
  have hs2_f58 : f58 2 = (f 2) := by rw [ef58]; exact hs2_f50
  have hs3_f58 : f58 3 = (f 3) := by rw [ef58]; exact hs3_f50
  have hs6_f58 : f58 6 = (f 6) := by rw [ef58]; exact hs6_f50
  have hA_f58 : KF [12, 13, 14, 15] f58 f := by rw [ef58]; exact KF.up hA_f50 rfl
  refine lv_aload_n hx hb dX11_readCoat_82 rfl (lv_at hl 0 rfl) ?_
  refine va_get (D := (dC, dI)) (ci := 11) (v := .int (v49 1)) (C := RX11) (T := TX11) (N := 79) hx hb hts inB_11 hown hE.1 hP 0 rfl rfl 2 (by decide) (hts _ k_1322) (fun _ h9 => h9) rfl dX11_readCoat_83 ?_
  have b1_v49 : 0 ≤ (v49 1).toInt ∧ (v49 1).toInt ≤ 4 := YIb.b hIv49.1 1 (by decide)
  refine lv_if_ne (tgt := 99) hx hb dX11_readCoat_86 (by decide) (fun c59 => ?_) (fun c59 => ?_)
  · skip
    have zc59 : ¬ ((v49 1).toInt = 0) := by rw [fa_eq, show (0 : Int32).toInt = 0 from by decide] at c59; exact c59
    exact ret (v49, f58, w51, g52) _ _ _ _ _ _ ⟨(gsY_X11_readCoat_1_q0 hG1 hG12 ef22 hG24 ef34 hG36 ef46 hG48 ef58 c59), hM_v49, hA_f58, hIv49, hCf58, hRf58, (hk0_v49.trans (hk0_v37.trans (hk0_v25.trans (hk0_v13.trans hk0_v2)))), (hk4_v49.trans (hk4_v37.trans (hk4_v25.trans (hk4_v13.trans hk4_v2)))), (hk8_v49.trans (hk8_v37.trans (hk8_v25.trans (hk8_v13.trans hk8_v2)))), (hk9_v49.trans (hk9_v37.trans (hk9_v25.trans (hk9_v13.trans hk9_v2)))), (hk10_v49.trans (hk10_v37.trans (hk10_v25.trans (hk10_v13.trans hk10_v2)))), (hk13_v49.trans (hk13_v37.trans (hk13_v25.trans (hk13_v13.trans hk13_v2)))), (hk14_v49.trans (hk14_v37.trans (hk14_v25.trans (hk14_v13.trans hk14_v2)))), (hk15_v49.trans (hk15_v37.trans (hk15_v25.trans (hk15_v13.trans hk15_v2)))), (hk17_v49.trans (hk17_v37.trans (hk17_v25.trans (hk17_v13.trans hk17_v2)))), (hk24_v49.trans (hk24_v37.trans (hk24_v25.trans (hk24_v13.trans hk24_v2)))), (hk25_v49.trans (hk25_v37.trans (hk25_v25.trans (hk25_v13.trans hk25_v2)))), (hk35_v49.trans (hk35_v37.trans (hk35_v25.trans (hk35_v13.trans hk35_v2)))), (hk36_v49.trans (hk36_v37.trans (hk36_v25.trans (hk36_v13.trans hk36_v2)))), (hk38_v49.trans (hk38_v37.trans (hk38_v25.trans (hk38_v13.trans hk38_v2)))), (hk39_v49.trans (hk39_v37.trans (hk39_v25.trans (hk39_v13.trans hk39_v2)))), (by show (v 3).toInt ≤ (v49 3).toInt; exact (GR.cast hGR (by first | rfl | assumption | omega) (by first | rfl | assumption | omega)).1), (by show (v49 5).toInt = (v 5).toInt ∨ (v 3).toInt < (v49 3).toInt ∨ ¬ (v49 5).toInt = 59; exact (GR.cast hGR (by first | rfl | assumption | omega) (by first | rfl | assumption | omega)).2), hs2_f58, hs3_f58, hs6_f58⟩ hP hD hS dX11_readCoat_99 (Nat.le_refl _) (Nat.le_refl _)
  · skip
    have zc59 : (v49 1).toInt = 0 := by rw [fa_eq, show (0 : Int32).toInt = 0 from by decide] at c59; exact c59
    refine lv_aload_n hx hb dX11_readCoat_89 rfl (lv_at hl 0 rfl) ?_
    refine lv_dup hx hb dX11_readCoat_90 rfl ?_
    refine va_get (D := (dC, dI)) (ci := 11) (v := .int (v49 18)) (C := RX11) (T := TX11) (N := 79) hx hb hts inB_11 hown hE.1 hP 0 rfl rfl 42 (by decide) (hts _ k_1362) (fun _ h9 => h9) rfl dX11_readCoat_91 ?_
    refine tI (y := (v 18)) hq18_v49 ?_
    have b18_v : 0 ≤ (v 18).toInt ∧ (v 18).toInt ≤ 6 := YIb.b hIv.1 18 (by decide)
    refine lv_iconst (v := 1) hx hb dX11_readCoat_94 (by decide) ?_
    refine lv_iadd hx hb dX11_readCoat_95 ?_
    refine lv_topi (fun t60 et60 => ?_)
    have rg61 := fb_rng (v 18)
    have zt60 : t60.toInt = (v 18).toInt + 1 := by rw [et60]; exact add_i rfl (by decide) (by omega) (by omega)
    refine va_put (D := (dC, dI)) (ci := 11) (v := .int t60) (ty := tyX11 42) (C := RX11) (T := TX11) (N := 79) hx hb hts inB_11 tyX11 tyX11_ok nmX11 hown hE.1 hP hD hS 0 rfl rfl 42 (by decide) (hts _ k_1362) (fun _ h9 => h9) rfl (tyX11_ok 42 (by decide)) rfl rfl (Nat.le_of_ble_eq_true rfl) dX11_readCoat_96 (fun H locs hP hD hS => ?_)
    have hP : va_P (dC, dI) vwCl (YW cy y0 r (upd v49 18 t60) f58 w51 g52) H := hP
    have hD : va_D A (YW cy y0 r (upd v49 18 t60) f58 w51 g52) := hD
    exact ret ((upd v49 18 t60), f58, w51, g52) _ _ _ _ _ _ ⟨(gsY_X11_readCoat_1_q1 hG1 hG12 ef22 hG24 ef34 hG36 ef46 hG48 ef58 c59 et60), (KV.up (j := 18) (x := t60) hM_v49 rfl), hA_f58, ⟨(YIb.upd (j := 18) (x := t60) hIv49.1 (show (0 : Int) ≤ t60.toInt by omega) (show t60.toInt ≤ (6 : Int) by omega)), hIv49.2⟩, hCf58, hRf58, (hk0_v49.trans (hk0_v37.trans (hk0_v25.trans (hk0_v13.trans hk0_v2)))), (hk4_v49.trans (hk4_v37.trans (hk4_v25.trans (hk4_v13.trans hk4_v2)))), (hk8_v49.trans (hk8_v37.trans (hk8_v25.trans (hk8_v13.trans hk8_v2)))), (hk9_v49.trans (hk9_v37.trans (hk9_v25.trans (hk9_v13.trans hk9_v2)))), (hk10_v49.trans (hk10_v37.trans (hk10_v25.trans (hk10_v13.trans hk10_v2)))), (hk13_v49.trans (hk13_v37.trans (hk13_v25.trans (hk13_v13.trans hk13_v2)))), (hk14_v49.trans (hk14_v37.trans (hk14_v25.trans (hk14_v13.trans hk14_v2)))), (hk15_v49.trans (hk15_v37.trans (hk15_v25.trans (hk15_v13.trans hk15_v2)))), (hk17_v49.trans (hk17_v37.trans (hk17_v25.trans (hk17_v13.trans hk17_v2)))), (hk24_v49.trans (hk24_v37.trans (hk24_v25.trans (hk24_v13.trans hk24_v2)))), (hk25_v49.trans (hk25_v37.trans (hk25_v25.trans (hk25_v13.trans hk25_v2)))), (hk35_v49.trans (hk35_v37.trans (hk35_v25.trans (hk35_v13.trans hk35_v2)))), (hk36_v49.trans (hk36_v37.trans (hk36_v25.trans (hk36_v13.trans hk36_v2)))), (hk38_v49.trans (hk38_v37.trans (hk38_v25.trans (hk38_v13.trans hk38_v2)))), (hk39_v49.trans (hk39_v37.trans (hk39_v25.trans (hk39_v13.trans hk39_v2)))), (by show (v 3).toInt ≤ (v49 3).toInt; exact (GR.cast hGR (by first | rfl | assumption | omega) (by first | rfl | assumption | omega)).1), (by show (v49 5).toInt = (v 5).toInt ∨ (v 3).toInt < (v49 3).toInt ∨ ¬ (v49 5).toInt = 59; exact (GR.cast hGR (by first | rfl | assumption | omega) (by first | rfl | assumption | omega)).2), hs2_f58, hs3_f58, hs6_f58⟩ hP hD hS dX11_readCoat_99 (Nat.le_refl _) (Nat.le_refl _)
