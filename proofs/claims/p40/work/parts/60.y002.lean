set_option maxHeartbeats 4000000 in
set_option maxRecDepth 100000 in
theorem sY_X11_told_1 (NF : Nat) (l : Launch) (dC : Nat → ClassId) (dI : Nat → Nat → Nat) (cy : Nat → ClassId) (y0 : Nat) (r : Nat → Nat) (j1 : Int64) (p2 : Int32) (v : Nat → Int32) (f : Nat → Nat → Int32) (w : Int64) (g : Nat → Int64) (hIv : YI v) (hCf : YC f) (hRf : progOK (f 4) (f 5) (v 9).toInt.toNat)  : ctI l (dC, dI) cy yX11_told cX11_told 4 .int 4 126 0 0 ((Nat → Int32) × (Nat → Nat → Int32) × (Int64) × (Nat → Int64)) [.ref y0, .long j1, .int p2] (YW cy y0 r v f w g) (fun r u => gsY_X11_told_1 NF j1 p2 v f w g = (r, u) ∧ KV [1, 2, 3, 5, 6, 7] u.1 v ∧ KF [] u.2.1 f ∧ YI u.1 ∧ YC u.2.1 ∧ progOK (u.2.1 4) (u.2.1 5) (u.1 9).toInt.toNat ∧ u.1 0 = v 0 ∧ u.1 4 = v 4 ∧ u.1 8 = v 8 ∧ u.1 9 = v 9 ∧ u.1 10 = v 10 ∧ u.1 13 = v 13 ∧ u.1 14 = v 14 ∧ u.1 15 = v 15 ∧ u.1 17 = v 17 ∧ u.1 18 = v 18 ∧ u.1 24 = v 24 ∧ u.1 25 = v 25 ∧ u.1 35 = v 35 ∧ u.1 36 = v 36 ∧ u.1 38 = v 38 ∧ u.1 39 = v 39 ∧ ((v 3).toInt ≤ (u.1 3).toInt) ∧ ((u.1 5).toInt = (v 5).toInt ∨ (v 3).toInt < (u.1 3).toInt ∨ ¬ (u.1 5).toInt = 59) ∧ u.2.1 2 = f 2 ∧ u.2.1 3 = f 3 ∧ u.2.1 6 = f 6) (fun u => YW cy y0 r u.1 u.2.1 u.2.2.1 u.2.2.2) := by
  refine ctI_of (by decide) (Nat.le_of_ble_eq_true rfl) (fun p e s m below meth c A ls Q hx hb hml hts hown hE hP hD hA hl ret => ?_)
  have hUv : (v 35).toInt + (v 36).toInt ≤ 40 := hIv.2
  have hM_v : KV [1, 2, 3, 5, 6, 7] v v := fun _ _ => rfl
  have hA_f : KF [] f f := fun _ _ => rfl
  have b0_v : (0 : Int) ≤ (v 0).toInt ∧ (v 0).toInt ≤ 1600 := YIb.b hIv.1 0 (by decide)
  have b1_v : (0 : Int) ≤ (v 1).toInt ∧ (v 1).toInt ≤ 4 := YIb.b hIv.1 1 (by decide)
  have b8_v : (0 : Int) ≤ (v 8).toInt ∧ (v 8).toInt ≤ 320 := YIb.b hIv.1 8 (by decide)
  have b10_v : (0 : Int) ≤ (v 10).toInt ∧ (v 10).toInt ≤ 160 := YIb.b hIv.1 10 (by decide)
  have b13_v : (0 : Int) ≤ (v 13).toInt ∧ (v 13).toInt ≤ 31 := YIb.b hIv.1 13 (by decide)
  have b14_v : (0 : Int) ≤ (v 14).toInt ∧ (v 14).toInt ≤ 8 := YIb.b hIv.1 14 (by decide)
  have b15_v : (0 : Int) ≤ (v 15).toInt ∧ (v 15).toInt ≤ 1 := YIb.b hIv.1 15 (by decide)
  have b17_v : (0 : Int) ≤ (v 17).toInt ∧ (v 17).toInt ≤ 6 := YIb.b hIv.1 17 (by decide)
  have b18_v : (0 : Int) ≤ (v 18).toInt ∧ (v 18).toInt ≤ 6 := YIb.b hIv.1 18 (by decide)
  have hGR : GR (v 3).toInt (v 5).toInt (v 3).toInt (v 5).toInt := GR.refl _ _
  have hown : s.vm.findClass RX11 = some m.cls := hown
  have hS : va_S A s.heap s.heap [] := va_S.rf
  have hl : lv_has ls 4 [(0, .ref y0), (1, .long j1), (3, .int p2)] := hl
  refine lv_aload_n hx hb dX11_told_0 rfl (lv_at hl 0 rfl) ?_
  refine lv_lload_n hx hb dX11_told_1 rfl (lv_at hl 1 rfl) ?_
  refine cbVv (n := 1) (rest := []) hx hb hml hown hts hE hP hD hS hA (sY_X11_want_1 NF l dC dI cy y0 r j1 v f w g hIv hCf hRf ) k_1649 k_1651 k_52 k_114 k_1652 (by decide +kernel) ⟨Nat.le_of_ble_eq_true rfl, Nat.le_of_ble_eq_true rfl⟩ 0 11 rfl rfl (rfl) hl.1 rfl (Nat.le_of_ble_eq_true rfl) dX11_told_2 (fun u H locs hw hP hD hS => ?_)
  obtain ⟨hG1, hw⟩ := hw
  obtain ⟨v2, f3, w4, g5⟩ := u
  obtain ⟨kV_v2, kF_f3, hIv2, hCf3, hRf3, hk0_v2, hk4_v2, hk8_v2, hk9_v2, hk10_v2, hk13_v2, hk14_v2, hk15_v2, hk17_v2, hk18_v2, hk24_v2, hk25_v2, hk35_v2, hk36_v2, hk38_v2, hk39_v2, pv6, pv7, kq8, kq9, kq10⟩ := hw
  have hM_v2 : KV [1, 2, 3, 5, 6, 7] v2 v := KV.tr kV_v2 hM_v rfl
  have hA_f3 : KF [] f3 f := KF.tr kF_f3 hA_f rfl
  have hP : va_P (dC, dI) vwCl (YW cy y0 r v2 f3 w4 g5) H := hP
  have hD : va_D A (YW cy y0 r v2 f3 w4 g5) := hD
  have b3_v2 : 0 ≤ (v2 3).toInt ∧ (v2 3).toInt ≤ 1600 := YIb.b hIv2.1 3 (by decide)
  have pv6 : (v 3).toInt ≤ (v2 3).toInt := pv6
  have pv7 : (v2 5).toInt = (v 5).toInt ∨ (v 3).toInt < (v2 3).toInt ∨ ¬ (v2 5).toInt = 59 := pv7
  have hs2_f3 : f3 2 = (f 2) := kq8
  have hs3_f3 : f3 3 = (f 3) := kq9
  have hs6_f3 : f3 6 = (f 6) := kq10
  have hUv2 : (v2 35).toInt + (v2 36).toInt ≤ 40 := hIv2.2
  have hq0_v2 : v2 0 = (v 0) := hk0_v2
  have zq0_v2 := congrArg Int32.toInt hq0_v2
  have hq8_v2 : v2 8 = (v 8) := hk8_v2
  have zq8_v2 := congrArg Int32.toInt hq8_v2
  have hq9_v2 : v2 9 = (v 9) := hk9_v2
  have zq9_v2 := congrArg Int32.toInt hq9_v2
  have hq10_v2 : v2 10 = (v 10) := hk10_v2
  have zq10_v2 := congrArg Int32.toInt hq10_v2
  have hq13_v2 : v2 13 = (v 13) := hk13_v2
  have zq13_v2 := congrArg Int32.toInt hq13_v2
  have hq14_v2 : v2 14 = (v 14) := hk14_v2
  have zq14_v2 := congrArg Int32.toInt hq14_v2
  have hq15_v2 : v2 15 = (v 15) := hk15_v2
  have zq15_v2 := congrArg Int32.toInt hq15_v2
  have hq17_v2 : v2 17 = (v 17) := hk17_v2
  have zq17_v2 := congrArg Int32.toInt hq17_v2
  have hq18_v2 : v2 18 = (v 18) := hk18_v2
  have zq18_v2 := congrArg Int32.toInt hq18_v2
  have hGR : GR (v 3).toInt (v 5).toInt (v2 3).toInt (v2 5).toInt := GR.tr hGR (show GR (v 3).toInt (v 5).toInt (v2 3).toInt (v2 5).toInt from ⟨pv6, pv7⟩) (by first | with_reducible rfl | with_reducible assumption | rfl | omega) (by first | with_reducible rfl | with_reducible assumption | rfl | omega)
  clear pv7
  refine lv_aload_n hx hb dX11_told_5 rfl (lv_at hl 0 rfl) ?_
  refine lv_iconst (v := 0) hx hb dX11_told_6 (by decide) ?_
  refine lv_iload_n hx hb dX11_told_7 rfl (lv_at hl 2 rfl) ?_
  refine cbVi (n := 2) (rest := []) hx hb hml hown hts hE hP hD hS hA (sY_X11_toldNumber_1 NF l dC dI cy y0 r 0 p2 v2 f3 w4 g5 hIv2 hCf3 hRf3 ) k_1653 k_1655 k_53 k_114 k_1656 (by decide +kernel) ⟨Nat.le_of_ble_eq_true rfl, Nat.le_of_ble_eq_true rfl⟩ 0 11 rfl rfl (rfl) hl.1 rfl (Nat.le_of_ble_eq_true rfl) dX11_told_8 (fun r11 u H locs hw hP hD hS => ?_)
  obtain ⟨hG12, hw⟩ := hw
  obtain ⟨v13, f14, w15, g16⟩ := u
  obtain ⟨kV_v13, kF_f14, hIv13, hCf14, hRf14, hk0_v13, hk4_v13, hk8_v13, hk9_v13, hk10_v13, hk13_v13, hk14_v13, hk15_v13, hk17_v13, hk18_v13, hk24_v13, hk25_v13, hk35_v13, hk36_v13, hk38_v13, hk39_v13, pv17, pv18, kq19, kq20, kq21⟩ := hw
  have hM_v13 : KV [1, 2, 3, 5, 6, 7] v13 v := KV.tr kV_v13 hM_v2 rfl
  have hA_f14 : KF [] f14 f := KF.tr kF_f14 hA_f3 rfl
  have hP : va_P (dC, dI) vwCl (YW cy y0 r v13 f14 w15 g16) H := hP
  have hD : va_D A (YW cy y0 r v13 f14 w15 g16) := hD
  have b3_v13 : 0 ≤ (v13 3).toInt ∧ (v13 3).toInt ≤ 1600 := YIb.b hIv13.1 3 (by decide)
  have pv17 : (v2 3).toInt ≤ (v13 3).toInt := pv17
  have pv18 : (v13 5).toInt = (v2 5).toInt ∨ (v2 3).toInt < (v13 3).toInt ∨ ¬ (v13 5).toInt = 59 := pv18
  have hs2_f14 : f14 2 = (f 2) := kq19.trans hs2_f3
  have hs3_f14 : f14 3 = (f 3) := kq20.trans hs3_f3
  have hs6_f14 : f14 6 = (f 6) := kq21.trans hs6_f3
  have hUv13 : (v13 35).toInt + (v13 36).toInt ≤ 40 := hIv13.2
  have hq0_v13 : v13 0 = (v 0) := hk0_v13.trans hq0_v2
  have zq0_v13 := congrArg Int32.toInt hq0_v13
  try clear zq0_v2
  have hq8_v13 : v13 8 = (v 8) := hk8_v13.trans hq8_v2
  have zq8_v13 := congrArg Int32.toInt hq8_v13
  try clear zq8_v2
  have hq9_v13 : v13 9 = (v 9) := hk9_v13.trans hq9_v2
  have zq9_v13 := congrArg Int32.toInt hq9_v13
  try clear zq9_v2
  have hq10_v13 : v13 10 = (v 10) := hk10_v13.trans hq10_v2
  have zq10_v13 := congrArg Int32.toInt hq10_v13
  try clear zq10_v2
  have hq13_v13 : v13 13 = (v 13) := hk13_v13.trans hq13_v2
  have zq13_v13 := congrArg Int32.toInt hq13_v13
  try clear zq13_v2
  have hq14_v13 : v13 14 = (v 14) := hk14_v13.trans hq14_v2
  have zq14_v13 := congrArg Int32.toInt hq14_v13
  try clear zq14_v2
  have hq15_v13 : v13 15 = (v 15) := hk15_v13.trans hq15_v2
  have zq15_v13 := congrArg Int32.toInt hq15_v13
  try clear zq15_v2
  have hq17_v13 : v13 17 = (v 17) := hk17_v13.trans hq17_v2
  have zq17_v13 := congrArg Int32.toInt hq17_v13
  try clear zq17_v2
  have hq18_v13 : v13 18 = (v 18) := hk18_v13.trans hq18_v2
  have zq18_v13 := congrArg Int32.toInt hq18_v13
  try clear zq18_v2
  have hGR : GR (v 3).toInt (v 5).toInt (v13 3).toInt (v13 5).toInt := GR.tr hGR (show GR (v2 3).toInt (v2 5).toInt (v13 3).toInt (v13 5).toInt from ⟨pv17, pv18⟩) (by first | with_reducible rfl | with_reducible assumption | rfl | omega) (by first | with_reducible rfl | with_reducible assumption | rfl | omega)
  clear pv18
  exact ret r11 (v13, f14, w15, g16) _ _ _ _ _ _ rfl ⟨(gsY_X11_told_1_q0 hG1 hG12), hM_v13, hA_f14, hIv13, hCf14, hRf14, (hk0_v13.trans hk0_v2), (hk4_v13.trans hk4_v2), (hk8_v13.trans hk8_v2), (hk9_v13.trans hk9_v2), (hk10_v13.trans hk10_v2), (hk13_v13.trans hk13_v2), (hk14_v13.trans hk14_v2), (hk15_v13.trans hk15_v2), (hk17_v13.trans hk17_v2), (hk18_v13.trans hk18_v2), (hk24_v13.trans hk24_v2), (hk25_v13.trans hk25_v2), (hk35_v13.trans hk35_v2), (hk36_v13.trans hk36_v2), (hk38_v13.trans hk38_v2), (hk39_v13.trans hk39_v2), (by show (v 3).toInt ≤ (v13 3).toInt; exact (GR.cast hGR (by first | with_reducible rfl | with_reducible assumption | rfl | omega) (by first | with_reducible rfl | with_reducible assumption | rfl | omega)).1), (by show (v13 5).toInt = (v 5).toInt ∨ (v 3).toInt < (v13 3).toInt ∨ ¬ (v13 5).toInt = 59; exact (GR.cast hGR (by first | with_reducible rfl | with_reducible assumption | rfl | omega) (by first | with_reducible rfl | with_reducible assumption | rfl | omega)).2), hs2_f14, hs3_f14, hs6_f14⟩ hP hD hS dX11_told_11 (Nat.le_refl _) (Nat.le_refl _)
set_option maxHeartbeats 4000000 in
set_option maxRecDepth 100000 in
theorem sY_X11_asked_1 (NF : Nat) (l : Launch) (dC : Nat → ClassId) (dI : Nat → Nat → Nat) (cy : Nat → ClassId) (y0 : Nat) (r : Nat → Nat)  (v : Nat → Int32) (f : Nat → Nat → Int32) (w : Int64) (g : Nat → Int64) (hIv : YI v) (hCf : YC f) (hRf : progOK (f 4) (f 5) (v 9).toInt.toNat)  : ctI l (dC, dI) cy yX11_asked cX11_asked 1 .int 1 60 0 0 Unit [.ref y0] (YW cy y0 r v f w g) (fun r u => gsY_X11_asked_1 NF v f w g = r ∧ ((-1 : Int) ≤ r.toInt ∧ r.toInt ≤ 5)) (fun u => YW cy y0 r v f w g) := by
  refine ctI_of (by decide) (Nat.le_of_ble_eq_true rfl) (fun p e s m below meth c A ls Q hx hb hml hts hown hE hP hD hA hl ret => ?_)
  have hUv : (v 35).toInt + (v 36).toInt ≤ 40 := hIv.2
  have hown : s.vm.findClass RX11 = some m.cls := hown
  have hS : va_S A s.heap s.heap [] := va_S.rf
  have hl : lv_has ls 1 [(0, .ref y0)] := hl
  refine lv_aload_n hx hb dX11_asked_0 rfl (lv_at hl 0 rfl) ?_
  refine va_get (D := (dC, dI)) (ci := 11) (v := .int (v 5)) (C := RX11) (T := TX11) (N := 79) hx hb hts inB_11 hown hE.1 hP 0 rfl rfl 6 (by decide) (hts _ k_1326) (fun _ h9 => h9) rfl dX11_asked_1 ?_
  refine lv_iconst (v := 1) hx hb dX11_asked_4 (by decide) ?_
  refine lv_icmp_eq (tgt := 10) hx hb dX11_asked_5 (by decide) (fun c1 => ?_) (fun c1 => ?_)
  · skip
    have zc1 : (v 5).toInt = 1 := by rw [fa_eq, show (1 : Int32).toInt = 1 from by decide] at c1; exact c1
    refine lv_aload_n hx hb dX11_asked_10 rfl (lv_at hl 0 rfl) ?_
    refine va_get (D := (dC, dI)) (ci := 11) (v := .long w) (C := RX11) (T := TX11) (N := 79) hx hb hts inB_11 hown hE.1 hP 0 rfl rfl 9 (by decide) (hts _ k_1329) (fun _ h9 => h9) rfl dX11_asked_11 ?_
    refine lv_ldc2 (v := 499984590964) hx hb hown (hts _ k_1633) dX11_asked_14 ?_
    refine W.lcmp hx hb dX11_asked_17 ?_
    refine lv_topi (fun t2 et2 => ?_)
    refine lv_if_ne (tgt := 23) hx hb dX11_asked_18 (by decide) (fun c3 => ?_) (fun c3 => ?_)
    · skip
      have zc3 : ¬ (t2.toInt = 0) := by rw [fa_eq, show (0 : Int32).toInt = 0 from by decide] at c3; exact c3
      refine lv_aload_n hx hb dX11_asked_23 rfl (lv_at hl 0 rfl) ?_
      refine va_get (D := (dC, dI)) (ci := 11) (v := .long w) (C := RX11) (T := TX11) (N := 79) hx hb hts inB_11 hown hE.1 hP 0 rfl rfl 9 (by decide) (hts _ k_1329) (fun _ h9 => h9) rfl dX11_asked_24 ?_
      refine lv_ldc2 (v := 465726042981) hx hb hown (hts _ k_1634) dX11_asked_27 ?_
      refine W.lcmp hx hb dX11_asked_30 ?_
      refine lv_topi (fun t4 et4 => ?_)
      refine lv_if_ne (tgt := 36) hx hb dX11_asked_31 (by decide) (fun c5 => ?_) (fun c5 => ?_)
      · skip
        have zc5 : ¬ (t4.toInt = 0) := by rw [fa_eq, show (0 : Int32).toInt = 0 from by decide] at c5; exact c5
        refine lv_aload_n hx hb dX11_asked_36 rfl (lv_at hl 0 rfl) ?_
        refine va_get (D := (dC, dI)) (ci := 11) (v := .long w) (C := RX11) (T := TX11) (N := 79) hx hb hts inB_11 hown hE.1 hP 0 rfl rfl 9 (by decide) (hts _ k_1329) (fun _ h9 => h9) rfl dX11_asked_37 ?_
        refine lv_ldc2 (v := 495673373300) hx hb hown (hts _ k_1635) dX11_asked_40 ?_
        refine W.lcmp hx hb dX11_asked_43 ?_
        refine lv_topi (fun t6 et6 => ?_)
        refine lv_if_ne (tgt := 49) hx hb dX11_asked_44 (by decide) (fun c7 => ?_) (fun c7 => ?_)
        · skip
          have zc7 : ¬ (t6.toInt = 0) := by rw [fa_eq, show (0 : Int32).toInt = 0 from by decide] at c7; exact c7
          refine lv_aload_n hx hb dX11_asked_49 rfl (lv_at hl 0 rfl) ?_
          refine va_get (D := (dC, dI)) (ci := 11) (v := .long w) (C := RX11) (T := TX11) (N := 79) hx hb hts inB_11 hown hE.1 hP 0 rfl rfl 9 (by decide) (hts _ k_1329) (fun _ h9 => h9) rfl dX11_asked_50 ?_
          refine lv_ldc2 (v := 1819242087) hx hb hown (hts _ k_1636) dX11_asked_53 ?_
          refine W.lcmp hx hb dX11_asked_56 ?_
          refine lv_topi (fun t8 et8 => ?_)
          refine lv_if_ne (tgt := 62) hx hb dX11_asked_57 (by decide) (fun c9 => ?_) (fun c9 => ?_)
          · skip
            have zc9 : ¬ (t8.toInt = 0) := by rw [fa_eq, show (0 : Int32).toInt = 0 from by decide] at c9; exact c9
            refine lv_aload_n hx hb dX11_asked_62 rfl (lv_at hl 0 rfl) ?_
            refine va_get (D := (dC, dI)) (ci := 11) (v := .long w) (C := RX11) (T := TX11) (N := 79) hx hb hts inB_11 hown hE.1 hP 0 rfl rfl 9 (by decide) (hts _ k_1329) (fun _ h9 => h9) rfl dX11_asked_63 ?_
            refine lv_ldc2 (v := 2003792494) hx hb hown (hts _ k_1626) dX11_asked_66 ?_
            refine W.lcmp hx hb dX11_asked_69 ?_
            refine lv_topi (fun t10 et10 => ?_)
            refine lv_if_ne (tgt := 75) hx hb dX11_asked_70 (by decide) (fun c11 => ?_) (fun c11 => ?_)
            · skip
              have zc11 : ¬ (t10.toInt = 0) := by rw [fa_eq, show (0 : Int32).toInt = 0 from by decide] at c11; exact c11
              refine lv_aload_n hx hb dX11_asked_75 rfl (lv_at hl 0 rfl) ?_
              refine va_get (D := (dC, dI)) (ci := 11) (v := .long w) (C := RX11) (T := TX11) (N := 79) hx hb hts inB_11 hown hE.1 hP 0 rfl rfl 9 (by decide) (hts _ k_1329) (fun _ h9 => h9) rfl dX11_asked_76 ?_
              refine lv_ldc2 (v := 6578553) hx hb hown (hts _ k_1637) dX11_asked_79 ?_
              refine W.lcmp hx hb dX11_asked_82 ?_
              refine lv_topi (fun t12 et12 => ?_)
              refine lv_if_ne (tgt := 90) hx hb dX11_asked_83 (by decide) (fun c13 => ?_) (fun c13 => ?_)
              · skip
                have zc13 : ¬ (t12.toInt = 0) := by rw [fa_eq, show (0 : Int32).toInt = 0 from by decide] at c13; exact c13
                refine lv_iconst (v := (-1)) hx hb dX11_asked_90 (by decide) ?_
                exact ret (-1) () _ _ _ _ _ _ rfl ⟨(gsY_X11_asked_1_q0 c1 et2 c3 et4 c5 et6 c7 et8 c9 et10 c11 et12 c13), ⟨by decide, by decide⟩⟩ hP hD hS dX11_asked_91 (Nat.le_refl _) (Nat.le_refl _)
              · skip
                have zc13 : t12.toInt = 0 := by rw [fa_eq, show (0 : Int32).toInt = 0 from by decide] at c13; exact c13
                refine lv_iconst (v := 5) hx hb dX11_asked_86 (by decide) ?_
                refine lv_goto (tgt := 91) hx hb dX11_asked_87 (by decide) ?_
                exact ret 5 () _ _ _ _ _ _ rfl ⟨(gsY_X11_asked_1_q1 c1 et2 c3 et4 c5 et6 c7 et8 c9 et10 c11 et12 c13), ⟨by decide, by decide⟩⟩ hP hD hS dX11_asked_91 (Nat.le_refl _) (Nat.le_refl _)
            · skip
              have zc11 : t10.toInt = 0 := by rw [fa_eq, show (0 : Int32).toInt = 0 from by decide] at c11; exact c11
              refine lv_iconst (v := 4) hx hb dX11_asked_73 (by decide) ?_
              exact ret 4 () _ _ _ _ _ _ rfl ⟨(gsY_X11_asked_1_q2 c1 et2 c3 et4 c5 et6 c7 et8 c9 et10 c11), ⟨by decide, by decide⟩⟩ hP hD hS dX11_asked_74 (Nat.le_refl _) (Nat.le_refl _)
          · skip
            have zc9 : t8.toInt = 0 := by rw [fa_eq, show (0 : Int32).toInt = 0 from by decide] at c9; exact c9
            refine lv_iconst (v := 3) hx hb dX11_asked_60 (by decide) ?_
            exact ret 3 () _ _ _ _ _ _ rfl ⟨(gsY_X11_asked_1_q3 c1 et2 c3 et4 c5 et6 c7 et8 c9), ⟨by decide, by decide⟩⟩ hP hD hS dX11_asked_61 (Nat.le_refl _) (Nat.le_refl _)
        · skip
          have zc7 : t6.toInt = 0 := by rw [fa_eq, show (0 : Int32).toInt = 0 from by decide] at c7; exact c7
          refine lv_iconst (v := 2) hx hb dX11_asked_47 (by decide) ?_
          exact ret 2 () _ _ _ _ _ _ rfl ⟨(gsY_X11_asked_1_q4 c1 et2 c3 et4 c5 et6 c7), ⟨by decide, by decide⟩⟩ hP hD hS dX11_asked_48 (Nat.le_refl _) (Nat.le_refl _)
      · skip
        have zc5 : t4.toInt = 0 := by rw [fa_eq, show (0 : Int32).toInt = 0 from by decide] at c5; exact c5
        refine lv_iconst (v := 1) hx hb dX11_asked_34 (by decide) ?_
        exact ret 1 () _ _ _ _ _ _ rfl ⟨(gsY_X11_asked_1_q5 c1 et2 c3 et4 c5), ⟨by decide, by decide⟩⟩ hP hD hS dX11_asked_35 (Nat.le_refl _) (Nat.le_refl _)
    · skip
      have zc3 : t2.toInt = 0 := by rw [fa_eq, show (0 : Int32).toInt = 0 from by decide] at c3; exact c3
      refine lv_iconst (v := 0) hx hb dX11_asked_21 (by decide) ?_
      exact ret 0 () _ _ _ _ _ _ rfl ⟨(gsY_X11_asked_1_q6 c1 et2 c3), ⟨by decide, by decide⟩⟩ hP hD hS dX11_asked_22 (Nat.le_refl _) (Nat.le_refl _)
  · skip
    have zc1 : ¬ ((v 5).toInt = 1) := by rw [fa_eq, show (1 : Int32).toInt = 1 from by decide] at c1; exact c1
    refine lv_iconst (v := (-1)) hx hb dX11_asked_8 (by decide) ?_
    exact ret (-1) () _ _ _ _ _ _ rfl ⟨(gsY_X11_asked_1_q7 c1), ⟨by decide, by decide⟩⟩ hP hD hS dX11_asked_9 (Nat.le_refl _) (Nat.le_refl _)
set_option maxHeartbeats 4000000 in
set_option maxRecDepth 100000 in
theorem sY_X11_countUnit_1 (NF : Nat) (l : Launch) (dC : Nat → ClassId) (dI : Nat → Nat → Nat) (cy : Nat → ClassId) (y0 : Nat) (r : Nat → Nat)  (v : Nat → Int32) (f : Nat → Nat → Int32) (w : Int64) (g : Nat → Int64) (hIv : YI v) (hCf : YC f) (hRf : progOK (f 4) (f 5) (v 9).toInt.toNat)  (hf0 : (v 13).toInt ≤ 30) : ctV l (dC, dI) cy yX11_countUnit cX11_countUnit 1 1 60 0 0 ((Nat → Int32) × (Nat → Nat → Int32) × (Int64) × (Nat → Int64)) [.ref y0] (YW cy y0 r v f w g) (fun u => gsY_X11_countUnit_1 NF v f w g = u ∧ KV [11, 13] u.1 v ∧ KF [] u.2.1 f ∧ YI u.1 ∧ YC u.2.1 ∧ progOK (u.2.1 4) (u.2.1 5) (u.1 9).toInt.toNat ∧ u.1 0 = v 0 ∧ u.1 1 = v 1 ∧ u.1 2 = v 2 ∧ u.1 3 = v 3 ∧ u.1 4 = v 4 ∧ u.1 5 = v 5 ∧ u.1 8 = v 8 ∧ u.1 9 = v 9 ∧ u.1 10 = v 10 ∧ u.1 14 = v 14 ∧ u.1 15 = v 15 ∧ u.1 17 = v 17 ∧ u.1 18 = v 18 ∧ u.1 24 = v 24 ∧ u.1 25 = v 25 ∧ u.1 35 = v 35 ∧ u.1 36 = v 36 ∧ u.1 38 = v 38 ∧ u.1 39 = v 39 ∧ ((u.1 13).toInt = (v 13).toInt + 1) ∧ u.2.1 2 = f 2 ∧ u.2.1 3 = f 3 ∧ u.2.1 6 = f 6) (fun u => YW cy y0 r u.1 u.2.1 u.2.2.1 u.2.2.2) := by
  refine ctV_of (by decide) (Nat.le_of_ble_eq_true rfl) (fun p e s m below meth c A ls Q hx hb hml hts hown hnm hE hP hD hA hl ret => ?_)
  have hUv : (v 35).toInt + (v 36).toInt ≤ 40 := hIv.2
  have hM_v : KV [11, 13] v v := fun _ _ => rfl
  have hA_f : KF [] f f := fun _ _ => rfl
  have b1_v : (0 : Int) ≤ (v 1).toInt ∧ (v 1).toInt ≤ 4 := YIb.b hIv.1 1 (by decide)
  have b3_v : (0 : Int) ≤ (v 3).toInt ∧ (v 3).toInt ≤ 1600 := YIb.b hIv.1 3 (by decide)
  have b8_v : (0 : Int) ≤ (v 8).toInt ∧ (v 8).toInt ≤ 320 := YIb.b hIv.1 8 (by decide)
  have b10_v : (0 : Int) ≤ (v 10).toInt ∧ (v 10).toInt ≤ 160 := YIb.b hIv.1 10 (by decide)
  have b13_v : (0 : Int) ≤ (v 13).toInt ∧ (v 13).toInt ≤ 31 := YIb.b hIv.1 13 (by decide)
  have b14_v : (0 : Int) ≤ (v 14).toInt ∧ (v 14).toInt ≤ 8 := YIb.b hIv.1 14 (by decide)
  have hown : s.vm.findClass RX11 = some m.cls := hown
  have hS : va_S A s.heap s.heap [] := va_S.rf
  have hl : lv_has ls 1 [(0, .ref y0)] := hl
  refine lv_aload_n hx hb dX11_countUnit_0 rfl (lv_at hl 0 rfl) ?_
  refine lv_dup hx hb dX11_countUnit_1 rfl ?_
  refine va_get (D := (dC, dI)) (ci := 11) (v := .int (v 11)) (C := RX11) (T := TX11) (N := 79) hx hb hts inB_11 hown hE.1 hP 0 rfl rfl 20 (by decide) (hts _ k_1340) (fun _ h9 => h9) rfl dX11_countUnit_2 ?_
  refine lv_iconst (v := 1) hx hb dX11_countUnit_5 (by decide) ?_
  refine lv_iadd hx hb dX11_countUnit_6 ?_
  refine lv_topi (fun t1 et1 => ?_)
  refine va_put (D := (dC, dI)) (ci := 11) (v := .int t1) (ty := tyX11 20) (C := RX11) (T := TX11) (N := 79) hx hb hts inB_11 tyX11 tyX11_ok nmX11 hown hE.1 hP hD hS 0 rfl rfl 20 (by decide) (hts _ k_1340) (fun _ h9 => h9) rfl (tyX11_ok 20 (by decide)) rfl rfl (Nat.le_of_ble_eq_true rfl) dX11_countUnit_7 (fun H locs hP hD hS => ?_)
  have hP : va_P (dC, dI) vwCl (YW cy y0 r (upd v 11 t1) f w g) H := hP
  have hD : va_D A (YW cy y0 r (upd v 11 t1) f w g) := hD
  refine lv_aload_n hx hb dX11_countUnit_10 rfl (lv_at hl 0 rfl) ?_
  refine lv_dup hx hb dX11_countUnit_11 rfl ?_
  refine va_get (D := (dC, dI)) (ci := 11) (v := .int (v 13)) (C := RX11) (T := TX11) (N := 79) hx hb hts inB_11 hown hE.1 hP 0 rfl rfl 22 (by decide) (hts _ k_1342) (fun _ h9 => h9) rfl dX11_countUnit_12 ?_
  have b13_v : 0 ≤ (v 13).toInt ∧ (v 13).toInt ≤ 31 := YIb.b hIv.1 13 (by decide)
  refine lv_iconst (v := 1) hx hb dX11_countUnit_15 (by decide) ?_
  refine lv_iadd hx hb dX11_countUnit_16 ?_
  refine lv_topi (fun t2 et2 => ?_)
  have rg3 := fb_rng (v 13)
  have zt2 : t2.toInt = (v 13).toInt + 1 := by rw [et2]; exact add_i rfl (by decide) (by omega) (by omega)
  refine va_put (D := (dC, dI)) (ci := 11) (v := .int t2) (ty := tyX11 22) (C := RX11) (T := TX11) (N := 79) hx hb hts inB_11 tyX11 tyX11_ok nmX11 hown hE.1 hP hD hS 0 rfl rfl 22 (by decide) (hts _ k_1342) (fun _ h9 => h9) rfl (tyX11_ok 22 (by decide)) rfl rfl (Nat.le_of_ble_eq_true rfl) dX11_countUnit_17 (fun H locs hP hD hS => ?_)
  have hP : va_P (dC, dI) vwCl (YW cy y0 r (upd (upd v 11 t1) 13 t2) f w g) H := hP
  have hD : va_D A (YW cy y0 r (upd (upd v 11 t1) 13 t2) f w g) := hD
  exact ret ((upd (upd v 11 t1) 13 t2), f, w, g) _ _ _ _ _ _ ⟨(gsY_X11_countUnit_1_q0 et1 et2), (KV.up (j := 13) (x := t2) (KV.up (j := 11) (x := t1) hM_v rfl) rfl), hA_f, ⟨(YIb.upd (j := 13) (x := t2) (YIb.upd (j := 11) (x := t1) hIv.1 (rlo _) (rhi _)) (show (0 : Int) ≤ t2.toInt by omega) (show t2.toInt ≤ (31 : Int) by omega)), hIv.2⟩, hCf, hRf, rfl, rfl, rfl, rfl, rfl, rfl, rfl, rfl, rfl, rfl, rfl, rfl, rfl, rfl, rfl, rfl, rfl, rfl, rfl, (by show t2.toInt = (v 13).toInt + 1; omega), rfl, rfl, rfl⟩ hP hD hS dX11_countUnit_20 (Nat.le_refl _) (Nat.le_refl _)
set_option maxHeartbeats 4000000 in
set_option maxRecDepth 100000 in
theorem sY_X11_add_1 (NF : Nat) (l : Launch) (dC : Nat → ClassId) (dI : Nat → Nat → Nat) (cy : Nat → ClassId) (y0 : Nat) (r : Nat → Nat) (p1 : Int32) (p2 : Int32) (v : Nat → Int32) (f : Nat → Nat → Int32) (w : Int64) (g : Nat → Int64) (hIv : YI v) (hCf : YC f) (hRf : progOK (f 4) (f 5) (v 9).toInt.toNat)  (hf0 : (v 8).toInt ≤ 319) : ctV l (dC, dI) cy yX11_add cX11_add 3 1 60 0 0 ((Nat → Int32) × (Nat → Nat → Int32) × (Int64) × (Nat → Int64)) [.ref y0, .int p1, .int p2] (YW cy y0 r v f w g) (fun u => gsY_X11_add_1 NF p1 p2 v f w g = u ∧ KV [8] u.1 v ∧ KF [2, 3] u.2.1 f ∧ YI u.1 ∧ YC u.2.1 ∧ progOK (u.2.1 4) (u.2.1 5) (u.1 9).toInt.toNat ∧ u.1 0 = v 0 ∧ u.1 1 = v 1 ∧ u.1 2 = v 2 ∧ u.1 3 = v 3 ∧ u.1 4 = v 4 ∧ u.1 5 = v 5 ∧ u.1 9 = v 9 ∧ u.1 10 = v 10 ∧ u.1 13 = v 13 ∧ u.1 14 = v 14 ∧ u.1 15 = v 15 ∧ u.1 17 = v 17 ∧ u.1 18 = v 18 ∧ u.1 24 = v 24 ∧ u.1 25 = v 25 ∧ u.1 35 = v 35 ∧ u.1 36 = v 36 ∧ u.1 38 = v 38 ∧ u.1 39 = v 39 ∧ ((u.1 8).toInt = (v 8).toInt + 1) ∧ ((u.2.1 2) = upd (f 2) ((v 8).toInt).toNat p1) ∧ ((u.2.1 3) = upd (f 3) ((v 8).toInt).toNat p2) ∧ u.2.1 6 = f 6) (fun u => YW cy y0 r u.1 u.2.1 u.2.2.1 u.2.2.2) := by
  refine ctV_of (by decide) (Nat.le_of_ble_eq_true rfl) (fun p e s m below meth c A ls Q hx hb hml hts hown hnm hE hP hD hA hl ret => ?_)
  have hUv : (v 35).toInt + (v 36).toInt ≤ 40 := hIv.2
  have hM_v : KV [8] v v := fun _ _ => rfl
  have hA_f : KF [2, 3] f f := fun _ _ => rfl
  have b1_v : (0 : Int) ≤ (v 1).toInt ∧ (v 1).toInt ≤ 4 := YIb.b hIv.1 1 (by decide)
  have b3_v : (0 : Int) ≤ (v 3).toInt ∧ (v 3).toInt ≤ 1600 := YIb.b hIv.1 3 (by decide)
  have b8_v : (0 : Int) ≤ (v 8).toInt ∧ (v 8).toInt ≤ 320 := YIb.b hIv.1 8 (by decide)
  have b10_v : (0 : Int) ≤ (v 10).toInt ∧ (v 10).toInt ≤ 160 := YIb.b hIv.1 10 (by decide)
  have b13_v : (0 : Int) ≤ (v 13).toInt ∧ (v 13).toInt ≤ 31 := YIb.b hIv.1 13 (by decide)
  have b14_v : (0 : Int) ≤ (v 14).toInt ∧ (v 14).toInt ≤ 8 := YIb.b hIv.1 14 (by decide)
  have hown : s.vm.findClass RX11 = some m.cls := hown
  have hS : va_S A s.heap s.heap [] := va_S.rf
  have hl : lv_has ls 3 [(0, .ref y0), (1, .int p1), (2, .int p2)] := hl
  refine lv_aload_n hx hb dX11_add_0 rfl (lv_at hl 0 rfl) ?_
  refine va_get (D := (dC, dI)) (ci := 11) (v := .ref (r 11)) (C := RX11) (T := TX11) (N := 79) hx hb hts inB_11 hown hE.1 hP 0 rfl rfl 11 (by decide) (hts _ k_1331) (fun _ h9 => h9) rfl dX11_add_1 ?_
  refine lv_aload_n hx hb dX11_add_4 rfl (lv_at hl 0 rfl) ?_
  refine va_get (D := (dC, dI)) (ci := 11) (v := .int (v 8)) (C := RX11) (T := TX11) (N := 79) hx hb hts inB_11 hown hE.1 hP 0 rfl rfl 17 (by decide) (hts _ k_1337) (fun _ h9 => h9) rfl dX11_add_5 ?_
  have b8_v : 0 ≤ (v 8).toInt ∧ (v 8).toInt ≤ 320 := YIb.b hIv.1 8 (by decide)
  refine lv_iload_n hx hb dX11_add_8 rfl (lv_at hl 1 rfl) ?_
  refine stI hx hb hE hP hD hS 3 rfl (vp_in_iff.mpr ⟨by omega, by omega⟩) rfl dX11_add_9 (fun H locs hP hD hS => ?_)
  obtain ⟨f1, ef1, hP, hD⟩ : ∃ fz9, fz9 = upd2 f 2 (upd (f 2) (v 8).toNatClampNeg p1) ∧ va_P (dC, dI) vwCl (YW cy y0 r v fz9 w g) H ∧ va_D A (YW cy y0 r v fz9 w g) := ⟨_, rfl, hP, hD⟩
  have hCf1 : YC f1 := by rw [ef1]; exact hCf
  have hRf1 : progOK (f1 4) (f1 5) (v 9).toInt.toNat := by rw [ef1]; exact hRf
  have hs2_f1 : f1 2 = (upd (f 2) ((v 8).toInt.toNat) p1) := by rw [ef1]; show upd (f 2) ((v 8).toInt.toNat) p1 = _; rfl
  have hs3_f1 : f1 3 = (f 3) := by rw [ef1]; exact rfl
  have hs6_f1 : f1 6 = (f 6) := by rw [ef1]; exact rfl
  have hA_f1 : KF [2, 3] f1 f := by rw [ef1]; exact KF.up hA_f rfl
  refine lv_aload_n hx hb dX11_add_10 rfl (lv_at hl 0 rfl) ?_
  refine va_get (D := (dC, dI)) (ci := 11) (v := .ref (r 12)) (C := RX11) (T := TX11) (N := 79) hx hb hts inB_11 hown hE.1 hP 0 rfl rfl 12 (by decide) (hts _ k_1332) (fun _ h9 => h9) rfl dX11_add_11 ?_
  refine lv_aload_n hx hb dX11_add_14 rfl (lv_at hl 0 rfl) ?_
  refine va_get (D := (dC, dI)) (ci := 11) (v := .int (v 8)) (C := RX11) (T := TX11) (N := 79) hx hb hts inB_11 hown hE.1 hP 0 rfl rfl 17 (by decide) (hts _ k_1337) (fun _ h9 => h9) rfl dX11_add_15 ?_
  refine lv_iload_n hx hb dX11_add_18 rfl (lv_at hl 2 rfl) ?_
  refine stI hx hb hE hP hD hS 4 rfl (vp_in_iff.mpr ⟨by omega, by omega⟩) rfl dX11_add_19 (fun H locs hP hD hS => ?_)
  obtain ⟨f2, ef2, hP, hD⟩ : ∃ fz9, fz9 = upd2 f1 3 (upd (f1 3) (v 8).toNatClampNeg p2) ∧ va_P (dC, dI) vwCl (YW cy y0 r v fz9 w g) H ∧ va_D A (YW cy y0 r v fz9 w g) := ⟨_, rfl, hP, hD⟩
  have hCf2 : YC f2 := by rw [ef2]; exact hCf1
  have hRf2 : progOK (f2 4) (f2 5) (v 9).toInt.toNat := by rw [ef2]; exact hRf1
  have hs2_f2 : f2 2 = (upd (f 2) ((v 8).toInt.toNat) p1) := by rw [ef2]; exact hs2_f1
  have hs3_f2 : f2 3 = (upd (f 3) ((v 8).toInt.toNat) p2) := by rw [ef2]; show upd (f1 3) ((v 8).toInt.toNat) p2 = _; rw [hs3_f1]
  have hs6_f2 : f2 6 = (f 6) := by rw [ef2]; exact hs6_f1
  have hA_f2 : KF [2, 3] f2 f := by rw [ef2]; exact KF.up hA_f1 rfl
  refine lv_aload_n hx hb dX11_add_20 rfl (lv_at hl 0 rfl) ?_
  refine lv_dup hx hb dX11_add_21 rfl ?_
  refine va_get (D := (dC, dI)) (ci := 11) (v := .int (v 8)) (C := RX11) (T := TX11) (N := 79) hx hb hts inB_11 hown hE.1 hP 0 rfl rfl 17 (by decide) (hts _ k_1337) (fun _ h9 => h9) rfl dX11_add_22 ?_
  refine lv_iconst (v := 1) hx hb dX11_add_25 (by decide) ?_
  refine lv_iadd hx hb dX11_add_26 ?_
  refine lv_topi (fun t3 et3 => ?_)
  have rg4 := fb_rng (v 8)
  have zt3 : t3.toInt = (v 8).toInt + 1 := by rw [et3]; exact add_i rfl (by decide) (by omega) (by omega)
  refine va_put (D := (dC, dI)) (ci := 11) (v := .int t3) (ty := tyX11 17) (C := RX11) (T := TX11) (N := 79) hx hb hts inB_11 tyX11 tyX11_ok nmX11 hown hE.1 hP hD hS 0 rfl rfl 17 (by decide) (hts _ k_1337) (fun _ h9 => h9) rfl (tyX11_ok 17 (by decide)) rfl rfl (Nat.le_of_ble_eq_true rfl) dX11_add_27 (fun H locs hP hD hS => ?_)
  have hP : va_P (dC, dI) vwCl (YW cy y0 r (upd v 8 t3) f2 w g) H := hP
  have hD : va_D A (YW cy y0 r (upd v 8 t3) f2 w g) := hD
  exact ret ((upd v 8 t3), f2, w, g) _ _ _ _ _ _ ⟨(gsY_X11_add_1_q0 ef1 ef2 et3), (KV.up (j := 8) (x := t3) hM_v rfl), hA_f2, ⟨(YIb.upd (j := 8) (x := t3) hIv.1 (show (0 : Int) ≤ t3.toInt by omega) (show t3.toInt ≤ (320 : Int) by omega)), hIv.2⟩, hCf2, hRf2, rfl, rfl, rfl, rfl, rfl, rfl, rfl, rfl, rfl, rfl, rfl, rfl, rfl, rfl, rfl, rfl, rfl, rfl, rfl, (by show t3.toInt = (v 8).toInt + 1; omega), (by show (f2 2) = upd (f 2) ((v 8).toInt).toNat p1; rw [hs2_f2]; first | done | rfl), (by show (f2 3) = upd (f 3) ((v 8).toInt).toNat p2; rw [hs3_f2]; first | done | rfl), hs6_f2⟩ hP hD hS dX11_add_30 (Nat.le_refl _) (Nat.le_refl _)
set_option maxHeartbeats 4000000 in
set_option maxRecDepth 100000 in
theorem sY_X11_isFull_1 (NF : Nat) (l : Launch) (dC : Nat → ClassId) (dI : Nat → Nat → Nat) (cy : Nat → ClassId) (y0 : Nat) (r : Nat → Nat)  (v : Nat → Int32) (f : Nat → Nat → Int32) (w : Int64) (g : Nat → Int64) (hIv : YI v) (hCf : YC f) (hRf : progOK (f 4) (f 5) (v 9).toInt.toNat)  : ctI l (dC, dI) cy yX11_isFull cX11_isFull 1 .boolean 1 60 0 0 Unit [.ref y0] (YW cy y0 r v f w g) (fun r u => gsY_X11_isFull_1 NF v f w g = r ∧ ((r = 1) ∨ (r = 0 ∧ ¬ (v 13).toInt = 30))) (fun u => YW cy y0 r v f w g) := by
  refine ctI_of (by decide) (Nat.le_of_ble_eq_true rfl) (fun p e s m below meth c A ls Q hx hb hml hts hown hE hP hD hA hl ret => ?_)
  have hUv : (v 35).toInt + (v 36).toInt ≤ 40 := hIv.2
  have hown : s.vm.findClass RX11 = some m.cls := hown
  have hS : va_S A s.heap s.heap [] := va_S.rf
  have hl : lv_has ls 1 [(0, .ref y0)] := hl
  refine lv_aload_n hx hb dX11_isFull_0 rfl (lv_at hl 0 rfl) ?_
  refine va_get (D := (dC, dI)) (ci := 11) (v := .int (v 11)) (C := RX11) (T := TX11) (N := 79) hx hb hts inB_11 hown hE.1 hP 0 rfl rfl 20 (by decide) (hts _ k_1340) (fun _ h9 => h9) rfl dX11_isFull_1 ?_
  refine lv_bipush (v := 60) hx hb dX11_isFull_4 (by decide) ?_
  refine lv_icmp_eq (tgt := 18) hx hb dX11_isFull_6 (by decide) (fun c1 => ?_) (fun c1 => ?_)
  · skip
    have zc1 : (v 11).toInt = 60 := by rw [fa_eq, show (60 : Int32).toInt = 60 from by decide] at c1; exact c1
    refine lv_iconst (v := 1) hx hb dX11_isFull_18 (by decide) ?_
    refine lv_goto (tgt := 23) hx hb dX11_isFull_19 (by decide) ?_
    exact ret 1 () _ _ _ _ _ _ rfl ⟨(gsY_X11_isFull_1_q0 c1), (Or.inl rfl)⟩ hP hD hS dX11_isFull_23 (Nat.le_refl _) (Nat.le_refl _)
  · skip
    have zc1 : ¬ ((v 11).toInt = 60) := by rw [fa_eq, show (60 : Int32).toInt = 60 from by decide] at c1; exact c1
    refine lv_aload_n hx hb dX11_isFull_9 rfl (lv_at hl 0 rfl) ?_
    refine va_get (D := (dC, dI)) (ci := 11) (v := .int (v 13)) (C := RX11) (T := TX11) (N := 79) hx hb hts inB_11 hown hE.1 hP 0 rfl rfl 22 (by decide) (hts _ k_1342) (fun _ h9 => h9) rfl dX11_isFull_10 ?_
    have b13_v : 0 ≤ (v 13).toInt ∧ (v 13).toInt ≤ 31 := YIb.b hIv.1 13 (by decide)
    refine lv_bipush (v := 30) hx hb dX11_isFull_13 (by decide) ?_
    refine lv_icmp_ne (tgt := 22) hx hb dX11_isFull_15 (by decide) (fun c2 => ?_) (fun c2 => ?_)
    · skip
      have zc2 : ¬ ((v 13).toInt = 30) := by rw [fa_eq, show (30 : Int32).toInt = 30 from by decide] at c2; exact c2
      refine lv_iconst (v := 0) hx hb dX11_isFull_22 (by decide) ?_
      exact ret 0 () _ _ _ _ _ _ rfl ⟨(gsY_X11_isFull_1_q1 c1 c2), (Or.inr ⟨rfl, by omega⟩)⟩ hP hD hS dX11_isFull_23 (Nat.le_refl _) (Nat.le_refl _)
    · skip
      have zc2 : (v 13).toInt = 30 := by rw [fa_eq, show (30 : Int32).toInt = 30 from by decide] at c2; exact c2
      refine lv_iconst (v := 1) hx hb dX11_isFull_18 (by decide) ?_
      refine lv_goto (tgt := 23) hx hb dX11_isFull_19 (by decide) ?_
      exact ret 1 () _ _ _ _ _ _ rfl ⟨(gsY_X11_isFull_1_q2 c1 c2), (Or.inl rfl)⟩ hP hD hS dX11_isFull_23 (Nat.le_refl _) (Nat.le_refl _)
set_option maxHeartbeats 4000000 in
set_option maxRecDepth 100000 in
theorem sY_X11_openUp_1 (NF : Nat) (l : Launch) (dC : Nat → ClassId) (dI : Nat → Nat → Nat) (cy : Nat → ClassId) (y0 : Nat) (r : Nat → Nat) (p1 : Int32) (v : Nat → Int32) (f : Nat → Nat → Int32) (w : Int64) (g : Nat → Int64) (hIv : YI v) (hCf : YC f) (hRf : progOK (f 4) (f 5) (v 9).toInt.toNat)  (hf0 : (v 10).toInt ≤ 159) (hf1 : (v 14).toInt ≤ 7) : ctV l (dC, dI) cy yX11_openUp cX11_openUp 2 3 103 0 0 ((Nat → Int32) × (Nat → Nat → Int32) × (Int64) × (Nat → Int64)) [.ref y0, .int p1] (YW cy y0 r v f w g) (fun u => gsY_X11_openUp_1 NF p1 v f w g = u ∧ KV [3, 5, 6, 7, 10, 14] u.1 v ∧ KF [6] u.2.1 f ∧ YI u.1 ∧ YC u.2.1 ∧ progOK (u.2.1 4) (u.2.1 5) (u.1 9).toInt.toNat ∧ u.1 0 = v 0 ∧ u.1 1 = v 1 ∧ u.1 2 = v 2 ∧ u.1 4 = v 4 ∧ u.1 8 = v 8 ∧ u.1 9 = v 9 ∧ u.1 13 = v 13 ∧ u.1 15 = v 15 ∧ u.1 17 = v 17 ∧ u.1 18 = v 18 ∧ u.1 24 = v 24 ∧ u.1 25 = v 25 ∧ u.1 35 = v 35 ∧ u.1 36 = v 36 ∧ u.1 38 = v 38 ∧ u.1 39 = v 39 ∧ ((u.1 10).toInt = (v 10).toInt + 1) ∧ ((u.1 14).toInt = (v 14).toInt + 1) ∧ (GR (v 3).toInt (v 5).toInt (u.1 3).toInt (u.1 5).toInt) ∧ ((u.2.1 6) = upd (f 6) ((v 10).toInt).toNat p1) ∧ u.2.1 2 = f 2 ∧ u.2.1 3 = f 3) (fun u => YW cy y0 r u.1 u.2.1 u.2.2.1 u.2.2.2) := by
  refine ctV_of (by decide) (Nat.le_of_ble_eq_true rfl) (fun p e s m below meth c A ls Q hx hb hml hts hown hnm hE hP hD hA hl ret => ?_)
  have hUv : (v 35).toInt + (v 36).toInt ≤ 40 := hIv.2
  have hM_v : KV [3, 5, 6, 7, 10, 14] v v := fun _ _ => rfl
  have hA_f : KF [6] f f := fun _ _ => rfl
  have b1_v : (0 : Int) ≤ (v 1).toInt ∧ (v 1).toInt ≤ 4 := YIb.b hIv.1 1 (by decide)
  have b3_v : (0 : Int) ≤ (v 3).toInt ∧ (v 3).toInt ≤ 1600 := YIb.b hIv.1 3 (by decide)
  have b8_v : (0 : Int) ≤ (v 8).toInt ∧ (v 8).toInt ≤ 320 := YIb.b hIv.1 8 (by decide)
  have b10_v : (0 : Int) ≤ (v 10).toInt ∧ (v 10).toInt ≤ 160 := YIb.b hIv.1 10 (by decide)
  have b13_v : (0 : Int) ≤ (v 13).toInt ∧ (v 13).toInt ≤ 31 := YIb.b hIv.1 13 (by decide)
  have b14_v : (0 : Int) ≤ (v 14).toInt ∧ (v 14).toInt ≤ 8 := YIb.b hIv.1 14 (by decide)
  have hGR : GR (v 3).toInt (v 5).toInt (v 3).toInt (v 5).toInt := GR.refl _ _
  have hown : s.vm.findClass RX11 = some m.cls := hown
  have hS : va_S A s.heap s.heap [] := va_S.rf
  have hl : lv_has ls 2 [(0, .ref y0), (1, .int p1)] := hl
  refine lv_aload_n hx hb dX11_openUp_0 rfl (lv_at hl 0 rfl) ?_
  refine va_get (D := (dC, dI)) (ci := 11) (v := .ref (r 15)) (C := RX11) (T := TX11) (N := 79) hx hb hts inB_11 hown hE.1 hP 0 rfl rfl 15 (by decide) (hts _ k_1335) (fun _ h9 => h9) rfl dX11_openUp_1 ?_
  refine lv_aload_n hx hb dX11_openUp_4 rfl (lv_at hl 0 rfl) ?_
  refine va_get (D := (dC, dI)) (ci := 11) (v := .int (v 10)) (C := RX11) (T := TX11) (N := 79) hx hb hts inB_11 hown hE.1 hP 0 rfl rfl 19 (by decide) (hts _ k_1339) (fun _ h9 => h9) rfl dX11_openUp_5 ?_
  have b10_v : 0 ≤ (v 10).toInt ∧ (v 10).toInt ≤ 160 := YIb.b hIv.1 10 (by decide)
  refine lv_iload_n hx hb dX11_openUp_8 rfl (lv_at hl 1 rfl) ?_
  refine stI hx hb hE hP hD hS 7 rfl (vp_in_iff.mpr ⟨by omega, by omega⟩) rfl dX11_openUp_9 (fun H locs hP hD hS => ?_)
  obtain ⟨f1, ef1, hP, hD⟩ : ∃ fz9, fz9 = upd2 f 6 (upd (f 6) (v 10).toNatClampNeg p1) ∧ va_P (dC, dI) vwCl (YW cy y0 r v fz9 w g) H ∧ va_D A (YW cy y0 r v fz9 w g) := ⟨_, rfl, hP, hD⟩
  have hCf1 : YC f1 := by rw [ef1]; exact hCf
  have hRf1 : progOK (f1 4) (f1 5) (v 9).toInt.toNat := by rw [ef1]; exact hRf
  have hs2_f1 : f1 2 = (f 2) := by rw [ef1]; exact rfl
  have hs3_f1 : f1 3 = (f 3) := by rw [ef1]; exact rfl
  have hs6_f1 : f1 6 = (upd (f 6) ((v 10).toInt.toNat) p1) := by rw [ef1]; show upd (f 6) ((v 10).toInt.toNat) p1 = _; rfl
  have hA_f1 : KF [6] f1 f := by rw [ef1]; exact KF.up hA_f rfl
  refine lv_aload_n hx hb dX11_openUp_10 rfl (lv_at hl 0 rfl) ?_
  refine lv_dup hx hb dX11_openUp_11 rfl ?_
  refine va_get (D := (dC, dI)) (ci := 11) (v := .int (v 10)) (C := RX11) (T := TX11) (N := 79) hx hb hts inB_11 hown hE.1 hP 0 rfl rfl 19 (by decide) (hts _ k_1339) (fun _ h9 => h9) rfl dX11_openUp_12 ?_
  refine lv_iconst (v := 1) hx hb dX11_openUp_15 (by decide) ?_
  refine lv_iadd hx hb dX11_openUp_16 ?_
  refine lv_topi (fun t2 et2 => ?_)
  have rg3 := fb_rng (v 10)
  have zt2 : t2.toInt = (v 10).toInt + 1 := by rw [et2]; exact add_i rfl (by decide) (by omega) (by omega)
  refine va_put (D := (dC, dI)) (ci := 11) (v := .int t2) (ty := tyX11 19) (C := RX11) (T := TX11) (N := 79) hx hb hts inB_11 tyX11 tyX11_ok nmX11 hown hE.1 hP hD hS 0 rfl rfl 19 (by decide) (hts _ k_1339) (fun _ h9 => h9) rfl (tyX11_ok 19 (by decide)) rfl rfl (Nat.le_of_ble_eq_true rfl) dX11_openUp_17 (fun H locs hP hD hS => ?_)
  have hP : va_P (dC, dI) vwCl (YW cy y0 r (upd v 10 t2) f1 w g) H := hP
  have hD : va_D A (YW cy y0 r (upd v 10 t2) f1 w g) := hD
  refine lv_aload_n hx hb dX11_openUp_20 rfl (lv_at hl 0 rfl) ?_
  refine lv_dup hx hb dX11_openUp_21 rfl ?_
  refine va_get (D := (dC, dI)) (ci := 11) (v := .int (v 14)) (C := RX11) (T := TX11) (N := 79) hx hb hts inB_11 hown hE.1 hP 0 rfl rfl 23 (by decide) (hts _ k_1343) (fun _ h9 => h9) rfl dX11_openUp_22 ?_
  have b14_v : 0 ≤ (v 14).toInt ∧ (v 14).toInt ≤ 8 := YIb.b hIv.1 14 (by decide)
  refine lv_iconst (v := 1) hx hb dX11_openUp_25 (by decide) ?_
  refine lv_iadd hx hb dX11_openUp_26 ?_
  refine lv_topi (fun t4 et4 => ?_)
  have rg5 := fb_rng (v 14)
  have zt4 : t4.toInt = (v 14).toInt + 1 := by rw [et4]; exact add_i rfl (by decide) (by omega) (by omega)
  refine va_put (D := (dC, dI)) (ci := 11) (v := .int t4) (ty := tyX11 23) (C := RX11) (T := TX11) (N := 79) hx hb hts inB_11 tyX11 tyX11_ok nmX11 hown hE.1 hP hD hS 0 rfl rfl 23 (by decide) (hts _ k_1343) (fun _ h9 => h9) rfl (tyX11_ok 23 (by decide)) rfl rfl (Nat.le_of_ble_eq_true rfl) dX11_openUp_27 (fun H locs hP hD hS => ?_)
  have hP : va_P (dC, dI) vwCl (YW cy y0 r (upd (upd v 10 t2) 14 t4) f1 w g) H := hP
  have hD : va_D A (YW cy y0 r (upd (upd v 10 t2) 14 t4) f1 w g) := hD
  refine lv_aload_n hx hb dX11_openUp_30 rfl (lv_at hl 0 rfl) ?_
  refine va_get (D := (dC, dI)) (ci := 11) (v := .int (v 1)) (C := RX11) (T := TX11) (N := 79) hx hb hts inB_11 hown hE.1 hP 0 rfl rfl 2 (by decide) (hts _ k_1322) (fun _ h9 => h9) rfl dX11_openUp_31 ?_
  have b1_v : 0 ≤ (v 1).toInt ∧ (v 1).toInt ≤ 4 := YIb.b hIv.1 1 (by decide)
  refine lv_if_ne (tgt := 41) hx hb dX11_openUp_34 (by decide) (fun c6 => ?_) (fun c6 => ?_)
  · skip
    have zc6 : ¬ ((v 1).toInt = 0) := by rw [fa_eq, show (0 : Int32).toInt = 0 from by decide] at c6; exact c6
    exact ret ((upd (upd v 10 t2) 14 t4), f1, w, g) _ _ _ _ _ _ ⟨(gsY_X11_openUp_1_q0 ef1 et2 et4 c6), (KV.up (j := 14) (x := t4) (KV.up (j := 10) (x := t2) hM_v rfl) rfl), hA_f1, ⟨(YIb.upd (j := 14) (x := t4) (YIb.upd (j := 10) (x := t2) hIv.1 (show (0 : Int) ≤ t2.toInt by omega) (show t2.toInt ≤ (160 : Int) by omega)) (show (0 : Int) ≤ t4.toInt by omega) (show t4.toInt ≤ (8 : Int) by omega)), hIv.2⟩, hCf1, hRf1, rfl, rfl, rfl, rfl, rfl, rfl, rfl, rfl, rfl, rfl, rfl, rfl, rfl, rfl, rfl, rfl, (by show t2.toInt = (v 10).toInt + 1; omega), (by show t4.toInt = (v 14).toInt + 1; omega), (by show GR (v 3).toInt (v 5).toInt (v 3).toInt (v 5).toInt; exact GR.cast hGR (by first | with_reducible rfl | with_reducible assumption | rfl | omega) (by first | with_reducible rfl | with_reducible assumption | rfl | omega)), (by show (f1 6) = upd (f 6) ((v 10).toInt).toNat p1; rw [hs6_f1]; first | done | rfl), hs2_f1, hs3_f1⟩ hP hD hS dX11_openUp_41 (Nat.le_refl _) (Nat.le_refl _)
  · skip
    have zc6 : (v 1).toInt = 0 := by rw [fa_eq, show (0 : Int32).toInt = 0 from by decide] at c6; exact c6
    refine lv_aload_n hx hb dX11_openUp_37 rfl (lv_at hl 0 rfl) ?_
    refine cbVv (n := 0) (rest := []) hx hb hml hown hts hE hP hD hS hA (sY_X11_token_1 NF l dC dI cy y0 r  (upd (upd v 10 t2) 14 t4) f1 w g ⟨(YIb.upd (j := 14) (x := t4) (YIb.upd (j := 10) (x := t2) hIv.1 (show (0 : Int) ≤ t2.toInt by omega) (show t2.toInt ≤ (160 : Int) by omega)) (show (0 : Int) ≤ t4.toInt by omega) (show t4.toInt ≤ (8 : Int) by omega)), hIv.2⟩ hCf1 hRf1 ) k_1579 k_1581 k_42 k_114 k_1582 (by decide +kernel) ⟨Nat.le_of_ble_eq_true rfl, Nat.le_of_ble_eq_true rfl⟩ 0 11 rfl rfl (rfl) hl.1 rfl (Nat.le_of_ble_eq_true rfl) dX11_openUp_38 (fun u H locs hw hP hD hS => ?_)
    obtain ⟨hG7, hw⟩ := hw
    obtain ⟨v8, f9, w10, g11⟩ := u
    obtain ⟨kV_v8, kF_f9, hIv8, hCf9, hRf9, hk0_v8, hk1_v8, hk2_v8, hk4_v8, hk8_v8, hk9_v8, hk10_v8, hk13_v8, hk14_v8, hk15_v8, hk17_v8, hk18_v8, hk24_v8, hk25_v8, hk35_v8, hk36_v8, hk38_v8, hk39_v8, pv12, pv13, kq14, kq15, kq16⟩ := hw
    have hM_v8 : KV [3, 5, 6, 7, 10, 14] v8 v := KV.tr kV_v8 (KV.up (j := 14) (x := t4) (KV.up (j := 10) (x := t2) hM_v rfl) rfl) rfl
    have hA_f9 : KF [6] f9 f := KF.tr kF_f9 hA_f1 rfl
    have hP : va_P (dC, dI) vwCl (YW cy y0 r v8 f9 w10 g11) H := hP
    have hD : va_D A (YW cy y0 r v8 f9 w10 g11) := hD
    have b3_v8 : 0 ≤ (v8 3).toInt ∧ (v8 3).toInt ≤ 1600 := YIb.b hIv8.1 3 (by decide)
    have pv12 : (v 3).toInt ≤ (v8 3).toInt := pv12
    have pv13 : (v8 5).toInt = (v 5).toInt ∨ (v 3).toInt < (v8 3).toInt ∨ ¬ (v8 5).toInt = 59 := pv13
    have hs2_f9 : f9 2 = (f 2) := kq14.trans hs2_f1
    have hs3_f9 : f9 3 = (f 3) := kq15.trans hs3_f1
    have hs6_f9 : f9 6 = (upd (f 6) ((v 10).toInt.toNat) p1) := kq16.trans hs6_f1
    have hUv8 : (v8 35).toInt + (v8 36).toInt ≤ 40 := hIv8.2
    have hq1_v8 : v8 1 = (v 1) := hk1_v8
    have zq1_v8 := congrArg Int32.toInt hq1_v8
    have hq8_v8 : v8 8 = (v 8) := hk8_v8
    have zq8_v8 := congrArg Int32.toInt hq8_v8
    have hq10_v8 : v8 10 = t2 := hk10_v8
    have zq10_v8 := congrArg Int32.toInt hq10_v8
    have hq13_v8 : v8 13 = (v 13) := hk13_v8
    have zq13_v8 := congrArg Int32.toInt hq13_v8
    have hq14_v8 : v8 14 = t4 := hk14_v8
    have zq14_v8 := congrArg Int32.toInt hq14_v8
    have hGR : GR (v 3).toInt (v 5).toInt (v8 3).toInt (v8 5).toInt := GR.tr hGR (show GR (v 3).toInt (v 5).toInt (v8 3).toInt (v8 5).toInt from ⟨pv12, pv13⟩) (by first | with_reducible rfl | with_reducible assumption | rfl | omega) (by first | with_reducible rfl | with_reducible assumption | rfl | omega)
    clear pv13
    exact ret (v8, f9, w10, g11) _ _ _ _ _ _ ⟨(gsY_X11_openUp_1_q1 ef1 et2 et4 c6 hG7), hM_v8, hA_f9, hIv8, hCf9, hRf9, hk0_v8, hk1_v8, hk2_v8, hk4_v8, hk8_v8, hk9_v8, hk13_v8, hk15_v8, hk17_v8, hk18_v8, hk24_v8, hk25_v8, hk35_v8, hk36_v8, hk38_v8, hk39_v8, (by show (v8 10).toInt = (v 10).toInt + 1; omega), (by show (v8 14).toInt = (v 14).toInt + 1; omega), (by show GR (v 3).toInt (v 5).toInt (v8 3).toInt (v8 5).toInt; exact GR.cast hGR (by first | with_reducible rfl | with_reducible assumption | rfl | omega) (by first | with_reducible rfl | with_reducible assumption | rfl | omega)), (by show (f9 6) = upd (f 6) ((v 10).toInt).toNat p1; rw [hs6_f9]; first | done | rfl), hs2_f9, hs3_f9⟩ hP hD hS dX11_openUp_41 (Nat.le_refl _) (Nat.le_refl _)
set_option maxHeartbeats 4000000 in
set_option maxRecDepth 100000 in
theorem sY_X11_tight_1 (NF : Nat) (l : Launch) (dC : Nat → ClassId) (dI : Nat → Nat → Nat) (cy : Nat → ClassId) (y0 : Nat) (r : Nat → Nat) (p0 : Int32) (v : Nat → Int32) (f : Nat → Nat → Int32) (w : Int64) (g : Nat → Int64) (hIv : YI v) (hCf : YC f) (hRf : progOK (f 4) (f 5) (v 9).toInt.toNat)  : ctI l (dC, dI) cy yX11_tight cX11_tight 1 .int 1 60 0 0 Unit [.int p0] (YW cy y0 r v f w g) (fun r u => gsY_X11_tight_1 NF p0 v f w g = r ∧ ((1 : Int) ≤ r.toInt ∧ r.toInt ≤ 6)) (fun u => YW cy y0 r v f w g) := by
  refine ctI_of (by decide) (Nat.le_of_ble_eq_true rfl) (fun p e s m below meth c A ls Q hx hb hml hts hown hE hP hD hA hl ret => ?_)
  have hUv : (v 35).toInt + (v 36).toInt ≤ 40 := hIv.2
  have hown : s.vm.findClass RX11 = some m.cls := hown
  have hS : va_S A s.heap s.heap [] := va_S.rf
  have hl : lv_has ls 1 [(0, .int p0)] := hl
  refine lv_iload_n hx hb dX11_tight_0 rfl (lv_at hl 0 rfl) ?_
  by_cases c1 : p0 = 21
  · skip
    refine lv_lookup (off := 79) (tgt := 80) hx hb dX11_tight_1 (by decide) (by rw [c1]; decide) (by decide) ?_
    have zc1 : p0.toInt = 21 := by rw [fa_eq, show (21 : Int32).toInt = 21 from by decide] at c1; exact c1
    refine lv_iconst (v := 3) hx hb dX11_tight_80 (by decide) ?_
    exact ret 3 () _ _ _ _ _ _ rfl ⟨(gsY_X11_tight_1_q0 c1), ⟨by decide, by decide⟩⟩ hP hD hS dX11_tight_81 (Nat.le_refl _) (Nat.le_refl _)
  · skip
    have zc1 : ¬ (p0.toInt = 21) := by rw [fa_eq, show (21 : Int32).toInt = 21 from by decide] at c1; exact c1
    by_cases c2 : p0 = 38
    · skip
      refine lv_lookup (off := 77) (tgt := 78) hx hb dX11_tight_1 (by decide) (by rw [c2]; decide) (by decide) ?_
      have zc2 : p0.toInt = 38 := by rw [fa_eq, show (38 : Int32).toInt = 38 from by decide] at c2; exact c2
      refine lv_iconst (v := 2) hx hb dX11_tight_78 (by decide) ?_
      exact ret 2 () _ _ _ _ _ _ rfl ⟨(gsY_X11_tight_1_q1 c1 c2), ⟨by decide, by decide⟩⟩ hP hD hS dX11_tight_79 (Nat.le_refl _) (Nat.le_refl _)
    · skip
      have zc2 : ¬ (p0.toInt = 38) := by rw [fa_eq, show (38 : Int32).toInt = 38 from by decide] at c2; exact c2
      by_cases c3 : p0 = 43
      · skip
        refine lv_lookup (off := 83) (tgt := 84) hx hb dX11_tight_1 (by decide) (by rw [c3]; decide) (by decide) ?_
        have zc3 : p0.toInt = 43 := by rw [fa_eq, show (43 : Int32).toInt = 43 from by decide] at c3; exact c3
        refine lv_iconst (v := 5) hx hb dX11_tight_84 (by decide) ?_
        exact ret 5 () _ _ _ _ _ _ rfl ⟨(gsY_X11_tight_1_q2 c1 c2 c3), ⟨by decide, by decide⟩⟩ hP hD hS dX11_tight_85 (Nat.le_refl _) (Nat.le_refl _)
      · skip
        have zc3 : ¬ (p0.toInt = 43) := by rw [fa_eq, show (43 : Int32).toInt = 43 from by decide] at c3; exact c3
        by_cases c4 : p0 = 45
        · skip
          refine lv_lookup (off := 83) (tgt := 84) hx hb dX11_tight_1 (by decide) (by rw [c4]; decide) (by decide) ?_
          have zc4 : p0.toInt = 45 := by rw [fa_eq, show (45 : Int32).toInt = 45 from by decide] at c4; exact c4
          refine lv_iconst (v := 5) hx hb dX11_tight_84 (by decide) ?_
          exact ret 5 () _ _ _ _ _ _ rfl ⟨(gsY_X11_tight_1_q3 c1 c2 c3 c4), ⟨by decide, by decide⟩⟩ hP hD hS dX11_tight_85 (Nat.le_refl _) (Nat.le_refl _)
        · skip
          have zc4 : ¬ (p0.toInt = 45) := by rw [fa_eq, show (45 : Int32).toInt = 45 from by decide] at c4; exact c4
          by_cases c5 : p0 = 60
          · skip
            refine lv_lookup (off := 81) (tgt := 82) hx hb dX11_tight_1 (by decide) (by rw [c5]; decide) (by decide) ?_
            have zc5 : p0.toInt = 60 := by rw [fa_eq, show (60 : Int32).toInt = 60 from by decide] at c5; exact c5
            refine lv_iconst (v := 4) hx hb dX11_tight_82 (by decide) ?_
            exact ret 4 () _ _ _ _ _ _ rfl ⟨(gsY_X11_tight_1_q4 c1 c2 c3 c4 c5), ⟨by decide, by decide⟩⟩ hP hD hS dX11_tight_83 (Nat.le_refl _) (Nat.le_refl _)
          · skip
            have zc5 : ¬ (p0.toInt = 60) := by rw [fa_eq, show (60 : Int32).toInt = 60 from by decide] at c5; exact c5
            by_cases c6 : p0 = 61
            · skip
              refine lv_lookup (off := 81) (tgt := 82) hx hb dX11_tight_1 (by decide) (by rw [c6]; decide) (by decide) ?_
              have zc6 : p0.toInt = 61 := by rw [fa_eq, show (61 : Int32).toInt = 61 from by decide] at c6; exact c6
              refine lv_iconst (v := 4) hx hb dX11_tight_82 (by decide) ?_
              exact ret 4 () _ _ _ _ _ _ rfl ⟨(gsY_X11_tight_1_q5 c1 c2 c3 c4 c5 c6), ⟨by decide, by decide⟩⟩ hP hD hS dX11_tight_83 (Nat.le_refl _) (Nat.le_refl _)
            · skip
              have zc6 : ¬ (p0.toInt = 61) := by rw [fa_eq, show (61 : Int32).toInt = 61 from by decide] at c6; exact c6
              by_cases c7 : p0 = 62
              · skip
                refine lv_lookup (off := 81) (tgt := 82) hx hb dX11_tight_1 (by decide) (by rw [c7]; decide) (by decide) ?_
                have zc7 : p0.toInt = 62 := by rw [fa_eq, show (62 : Int32).toInt = 62 from by decide] at c7; exact c7
                refine lv_iconst (v := 4) hx hb dX11_tight_82 (by decide) ?_
                exact ret 4 () _ _ _ _ _ _ rfl ⟨(gsY_X11_tight_1_q6 c1 c2 c3 c4 c5 c6 c7), ⟨by decide, by decide⟩⟩ hP hD hS dX11_tight_83 (Nat.le_refl _) (Nat.le_refl _)
              · skip
                have zc7 : ¬ (p0.toInt = 62) := by rw [fa_eq, show (62 : Int32).toInt = 62 from by decide] at c7; exact c7
                by_cases c8 : p0 = 124
                · skip
                  refine lv_lookup (off := 75) (tgt := 76) hx hb dX11_tight_1 (by decide) (by rw [c8]; decide) (by decide) ?_
                  have zc8 : p0.toInt = 124 := by rw [fa_eq, show (124 : Int32).toInt = 124 from by decide] at c8; exact c8
                  refine lv_iconst (v := 1) hx hb dX11_tight_76 (by decide) ?_
                  exact ret 1 () _ _ _ _ _ _ rfl ⟨(gsY_X11_tight_1_q7 c1 c2 c3 c4 c5 c6 c7 c8), ⟨by decide, by decide⟩⟩ hP hD hS dX11_tight_77 (Nat.le_refl _) (Nat.le_refl _)
                · skip
                  have zc8 : ¬ (p0.toInt = 124) := by rw [fa_eq, show (124 : Int32).toInt = 124 from by decide] at c8; exact c8
                  refine lv_lookup (off := 85) (tgt := 86) hx hb dX11_tight_1 (by decide) (by show Op.lookupswitch.offset [(21, 79), (38, 77), (43, 83), (45, 83), (60, 81), (61, 81), (62, 81), (124, 75)] 85 p0.toInt = 85; rw [lv_osw c1 (by decide), lv_osw c2 (by decide), lv_osw c3 (by decide), lv_osw c4 (by decide), lv_osw c5 (by decide), lv_osw c6 (by decide), lv_osw c7 (by decide), lv_osw c8 (by decide)]; rfl) (by decide) ?_
                  refine lv_bipush (v := 6) hx hb dX11_tight_86 (by decide) ?_
                  exact ret 6 () _ _ _ _ _ _ rfl ⟨(gsY_X11_tight_1_q8 c1 c2 c3 c4 c5 c6 c7 c8), ⟨by decide, by decide⟩⟩ hP hD hS dX11_tight_88 (Nat.le_refl _) (Nat.le_refl _)
set_option maxHeartbeats 4000000 in
set_option maxRecDepth 100000 in
theorem sY_X11_mayNot_1 (NF : Nat) (l : Launch) (dC : Nat → ClassId) (dI : Nat → Nat → Nat) (cy : Nat → ClassId) (y0 : Nat) (r : Nat → Nat)  (v : Nat → Int32) (f : Nat → Nat → Int32) (w : Int64) (g : Nat → Int64) (hIv : YI v) (hCf : YC f) (hRf : progOK (f 4) (f 5) (v 9).toInt.toNat)  : ctI l (dC, dI) cy yX11_mayNot cX11_mayNot 1 .boolean 2 80 0 0 Unit [.ref y0] (YW cy y0 r v f w g) (fun r u => gsY_X11_mayNot_1 NF v f w g = r ∧ ((r = 1) ∨ (r = 0))) (fun u => YW cy y0 r v f w g) := by
  refine ctI_of (by decide) (Nat.le_of_ble_eq_true rfl) (fun p e s m below meth c A ls Q hx hb hml hts hown hE hP hD hA hl ret => ?_)
  have hUv : (v 35).toInt + (v 36).toInt ≤ 40 := hIv.2
  have hown : s.vm.findClass RX11 = some m.cls := hown
  have hS : va_S A s.heap s.heap [] := va_S.rf
  have hl : lv_has ls 1 [(0, .ref y0)] := hl
  refine lv_aload_n hx hb dX11_mayNot_0 rfl (lv_at hl 0 rfl) ?_
  refine va_get (D := (dC, dI)) (ci := 11) (v := .int (v 10)) (C := RX11) (T := TX11) (N := 79) hx hb hts inB_11 hown hE.1 hP 0 rfl rfl 19 (by decide) (hts _ k_1339) (fun _ h9 => h9) rfl dX11_mayNot_1 ?_
  have b10_v : 0 ≤ (v 10).toInt ∧ (v 10).toInt ≤ 160 := YIb.b hIv.1 10 (by decide)
  refine lv_if_eq (tgt := 41) hx hb dX11_mayNot_4 (by decide) (fun c1 => ?_) (fun c1 => ?_)
  · skip
    have zc1 : (v 10).toInt = 0 := by rw [fa_eq, show (0 : Int32).toInt = 0 from by decide] at c1; exact c1
    refine lv_iconst (v := 1) hx hb dX11_mayNot_41 (by decide) ?_
    refine lv_goto (tgt := 46) hx hb dX11_mayNot_42 (by decide) ?_
    exact ret 1 () _ _ _ _ _ _ rfl ⟨(gsY_X11_mayNot_1_q0 c1), (Or.inl rfl)⟩ hP hD hS dX11_mayNot_46 (Nat.le_refl _) (Nat.le_refl _)
  · skip
    have zc1 : ¬ ((v 10).toInt = 0) := by rw [fa_eq, show (0 : Int32).toInt = 0 from by decide] at c1; exact c1
    refine lv_aload_n hx hb dX11_mayNot_7 rfl (lv_at hl 0 rfl) ?_
    refine va_get (D := (dC, dI)) (ci := 11) (v := .ref (r 15)) (C := RX11) (T := TX11) (N := 79) hx hb hts inB_11 hown hE.1 hP 0 rfl rfl 15 (by decide) (hts _ k_1335) (fun _ h9 => h9) rfl dX11_mayNot_8 ?_
    refine lv_aload_n hx hb dX11_mayNot_11 rfl (lv_at hl 0 rfl) ?_
    refine va_get (D := (dC, dI)) (ci := 11) (v := .int (v 10)) (C := RX11) (T := TX11) (N := 79) hx hb hts inB_11 hown hE.1 hP 0 rfl rfl 19 (by decide) (hts _ k_1339) (fun _ h9 => h9) rfl dX11_mayNot_12 ?_
    refine lv_iconst (v := 1) hx hb dX11_mayNot_15 (by decide) ?_
    refine lv_isub hx hb dX11_mayNot_16 ?_
    refine lv_topi (fun t2 et2 => ?_)
    have rg3 := fb_rng (v 10)
    have zt2 : t2.toInt = (v 10).toInt - 1 := by rw [et2]; exact sub_i rfl (by decide) (by omega) (by omega)
    refine ldI hx hb hE hP 7 rfl (vp_in_iff.mpr ⟨by omega, by omega⟩) rfl rfl dX11_mayNot_17 ?_
    refine lv_topi (fun t4 et4 => ?_)
    refine lv_bipush (v := 20) hx hb dX11_mayNot_18 (by decide) ?_
    refine lv_icmp_eq (tgt := 41) hx hb dX11_mayNot_20 (by decide) (fun c5 => ?_) (fun c5 => ?_)
    · skip
      have zc5 : t4.toInt = 20 := by rw [fa_eq, show (20 : Int32).toInt = 20 from by decide] at c5; exact c5
      refine lv_iconst (v := 1) hx hb dX11_mayNot_41 (by decide) ?_
      refine lv_goto (tgt := 46) hx hb dX11_mayNot_42 (by decide) ?_
      exact ret 1 () _ _ _ _ _ _ rfl ⟨(gsY_X11_mayNot_1_q1 c1 et2 et4 c5), (Or.inl rfl)⟩ hP hD hS dX11_mayNot_46 (Nat.le_refl _) (Nat.le_refl _)
    · skip
      have zc5 : ¬ (t4.toInt = 20) := by rw [fa_eq, show (20 : Int32).toInt = 20 from by decide] at c5; exact c5
      refine lv_aload_n hx hb dX11_mayNot_23 rfl (lv_at hl 0 rfl) ?_
      refine va_get (D := (dC, dI)) (ci := 11) (v := .ref (r 15)) (C := RX11) (T := TX11) (N := 79) hx hb hts inB_11 hown hE.1 hP 0 rfl rfl 15 (by decide) (hts _ k_1335) (fun _ h9 => h9) rfl dX11_mayNot_24 ?_
      refine lv_aload_n hx hb dX11_mayNot_27 rfl (lv_at hl 0 rfl) ?_
      refine va_get (D := (dC, dI)) (ci := 11) (v := .int (v 10)) (C := RX11) (T := TX11) (N := 79) hx hb hts inB_11 hown hE.1 hP 0 rfl rfl 19 (by decide) (hts _ k_1339) (fun _ h9 => h9) rfl dX11_mayNot_28 ?_
      refine lv_iconst (v := 1) hx hb dX11_mayNot_31 (by decide) ?_
      refine lv_isub hx hb dX11_mayNot_32 ?_
      refine tI (y := t2) et2.symm ?_
      refine ldI hx hb hE hP 7 rfl (vp_in_iff.mpr ⟨by omega, by omega⟩) rfl rfl dX11_mayNot_33 ?_
      refine tI (y := t4) et4.symm ?_
      refine cbSi (n := 1) (rest := []) hx hb hml hown hts hE hP hD hS hA (sY_X11_tight_1 NF l dC dI cy y0 r t4 v f w g hIv hCf hRf ) k_1677 k_1678 k_114 k_1679 (by decide +kernel) ⟨Nat.le_of_ble_eq_true rfl, Nat.le_of_ble_eq_true rfl⟩ (rfl) hl.1 rfl (Nat.le_of_ble_eq_true rfl) dX11_mayNot_34 (fun r6 u H locs hw hP hD hS => ?_)
      obtain ⟨hG7, hw⟩ := hw
      refine lv_iconst (v := 4) hx hb dX11_mayNot_37 (by decide) ?_
      refine lv_icmp_ge (tgt := 45) hx hb dX11_mayNot_38 (by decide) (fun c8 => ?_) (fun c8 => ?_)
      · skip
        have zc8 : 4 ≤ r6.toInt := by rw [fa_le, show (4 : Int32).toInt = 4 from by decide] at c8; exact c8
        refine lv_iconst (v := 0) hx hb dX11_mayNot_45 (by decide) ?_
        exact ret 0 () _ _ _ _ _ _ rfl ⟨(gsY_X11_mayNot_1_q2 c1 et2 et4 c5 hG7.symm c8), (Or.inr rfl)⟩ hP hD hS dX11_mayNot_46 (Nat.le_refl _) (Nat.le_refl _)
      · skip
        have zc8 : ¬ (4 ≤ r6.toInt) := by rw [fa_le, show (4 : Int32).toInt = 4 from by decide] at c8; exact c8
        refine lv_iconst (v := 1) hx hb dX11_mayNot_41 (by decide) ?_
        refine lv_goto (tgt := 46) hx hb dX11_mayNot_42 (by decide) ?_
        exact ret 1 () _ _ _ _ _ _ rfl ⟨(gsY_X11_mayNot_1_q3 c1 et2 et4 c5 hG7.symm c8), (Or.inl rfl)⟩ hP hD hS dX11_mayNot_46 (Nat.le_refl _) (Nat.le_refl _)
