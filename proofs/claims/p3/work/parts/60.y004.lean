set_option maxHeartbeats 4000000 in
set_option maxRecDepth 100000 in
theorem sY_X11_day_1 (l : Launch) (dC : Nat → ClassId) (dI : Nat → Nat → Nat) (cy : Nat → ClassId) (y0 : Nat) (r : Nat → Nat)  (v : Nat → Int32) (f : Nat → Nat → Int32) (w : Int64) (g : Nat → Int64) (hIv : YI v) (hCf : YC f) (hRf : progOK (f 4) (f 5) (v 9).toInt.toNat)  : ctI l (dC, dI) cy yX11_day cX11_day 3 .int 8 214 0 0 ((Nat → Int32) × (Nat → Nat → Int32) × (Int64) × (Nat → Int64)) [.ref y0] (YW cy y0 r v f w g) (fun r u => KV [35, 36] u.1 v ∧ KF [7, 8, 23, 24, 25] u.2.1 f ∧ YI u.1 ∧ YC u.2.1 ∧ progOK (u.2.1 4) (u.2.1 5) (u.1 9).toInt.toNat ∧ u.1 0 = v 0 ∧ u.1 1 = v 1 ∧ u.1 2 = v 2 ∧ u.1 3 = v 3 ∧ u.1 4 = v 4 ∧ u.1 5 = v 5 ∧ u.1 8 = v 8 ∧ u.1 9 = v 9 ∧ u.1 10 = v 10 ∧ u.1 13 = v 13 ∧ u.1 14 = v 14 ∧ u.1 15 = v 15 ∧ u.1 17 = v 17 ∧ u.1 18 = v 18 ∧ u.1 24 = v 24 ∧ u.1 25 = v 25 ∧ u.1 38 = v 38 ∧ u.1 39 = v 39) (fun u => YW cy y0 r u.1 u.2.1 u.2.2.1 u.2.2.2) := by
  refine ctI_of (by decide) (Nat.le_of_ble_eq_true rfl) (fun p e s m below meth c A ls Q hx hb hml hts hown hE hP hD hA hl ret => ?_)
  have hUv : (v 35).toInt + (v 36).toInt ≤ 40 := hIv.2
  have hM_v : KV [35, 36] v v := fun _ _ => rfl
  have hA_f : KF [7, 8, 23, 24, 25] f f := fun _ _ => rfl
  have hown : s.vm.findClass RX11 = some m.cls := hown
  have hS : va_S A s.heap s.heap [] := va_S.rf
  have hl : lv_has ls 3 [(0, .ref y0)] := hl
  refine lv_aload_n hx hb dX11_day_0 rfl (lv_at hl 0 rfl) ?_
  refine va_get (D := (dC, dI)) (ci := 11) (v := .ref (r 59)) (C := RX11) (T := TX11) (N := 79) hx hb hts inB_11 hown hE.1 hP 0 rfl rfl 59 (Nat.le_of_ble_eq_true rfl) (hts _ k_1379) (fun _ h9 => h9) rfl dX11_day_1 ?_
  refine lv_bipush (v := 37) hx hb dX11_day_4 rfl ?_
  refine ldI hx hb hE hP 24 rfl (vp_in_nI (n := 37) (by decide) (by decide)) rfl rfl dX11_day_6 ?_
  refine lv_topi (fun t1 et1 => ?_)
  have zt1 : 37 % 39 < 6 ∨ 12 ≤ 37 % 39 ∨ (-1 ≤ t1.toInt ∧ t1.toInt ≤ 5) := by rw [et1]; exact wear_ld hCf.1 (show 37 < 39 by omega)
  refine lv_sipush (v := 999) hx hb dX11_day_7 rfl ?_
  refine lv_icmp_ne (tgt := 15) hx hb dX11_day_10 rfl (fun c2 => ?_) (fun c2 => ?_)
  · skip
    have zc2 : ¬ (t1.toInt = 999) := by rw [fa_eq, show (999 : Int32).toInt = 999 from by decide] at c2; exact c2
    refine lv_aload_n hx hb dX11_day_15 rfl (lv_at hl 0 rfl) ?_
    refine cbVv (n := 0) (rest := []) hx hb hml hown hts hE hP hD hS hA (sY_X11_act_1 l dC dI cy y0 r  v f w g hIv hCf hRf ) k_1787 k_1789 k_77 k_114 k_1790 (by decide +kernel) ⟨Nat.le_of_ble_eq_true rfl, Nat.le_of_ble_eq_true rfl⟩ 0 11 rfl rfl (rfl) hl.1 rfl (Nat.le_of_ble_eq_true rfl) dX11_day_16 (fun u H locs hw hP hD hS => ?_)
    obtain ⟨v3, f4, w5, g6⟩ := u
    obtain ⟨kV_v3, kF_f4, hIv3, hCf4, hRf4, hk0_v3, hk1_v3, hk2_v3, hk3_v3, hk4_v3, hk5_v3, hk8_v3, hk9_v3, hk10_v3, hk13_v3, hk14_v3, hk15_v3, hk17_v3, hk18_v3, hk24_v3, hk25_v3, hk38_v3, hk39_v3⟩ := hw
    have hM_v3 : KV [35, 36] v3 v := KV.tr kV_v3 hM_v rfl
    have hA_f4 : KF [7, 8, 23, 24, 25] f4 f := KF.tr kF_f4 hA_f rfl
    have hP : va_P (dC, dI) vwCl (YW cy y0 r v3 f4 w5 g6) H := hP
    have hD : va_D A (YW cy y0 r v3 f4 w5 g6) := hD
    have hUv3 : (v3 35).toInt + (v3 36).toInt ≤ 40 := hIv3.2
    have hq9_v3 : v3 9 = (v 9) := hk9_v3
    have zq9_v3 := congrArg Int32.toInt hq9_v3
    refine lv_aload_n hx hb dX11_day_19 rfl (lv_at hl 0 rfl) ?_
    refine cbVi (n := 0) (rest := []) hx hb hml hown hts hE hP hD hS hA (sY_X11_drawRain_1 l dC dI cy y0 r  v3 f4 w5 g6 hIv3 hCf4 hRf4 ) k_1791 k_1793 k_78 k_114 k_1794 (by decide +kernel) ⟨Nat.le_of_ble_eq_true rfl, Nat.le_of_ble_eq_true rfl⟩ 0 11 rfl rfl (rfl) hl.1 rfl (Nat.le_of_ble_eq_true rfl) dX11_day_20 (fun r7 u H locs hw hP hD hS => ?_)
    obtain ⟨v8, f9, w10, g11⟩ := u
    obtain ⟨kV_v8, kF_f9, hIv8, hCf9, hRf9, hk0_v8, hk1_v8, hk2_v8, hk3_v8, hk4_v8, hk5_v8, hk8_v8, hk9_v8, hk10_v8, hk13_v8, hk14_v8, hk15_v8, hk17_v8, hk18_v8, hk24_v8, hk25_v8, hk35_v8, hk36_v8, hk38_v8, hk39_v8, hw⟩ := hw
    have hM_v8 : KV [35, 36] v8 v := KV.tr kV_v8 hM_v3 rfl
    have hA_f9 : KF [7, 8, 23, 24, 25] f9 f := KF.tr kF_f9 hA_f4 rfl
    have hP : va_P (dC, dI) vwCl (YW cy y0 r v8 f9 w10 g11) H := hP
    have hD : va_D A (YW cy y0 r v8 f9 w10 g11) := hD
    have hUv8 : (v8 35).toInt + (v8 36).toInt ≤ 40 := hIv8.2
    have hq9_v8 : v8 9 = (v 9) := hk9_v8.trans hq9_v3
    have zq9_v8 := congrArg Int32.toInt hq9_v8
    rcases hw with ⟨g12⟩ | ⟨g12⟩
    · skip
      subst g12
      refine lv_istore_n (lv' := [(1, .int 1), (0, .ref y0)]) hx hb dX11_day_23 rfl hl (Nat.le_of_ble_eq_true rfl) rfl (fun ls hl => ?_)
      refine lv_aload_n hx hb dX11_day_24 rfl (lv_at hl 1 rfl) ?_
      refine lv_iload_n hx hb dX11_day_25 rfl (lv_at hl 0 rfl) ?_
      refine cbVi (n := 1) (rest := []) hx hb hml hown hts hE hP hD hS hA (sY_X11_goDay_1 l dC dI cy y0 r 1 v8 f9 w10 g11 hIv8 hCf9 hRf9 ) k_1795 k_1797 k_79 k_114 k_1798 (by decide +kernel) ⟨Nat.le_of_ble_eq_true rfl, Nat.le_of_ble_eq_true rfl⟩ 0 11 rfl rfl (rfl) hl.1 rfl (Nat.le_of_ble_eq_true rfl) dX11_day_26 (fun r13 u H locs hw hP hD hS => ?_)
      obtain ⟨v14, f15, w16, g17⟩ := u
      obtain ⟨kV_v14, kF_f15, hIv14, hCf15, hRf15, hk0_v14, hk1_v14, hk2_v14, hk3_v14, hk4_v14, hk5_v14, hk8_v14, hk9_v14, hk10_v14, hk13_v14, hk14_v14, hk15_v14, hk17_v14, hk18_v14, hk24_v14, hk25_v14, hk35_v14, hk36_v14, hk38_v14, hk39_v14⟩ := hw
      have hM_v14 : KV [35, 36] v14 v := KV.tr kV_v14 hM_v8 rfl
      have hA_f15 : KF [7, 8, 23, 24, 25] f15 f := KF.tr kF_f15 hA_f9 rfl
      have hP : va_P (dC, dI) vwCl (YW cy y0 r v14 f15 w16 g17) H := hP
      have hD : va_D A (YW cy y0 r v14 f15 w16 g17) := hD
      have hUv14 : (v14 35).toInt + (v14 36).toInt ≤ 40 := hIv14.2
      have hq9_v14 : v14 9 = (v 9) := hk9_v14.trans hq9_v8
      have zq9_v14 := congrArg Int32.toInt hq9_v14
      refine lv_istore_n (lv' := [(2, .int r13), (1, .int 1), (0, .ref y0)]) hx hb dX11_day_29 rfl hl (Nat.le_of_ble_eq_true rfl) rfl (fun ls hl => ?_)
      refine lv_aload_n hx hb dX11_day_30 rfl (lv_at hl 2 rfl) ?_
      refine cbVv (n := 0) (rest := []) hx hb hml hown hts hE hP hD hS hA (sY_X11_keepAir_1 0 l dC dI cy y0 r  v14 f15 w16 g17 hIv14 hCf15 hRf15 ) k_1720 k_1722 k_69 k_114 k_1723 (by decide +kernel) ⟨Nat.le_of_ble_eq_true rfl, Nat.le_of_ble_eq_true rfl⟩ 0 11 rfl rfl (rfl) hl.1 rfl (Nat.le_of_ble_eq_true rfl) dX11_day_31 (fun u H locs hw hP hD hS => ?_)
      obtain ⟨hG18, hw⟩ := hw
      obtain ⟨v19, f20, w21, g22⟩ := u
      obtain ⟨kV_v19, kF_f20, hIv19, hCf20, hRf20, hk0_v19, hk1_v19, hk2_v19, hk3_v19, hk4_v19, hk5_v19, hk8_v19, hk9_v19, hk10_v19, hk13_v19, hk14_v19, hk15_v19, hk17_v19, hk18_v19, hk24_v19, hk25_v19, hk35_v19, hk36_v19, hk38_v19, hk39_v19⟩ := hw
      have hM_v19 : KV [35, 36] v19 v := KV.tr kV_v19 hM_v14 rfl
      have hA_f20 : KF [7, 8, 23, 24, 25] f20 f := KF.tr kF_f20 hA_f15 rfl
      have hP : va_P (dC, dI) vwCl (YW cy y0 r v19 f20 w21 g22) H := hP
      have hD : va_D A (YW cy y0 r v19 f20 w21 g22) := hD
      have hUv19 : (v19 35).toInt + (v19 36).toInt ≤ 40 := hIv19.2
      have hq9_v19 : v19 9 = (v 9) := hk9_v19.trans hq9_v14
      have zq9_v19 := congrArg Int32.toInt hq9_v19
      refine lv_iload_n hx hb dX11_day_34 rfl (lv_at hl 0 rfl) ?_
      exact ret r13 (v19, f20, w21, g22) _ _ _ _ _ _ rfl ⟨hM_v19, hA_f20, hIv19, hCf20, hRf20, (hk0_v19.trans (hk0_v14.trans (hk0_v8.trans hk0_v3))), (hk1_v19.trans (hk1_v14.trans (hk1_v8.trans hk1_v3))), (hk2_v19.trans (hk2_v14.trans (hk2_v8.trans hk2_v3))), (hk3_v19.trans (hk3_v14.trans (hk3_v8.trans hk3_v3))), (hk4_v19.trans (hk4_v14.trans (hk4_v8.trans hk4_v3))), (hk5_v19.trans (hk5_v14.trans (hk5_v8.trans hk5_v3))), (hk8_v19.trans (hk8_v14.trans (hk8_v8.trans hk8_v3))), (hk9_v19.trans (hk9_v14.trans (hk9_v8.trans hk9_v3))), (hk10_v19.trans (hk10_v14.trans (hk10_v8.trans hk10_v3))), (hk13_v19.trans (hk13_v14.trans (hk13_v8.trans hk13_v3))), (hk14_v19.trans (hk14_v14.trans (hk14_v8.trans hk14_v3))), (hk15_v19.trans (hk15_v14.trans (hk15_v8.trans hk15_v3))), (hk17_v19.trans (hk17_v14.trans (hk17_v8.trans hk17_v3))), (hk18_v19.trans (hk18_v14.trans (hk18_v8.trans hk18_v3))), (hk24_v19.trans (hk24_v14.trans (hk24_v8.trans hk24_v3))), (hk25_v19.trans (hk25_v14.trans (hk25_v8.trans hk25_v3))), (hk38_v19.trans (hk38_v14.trans (hk38_v8.trans hk38_v3))), (hk39_v19.trans (hk39_v14.trans (hk39_v8.trans hk39_v3)))⟩ hP hD hS dX11_day_35 (Nat.le_refl _) (Nat.le_refl _)
    · skip
      subst g12
      refine lv_istore_n (lv' := [(1, .int 0), (0, .ref y0)]) hx hb dX11_day_23 rfl hl (Nat.le_of_ble_eq_true rfl) rfl (fun ls hl => ?_)
      refine lv_aload_n hx hb dX11_day_24 rfl (lv_at hl 1 rfl) ?_
      refine lv_iload_n hx hb dX11_day_25 rfl (lv_at hl 0 rfl) ?_
      refine cbVi (n := 1) (rest := []) hx hb hml hown hts hE hP hD hS hA (sY_X11_goDay_1 l dC dI cy y0 r 0 v8 f9 w10 g11 hIv8 hCf9 hRf9 ) k_1795 k_1797 k_79 k_114 k_1798 (by decide +kernel) ⟨Nat.le_of_ble_eq_true rfl, Nat.le_of_ble_eq_true rfl⟩ 0 11 rfl rfl (rfl) hl.1 rfl (Nat.le_of_ble_eq_true rfl) dX11_day_26 (fun r23 u H locs hw hP hD hS => ?_)
      obtain ⟨v24, f25, w26, g27⟩ := u
      obtain ⟨kV_v24, kF_f25, hIv24, hCf25, hRf25, hk0_v24, hk1_v24, hk2_v24, hk3_v24, hk4_v24, hk5_v24, hk8_v24, hk9_v24, hk10_v24, hk13_v24, hk14_v24, hk15_v24, hk17_v24, hk18_v24, hk24_v24, hk25_v24, hk35_v24, hk36_v24, hk38_v24, hk39_v24⟩ := hw
      have hM_v24 : KV [35, 36] v24 v := KV.tr kV_v24 hM_v8 rfl
      have hA_f25 : KF [7, 8, 23, 24, 25] f25 f := KF.tr kF_f25 hA_f9 rfl
      have hP : va_P (dC, dI) vwCl (YW cy y0 r v24 f25 w26 g27) H := hP
      have hD : va_D A (YW cy y0 r v24 f25 w26 g27) := hD
      have hUv24 : (v24 35).toInt + (v24 36).toInt ≤ 40 := hIv24.2
      have hq9_v24 : v24 9 = (v 9) := hk9_v24.trans hq9_v8
      have zq9_v24 := congrArg Int32.toInt hq9_v24
      refine lv_istore_n (lv' := [(2, .int r23), (1, .int 0), (0, .ref y0)]) hx hb dX11_day_29 rfl hl (Nat.le_of_ble_eq_true rfl) rfl (fun ls hl => ?_)
      refine lv_aload_n hx hb dX11_day_30 rfl (lv_at hl 2 rfl) ?_
      refine cbVv (n := 0) (rest := []) hx hb hml hown hts hE hP hD hS hA (sY_X11_keepAir_1 0 l dC dI cy y0 r  v24 f25 w26 g27 hIv24 hCf25 hRf25 ) k_1720 k_1722 k_69 k_114 k_1723 (by decide +kernel) ⟨Nat.le_of_ble_eq_true rfl, Nat.le_of_ble_eq_true rfl⟩ 0 11 rfl rfl (rfl) hl.1 rfl (Nat.le_of_ble_eq_true rfl) dX11_day_31 (fun u H locs hw hP hD hS => ?_)
      obtain ⟨hG28, hw⟩ := hw
      obtain ⟨v29, f30, w31, g32⟩ := u
      obtain ⟨kV_v29, kF_f30, hIv29, hCf30, hRf30, hk0_v29, hk1_v29, hk2_v29, hk3_v29, hk4_v29, hk5_v29, hk8_v29, hk9_v29, hk10_v29, hk13_v29, hk14_v29, hk15_v29, hk17_v29, hk18_v29, hk24_v29, hk25_v29, hk35_v29, hk36_v29, hk38_v29, hk39_v29⟩ := hw
      have hM_v29 : KV [35, 36] v29 v := KV.tr kV_v29 hM_v24 rfl
      have hA_f30 : KF [7, 8, 23, 24, 25] f30 f := KF.tr kF_f30 hA_f25 rfl
      have hP : va_P (dC, dI) vwCl (YW cy y0 r v29 f30 w31 g32) H := hP
      have hD : va_D A (YW cy y0 r v29 f30 w31 g32) := hD
      have hUv29 : (v29 35).toInt + (v29 36).toInt ≤ 40 := hIv29.2
      have hq9_v29 : v29 9 = (v 9) := hk9_v29.trans hq9_v24
      have zq9_v29 := congrArg Int32.toInt hq9_v29
      refine lv_iload_n hx hb dX11_day_34 rfl (lv_at hl 0 rfl) ?_
      exact ret r23 (v29, f30, w31, g32) _ _ _ _ _ _ rfl ⟨hM_v29, hA_f30, hIv29, hCf30, hRf30, (hk0_v29.trans (hk0_v24.trans (hk0_v8.trans hk0_v3))), (hk1_v29.trans (hk1_v24.trans (hk1_v8.trans hk1_v3))), (hk2_v29.trans (hk2_v24.trans (hk2_v8.trans hk2_v3))), (hk3_v29.trans (hk3_v24.trans (hk3_v8.trans hk3_v3))), (hk4_v29.trans (hk4_v24.trans (hk4_v8.trans hk4_v3))), (hk5_v29.trans (hk5_v24.trans (hk5_v8.trans hk5_v3))), (hk8_v29.trans (hk8_v24.trans (hk8_v8.trans hk8_v3))), (hk9_v29.trans (hk9_v24.trans (hk9_v8.trans hk9_v3))), (hk10_v29.trans (hk10_v24.trans (hk10_v8.trans hk10_v3))), (hk13_v29.trans (hk13_v24.trans (hk13_v8.trans hk13_v3))), (hk14_v29.trans (hk14_v24.trans (hk14_v8.trans hk14_v3))), (hk15_v29.trans (hk15_v24.trans (hk15_v8.trans hk15_v3))), (hk17_v29.trans (hk17_v24.trans (hk17_v8.trans hk17_v3))), (hk18_v29.trans (hk18_v24.trans (hk18_v8.trans hk18_v3))), (hk24_v29.trans (hk24_v24.trans (hk24_v8.trans hk24_v3))), (hk25_v29.trans (hk25_v24.trans (hk25_v8.trans hk25_v3))), (hk38_v29.trans (hk38_v24.trans (hk38_v8.trans hk38_v3))), (hk39_v29.trans (hk39_v24.trans (hk39_v8.trans hk39_v3)))⟩ hP hD hS dX11_day_35 (Nat.le_refl _) (Nat.le_refl _)
  · skip
    have zc2 : t1.toInt = 999 := by rw [fa_eq, show (999 : Int32).toInt = 999 from by decide] at c2; exact c2
    refine lv_iconst (v := (-1)) hx hb dX11_day_13 rfl ?_
    exact ret (-1) (v, f, w, g) _ _ _ _ _ _ rfl ⟨hM_v, hA_f, hIv, hCf, hRf, rfl, rfl, rfl, rfl, rfl, rfl, rfl, rfl, rfl, rfl, rfl, rfl, rfl, rfl, rfl, rfl, rfl, rfl⟩ hP hD hS dX11_day_14 (Nat.le_refl _) (Nat.le_refl _)
set_option maxHeartbeats 4000000 in
set_option maxRecDepth 100000 in
theorem sY_X11_don_1 (l : Launch) (dC : Nat → ClassId) (dI : Nat → Nat → Nat) (cy : Nat → ClassId) (y0 : Nat) (r : Nat → Nat) (p1 : Int32) (p2 : Int32) (v : Nat → Int32) (f : Nat → Nat → Int32) (w : Int64) (g : Nat → Int64) (hIv : YI v) (hCf : YC f) (hRf : progOK (f 4) (f 5) (v 9).toInt.toNat)  : ctI l (dC, dI) cy yX11_don cX11_don 4 .int 3 103 0 0 ((Nat → Int32) × (Nat → Nat → Int32) × (Int64) × (Nat → Int64)) [.ref y0, .int p1, .int p2] (YW cy y0 r v f w g) (fun r u => KV [35, 36] u.1 v ∧ KF [23, 24, 25] u.2.1 f ∧ YI u.1 ∧ YC u.2.1 ∧ progOK (u.2.1 4) (u.2.1 5) (u.1 9).toInt.toNat ∧ u.1 0 = v 0 ∧ u.1 1 = v 1 ∧ u.1 2 = v 2 ∧ u.1 3 = v 3 ∧ u.1 4 = v 4 ∧ u.1 5 = v 5 ∧ u.1 8 = v 8 ∧ u.1 9 = v 9 ∧ u.1 10 = v 10 ∧ u.1 13 = v 13 ∧ u.1 14 = v 14 ∧ u.1 15 = v 15 ∧ u.1 17 = v 17 ∧ u.1 18 = v 18 ∧ u.1 24 = v 24 ∧ u.1 25 = v 25 ∧ u.1 38 = v 38 ∧ u.1 39 = v 39) (fun u => YW cy y0 r u.1 u.2.1 u.2.2.1 u.2.2.2) := by
  refine ctI_of (by decide) (Nat.le_of_ble_eq_true rfl) (fun p e s m below meth c A ls Q hx hb hml hts hown hE hP hD hA hl ret => ?_)
  have hUv : (v 35).toInt + (v 36).toInt ≤ 40 := hIv.2
  have hM_v : KV [35, 36] v v := fun _ _ => rfl
  have hA_f : KF [23, 24, 25] f f := fun _ _ => rfl
  have hown : s.vm.findClass RX11 = some m.cls := hown
  have hS : va_S A s.heap s.heap [] := va_S.rf
  have hl : lv_has ls 4 [(0, .ref y0), (1, .int p1), (2, .int p2)] := hl
  refine lv_aload_n hx hb dX11_don_0 rfl (lv_at hl 0 rfl) ?_
  refine cbVv (n := 0) (rest := []) hx hb hml hown hts hE hP hD hS hA (sY_X11_fill_1 l dC dI cy y0 r  v f w g hIv hCf hRf ) k_1739 k_1741 k_71 k_114 k_1742 (by decide +kernel) ⟨Nat.le_of_ble_eq_true rfl, Nat.le_of_ble_eq_true rfl⟩ 0 11 rfl rfl (rfl) hl.1 rfl (Nat.le_of_ble_eq_true rfl) dX11_don_1 (fun u H locs hw hP hD hS => ?_)
  obtain ⟨v1, f2, w3, g4⟩ := u
  obtain ⟨kV_v1, kF_f2, hIv1, hCf2, hRf2, hk0_v1, hk1_v1, hk2_v1, hk3_v1, hk4_v1, hk5_v1, hk8_v1, hk9_v1, hk10_v1, hk13_v1, hk14_v1, hk15_v1, hk17_v1, hk18_v1, hk24_v1, hk25_v1, hk35_v1, hk36_v1, hk38_v1, hk39_v1⟩ := hw
  have hM_v1 : KV [35, 36] v1 v := KV.tr kV_v1 hM_v rfl
  have hA_f2 : KF [23, 24, 25] f2 f := KF.tr kF_f2 hA_f rfl
  have hP : va_P (dC, dI) vwCl (YW cy y0 r v1 f2 w3 g4) H := hP
  have hD : va_D A (YW cy y0 r v1 f2 w3 g4) := hD
  have hUv1 : (v1 35).toInt + (v1 36).toInt ≤ 40 := hIv1.2
  have hq9_v1 : v1 9 = (v 9) := hk9_v1
  have zq9_v1 := congrArg Int32.toInt hq9_v1
  refine lv_aload_n hx hb dX11_don_4 rfl (lv_at hl 0 rfl) ?_
  refine lv_iload_n hx hb dX11_don_5 rfl (lv_at hl 1 rfl) ?_
  refine cbVi (n := 1) (rest := []) hx hb hml hown hts hE hP hD hS hA (sY_X11_isMan_1 l dC dI cy y0 r p1 v1 f2 w3 g4 hIv1 hCf2 hRf2 ) k_1732 k_1734 k_70 k_114 k_1735 (by decide +kernel) ⟨Nat.le_of_ble_eq_true rfl, Nat.le_of_ble_eq_true rfl⟩ 0 11 rfl rfl (rfl) hl.1 rfl (Nat.le_of_ble_eq_true rfl) dX11_don_6 (fun r5 u H locs hw hP hD hS => ?_)
  rcases hw with ⟨g6, g6_0, g6_1, g6_2⟩ | ⟨g6⟩
  · skip
    subst g6
    refine lv_if_eq (tgt := 28) hx hb dX11_don_9 rfl (fun c0 => absurd c0 (by decide)) (fun _ => ?_)
    refine lv_aload_n hx hb dX11_don_12 rfl (lv_at hl 0 rfl) ?_
    refine lv_iload_n hx hb dX11_don_13 rfl (lv_at hl 2 rfl) ?_
    refine cbVi (n := 1) (rest := []) hx hb hml hown hts hE hP hD hS hA (sY_X11_isCoat_1 l dC dI cy y0 r p2 v1 f2 w3 g4 hIv1 hCf2 hRf2 ) k_1771 k_1773 k_75 k_114 k_1774 (by decide +kernel) ⟨Nat.le_of_ble_eq_true rfl, Nat.le_of_ble_eq_true rfl⟩ 0 11 rfl rfl (rfl) hl.1 rfl (Nat.le_of_ble_eq_true rfl) dX11_don_14 (fun r7 u H locs hw hP hD hS => ?_)
    rcases hw with ⟨g8, g8_0, g8_1, g8_2⟩ | ⟨g8⟩
    · skip
      subst g8
      refine lv_if_eq (tgt := 28) hx hb dX11_don_17 rfl (fun c0 => absurd c0 (by decide)) (fun _ => ?_)
      refine lv_aload_n hx hb dX11_don_20 rfl (lv_at hl 0 rfl) ?_
      refine lv_iload_n hx hb dX11_don_21 rfl (lv_at hl 2 rfl) ?_
      refine cbVi (n := 1) (rest := []) hx hb hml hown hts hE hP hD hS hA (sY_X11_wearer_1 l dC dI cy y0 r p2 v1 f2 w3 g4 hIv1 hCf2 hRf2 ) k_1775 k_1777 k_76 k_114 k_1778 (by decide +kernel) ⟨Nat.le_of_ble_eq_true rfl, Nat.le_of_ble_eq_true rfl⟩ 0 11 rfl rfl (rfl) hl.1 rfl (Nat.le_of_ble_eq_true rfl) dX11_don_22 (fun r9 u H locs hw hP hD hS => ?_)
      refine lv_if_lt (tgt := 31) hx hb dX11_don_25 rfl (fun c10 => ?_) (fun c10 => ?_)
      · skip
        have zc10 : r9.toInt < 0 := by rw [fa_lt, show (0 : Int32).toInt = 0 from by decide] at c10; exact c10
        refine lv_aload_n hx hb dX11_don_31 rfl (lv_at hl 0 rfl) ?_
        refine cbVv (n := 0) (rest := []) hx hb hml hown hts hE hP hD hS hA (sY_X11_act_1 l dC dI cy y0 r  v1 f2 w3 g4 hIv1 hCf2 hRf2 ) k_1787 k_1789 k_77 k_114 k_1790 (by decide +kernel) ⟨Nat.le_of_ble_eq_true rfl, Nat.le_of_ble_eq_true rfl⟩ 0 11 rfl rfl (rfl) hl.1 rfl (Nat.le_of_ble_eq_true rfl) dX11_don_32 (fun u H locs hw hP hD hS => ?_)
        obtain ⟨v11, f12, w13, g14⟩ := u
        obtain ⟨kV_v11, kF_f12, hIv11, hCf12, hRf12, hk0_v11, hk1_v11, hk2_v11, hk3_v11, hk4_v11, hk5_v11, hk8_v11, hk9_v11, hk10_v11, hk13_v11, hk14_v11, hk15_v11, hk17_v11, hk18_v11, hk24_v11, hk25_v11, hk38_v11, hk39_v11⟩ := hw
        have hM_v11 : KV [35, 36] v11 v := KV.tr kV_v11 hM_v1 rfl
        have hA_f12 : KF [23, 24, 25] f12 f := KF.tr kF_f12 hA_f2 rfl
        have hP : va_P (dC, dI) vwCl (YW cy y0 r v11 f12 w13 g14) H := hP
        have hD : va_D A (YW cy y0 r v11 f12 w13 g14) := hD
        have hUv11 : (v11 35).toInt + (v11 36).toInt ≤ 40 := hIv11.2
        have hq9_v11 : v11 9 = (v 9) := hk9_v11.trans hq9_v1
        have zq9_v11 := congrArg Int32.toInt hq9_v11
        refine lv_aload_n hx hb dX11_don_35 rfl (lv_at hl 0 rfl) ?_
        refine va_get (D := (dC, dI)) (ci := 11) (v := .ref (r 59)) (C := RX11) (T := TX11) (N := 79) hx hb hts inB_11 hown hE.1 hP 0 rfl rfl 59 (Nat.le_of_ble_eq_true rfl) (hts _ k_1379) (fun _ h9 => h9) rfl dX11_don_36 ?_
        refine lv_bipush (v := 6) hx hb dX11_don_39 rfl ?_
        refine lv_iload_n hx hb dX11_don_41 rfl (lv_at hl 1 rfl) ?_
        refine lv_iadd hx hb dX11_don_42 ?_
        refine lv_topi (fun t15 et15 => ?_)
        have rg16 := fb_rng p1
        have zt15 : t15.toInt = 6 + p1.toInt := by rw [et15]; exact add_i (by decide) rfl (by omega) (by omega)
        refine ldI hx hb hE hP 24 rfl (vp_in_iff.mpr ⟨by omega, by omega⟩) rfl rfl dX11_don_43 ?_
        refine lv_topi (fun t17 et17 => ?_)
        have zt17 : t15.toInt.toNat % 39 < 6 ∨ 12 ≤ t15.toInt.toNat % 39 ∨ (-1 ≤ t17.toInt ∧ t17.toInt ≤ 5) := by rw [et17]; exact wear_ld hCf12.1 (show t15.toInt.toNat < 39 by omega)
        refine lv_istore_n (lv' := [(3, .int t17), (0, .ref y0), (1, .int p1), (2, .int p2)]) hx hb dX11_don_44 rfl hl (Nat.le_of_ble_eq_true rfl) rfl (fun ls hl => ?_)
        refine lv_aload_n hx hb dX11_don_45 rfl (lv_at hl 1 rfl) ?_
        refine va_get (D := (dC, dI)) (ci := 11) (v := .ref (r 59)) (C := RX11) (T := TX11) (N := 79) hx hb hts inB_11 hown hE.1 hP 0 rfl rfl 59 (Nat.le_of_ble_eq_true rfl) (hts _ k_1379) (fun _ h9 => h9) rfl dX11_don_46 ?_
        refine lv_bipush (v := 6) hx hb dX11_don_49 rfl ?_
        refine lv_iload_n hx hb dX11_don_51 rfl (lv_at hl 2 rfl) ?_
        refine lv_iadd hx hb dX11_don_52 ?_
        refine tI (y := t15) et15.symm ?_
        refine lv_iload_n hx hb dX11_don_53 rfl (lv_at hl 3 rfl) ?_
        refine stI hx hb hE hP hD hS 24 rfl (vp_in_iff.mpr ⟨by omega, by omega⟩) rfl dX11_don_54 (fun H locs hP hD hS => ?_)
        obtain ⟨f18, ef18, hP, hD⟩ : ∃ fz9, fz9 = upd2 f12 23 (upd (f12 23) t15.toNatClampNeg p2) ∧ va_P (dC, dI) vwCl (YW cy y0 r v11 fz9 w13 g14) H ∧ va_D A (YW cy y0 r v11 fz9 w13 g14) := ⟨_, rfl, hP, hD⟩
        have hCf18 : YC f18 := by rw [ef18]; exact ⟨(wear_st hCf12.1 (by show t15.toInt.toNat % 39 < 6 ∨ 12 ≤ t15.toInt.toNat % 39 ∨ (-1 ≤ p2.toInt ∧ p2.toInt ≤ 5); omega)), hCf12.2.1, hCf12.2.2.1, hCf12.2.2.2.1, hCf12.2.2.2.2.1, hCf12.2.2.2.2.2⟩
        have hRf18 : progOK (f18 4) (f18 5) (v11 9).toInt.toNat := by rw [ef18]; exact hRf12
        have hA_f18 : KF [23, 24, 25] f18 f := by rw [ef18]; exact KF.up hA_f12 rfl
        refine lv_iload_n hx hb dX11_don_55 rfl (lv_at hl 0 rfl) ?_
        exact ret t17 (v11, f18, w13, g14) _ _ _ _ _ _ rfl ⟨hM_v11, hA_f18, hIv11, hCf18, hRf18, (hk0_v11.trans hk0_v1), (hk1_v11.trans hk1_v1), (hk2_v11.trans hk2_v1), (hk3_v11.trans hk3_v1), (hk4_v11.trans hk4_v1), (hk5_v11.trans hk5_v1), (hk8_v11.trans hk8_v1), (hk9_v11.trans hk9_v1), (hk10_v11.trans hk10_v1), (hk13_v11.trans hk13_v1), (hk14_v11.trans hk14_v1), (hk15_v11.trans hk15_v1), (hk17_v11.trans hk17_v1), (hk18_v11.trans hk18_v1), (hk24_v11.trans hk24_v1), (hk25_v11.trans hk25_v1), (hk38_v11.trans hk38_v1), (hk39_v11.trans hk39_v1)⟩ hP hD hS dX11_don_56 (Nat.le_refl _) (Nat.le_refl _)
      · skip
        have zc10 : ¬ (r9.toInt < 0) := by rw [fa_lt, show (0 : Int32).toInt = 0 from by decide] at c10; exact c10
        refine lv_bipush (v := (-2)) hx hb dX11_don_28 rfl ?_
        exact ret (-2) (v1, f2, w3, g4) _ _ _ _ _ _ rfl ⟨hM_v1, hA_f2, hIv1, hCf2, hRf2, hk0_v1, hk1_v1, hk2_v1, hk3_v1, hk4_v1, hk5_v1, hk8_v1, hk9_v1, hk10_v1, hk13_v1, hk14_v1, hk15_v1, hk17_v1, hk18_v1, hk24_v1, hk25_v1, hk38_v1, hk39_v1⟩ hP hD hS dX11_don_30 (Nat.le_refl _) (Nat.le_refl _)
    · skip
      subst g8
      refine lv_if_eq (tgt := 28) hx hb dX11_don_17 rfl (fun _ => ?_) (fun c0 => absurd (by decide) c0)
      refine lv_bipush (v := (-2)) hx hb dX11_don_28 rfl ?_
      exact ret (-2) (v1, f2, w3, g4) _ _ _ _ _ _ rfl ⟨hM_v1, hA_f2, hIv1, hCf2, hRf2, hk0_v1, hk1_v1, hk2_v1, hk3_v1, hk4_v1, hk5_v1, hk8_v1, hk9_v1, hk10_v1, hk13_v1, hk14_v1, hk15_v1, hk17_v1, hk18_v1, hk24_v1, hk25_v1, hk38_v1, hk39_v1⟩ hP hD hS dX11_don_30 (Nat.le_refl _) (Nat.le_refl _)
  · skip
    subst g6
    refine lv_if_eq (tgt := 28) hx hb dX11_don_9 rfl (fun _ => ?_) (fun c0 => absurd (by decide) c0)
    refine lv_bipush (v := (-2)) hx hb dX11_don_28 rfl ?_
    exact ret (-2) (v1, f2, w3, g4) _ _ _ _ _ _ rfl ⟨hM_v1, hA_f2, hIv1, hCf2, hRf2, hk0_v1, hk1_v1, hk2_v1, hk3_v1, hk4_v1, hk5_v1, hk8_v1, hk9_v1, hk10_v1, hk13_v1, hk14_v1, hk15_v1, hk17_v1, hk18_v1, hk24_v1, hk25_v1, hk38_v1, hk39_v1⟩ hP hD hS dX11_don_30 (Nat.le_refl _) (Nat.le_refl _)
set_option maxHeartbeats 4000000 in
set_option maxRecDepth 100000 in
theorem sY_X11_doff_1 (l : Launch) (dC : Nat → ClassId) (dI : Nat → Nat → Nat) (cy : Nat → ClassId) (y0 : Nat) (r : Nat → Nat) (p1 : Int32) (v : Nat → Int32) (f : Nat → Nat → Int32) (w : Int64) (g : Nat → Int64) (hIv : YI v) (hCf : YC f) (hRf : progOK (f 4) (f 5) (v 9).toInt.toNat)  : ctI l (dC, dI) cy yX11_doff cX11_doff 3 .int 3 103 0 0 ((Nat → Int32) × (Nat → Nat → Int32) × (Int64) × (Nat → Int64)) [.ref y0, .int p1] (YW cy y0 r v f w g) (fun r u => KV [35, 36] u.1 v ∧ KF [23, 24, 25] u.2.1 f ∧ YI u.1 ∧ YC u.2.1 ∧ progOK (u.2.1 4) (u.2.1 5) (u.1 9).toInt.toNat ∧ u.1 0 = v 0 ∧ u.1 1 = v 1 ∧ u.1 2 = v 2 ∧ u.1 3 = v 3 ∧ u.1 4 = v 4 ∧ u.1 5 = v 5 ∧ u.1 8 = v 8 ∧ u.1 9 = v 9 ∧ u.1 10 = v 10 ∧ u.1 13 = v 13 ∧ u.1 14 = v 14 ∧ u.1 15 = v 15 ∧ u.1 17 = v 17 ∧ u.1 18 = v 18 ∧ u.1 24 = v 24 ∧ u.1 25 = v 25 ∧ u.1 38 = v 38 ∧ u.1 39 = v 39) (fun u => YW cy y0 r u.1 u.2.1 u.2.2.1 u.2.2.2) := by
  refine ctI_of (by decide) (Nat.le_of_ble_eq_true rfl) (fun p e s m below meth c A ls Q hx hb hml hts hown hE hP hD hA hl ret => ?_)
  have hUv : (v 35).toInt + (v 36).toInt ≤ 40 := hIv.2
  have hM_v : KV [35, 36] v v := fun _ _ => rfl
  have hA_f : KF [23, 24, 25] f f := fun _ _ => rfl
  have hown : s.vm.findClass RX11 = some m.cls := hown
  have hS : va_S A s.heap s.heap [] := va_S.rf
  have hl : lv_has ls 3 [(0, .ref y0), (1, .int p1)] := hl
  refine lv_aload_n hx hb dX11_doff_0 rfl (lv_at hl 0 rfl) ?_
  refine lv_iload_n hx hb dX11_doff_1 rfl (lv_at hl 1 rfl) ?_
  refine cbVi (n := 1) (rest := []) hx hb hml hown hts hE hP hD hS hA (sY_X11_isMan_1 l dC dI cy y0 r p1 v f w g hIv hCf hRf ) k_1732 k_1734 k_70 k_114 k_1735 (by decide +kernel) ⟨Nat.le_of_ble_eq_true rfl, Nat.le_of_ble_eq_true rfl⟩ 0 11 rfl rfl (rfl) hl.1 rfl (Nat.le_of_ble_eq_true rfl) dX11_doff_2 (fun r1 u H locs hw hP hD hS => ?_)
  rcases hw with ⟨g2, g2_0, g2_1, g2_2⟩ | ⟨g2⟩
  · skip
    subst g2
    refine lv_if_eq (tgt := 20) hx hb dX11_doff_5 rfl (fun c0 => absurd c0 (by decide)) (fun _ => ?_)
    refine lv_aload_n hx hb dX11_doff_8 rfl (lv_at hl 0 rfl) ?_
    refine va_get (D := (dC, dI)) (ci := 11) (v := .ref (r 59)) (C := RX11) (T := TX11) (N := 79) hx hb hts inB_11 hown hE.1 hP 0 rfl rfl 59 (Nat.le_of_ble_eq_true rfl) (hts _ k_1379) (fun _ h9 => h9) rfl dX11_doff_9 ?_
    refine lv_bipush (v := 6) hx hb dX11_doff_12 rfl ?_
    refine lv_iload_n hx hb dX11_doff_14 rfl (lv_at hl 1 rfl) ?_
    refine lv_iadd hx hb dX11_doff_15 ?_
    refine lv_topi (fun t3 et3 => ?_)
    have rg4 := fb_rng p1
    have zt3 : t3.toInt = 6 + p1.toInt := by rw [et3]; exact add_i (by decide) rfl (by omega) (by omega)
    refine ldI hx hb hE hP 24 rfl (vp_in_iff.mpr ⟨by omega, by omega⟩) rfl rfl dX11_doff_16 ?_
    refine lv_topi (fun t5 et5 => ?_)
    have zt5 : t3.toInt.toNat % 39 < 6 ∨ 12 ≤ t3.toInt.toNat % 39 ∨ (-1 ≤ t5.toInt ∧ t5.toInt ≤ 5) := by rw [et5]; exact wear_ld hCf.1 (show t3.toInt.toNat < 39 by omega)
    refine lv_if_ge (tgt := 22) hx hb dX11_doff_17 rfl (fun c6 => ?_) (fun c6 => ?_)
    · skip
      have zc6 : 0 ≤ t5.toInt := by rw [fa_le, show (0 : Int32).toInt = 0 from by decide] at c6; exact c6
      refine lv_aload_n hx hb dX11_doff_22 rfl (lv_at hl 0 rfl) ?_
      refine cbVv (n := 0) (rest := []) hx hb hml hown hts hE hP hD hS hA (sY_X11_act_1 l dC dI cy y0 r  v f w g hIv hCf hRf ) k_1787 k_1789 k_77 k_114 k_1790 (by decide +kernel) ⟨Nat.le_of_ble_eq_true rfl, Nat.le_of_ble_eq_true rfl⟩ 0 11 rfl rfl (rfl) hl.1 rfl (Nat.le_of_ble_eq_true rfl) dX11_doff_23 (fun u H locs hw hP hD hS => ?_)
      obtain ⟨v7, f8, w9, g10⟩ := u
      obtain ⟨kV_v7, kF_f8, hIv7, hCf8, hRf8, hk0_v7, hk1_v7, hk2_v7, hk3_v7, hk4_v7, hk5_v7, hk8_v7, hk9_v7, hk10_v7, hk13_v7, hk14_v7, hk15_v7, hk17_v7, hk18_v7, hk24_v7, hk25_v7, hk38_v7, hk39_v7⟩ := hw
      have hM_v7 : KV [35, 36] v7 v := KV.tr kV_v7 hM_v rfl
      have hA_f8 : KF [23, 24, 25] f8 f := KF.tr kF_f8 hA_f rfl
      have hP : va_P (dC, dI) vwCl (YW cy y0 r v7 f8 w9 g10) H := hP
      have hD : va_D A (YW cy y0 r v7 f8 w9 g10) := hD
      have hUv7 : (v7 35).toInt + (v7 36).toInt ≤ 40 := hIv7.2
      have hq9_v7 : v7 9 = (v 9) := hk9_v7
      have zq9_v7 := congrArg Int32.toInt hq9_v7
      refine lv_aload_n hx hb dX11_doff_26 rfl (lv_at hl 0 rfl) ?_
      refine va_get (D := (dC, dI)) (ci := 11) (v := .ref (r 59)) (C := RX11) (T := TX11) (N := 79) hx hb hts inB_11 hown hE.1 hP 0 rfl rfl 59 (Nat.le_of_ble_eq_true rfl) (hts _ k_1379) (fun _ h9 => h9) rfl dX11_doff_27 ?_
      refine lv_bipush (v := 6) hx hb dX11_doff_30 rfl ?_
      refine lv_iload_n hx hb dX11_doff_32 rfl (lv_at hl 1 rfl) ?_
      refine lv_iadd hx hb dX11_doff_33 ?_
      refine tI (y := t3) et3.symm ?_
      refine ldI hx hb hE hP 24 rfl (vp_in_iff.mpr ⟨by omega, by omega⟩) rfl rfl dX11_doff_34 ?_
      refine lv_topi (fun t11 et11 => ?_)
      have zt11 : t3.toInt.toNat % 39 < 6 ∨ 12 ≤ t3.toInt.toNat % 39 ∨ (-1 ≤ t11.toInt ∧ t11.toInt ≤ 5) := by rw [et11]; exact wear_ld hCf8.1 (show t3.toInt.toNat < 39 by omega)
      refine lv_istore_n (lv' := [(2, .int t11), (0, .ref y0), (1, .int p1)]) hx hb dX11_doff_35 rfl hl (Nat.le_of_ble_eq_true rfl) rfl (fun ls hl => ?_)
      refine lv_aload_n hx hb dX11_doff_36 rfl (lv_at hl 1 rfl) ?_
      refine va_get (D := (dC, dI)) (ci := 11) (v := .ref (r 59)) (C := RX11) (T := TX11) (N := 79) hx hb hts inB_11 hown hE.1 hP 0 rfl rfl 59 (Nat.le_of_ble_eq_true rfl) (hts _ k_1379) (fun _ h9 => h9) rfl dX11_doff_37 ?_
      refine lv_bipush (v := 6) hx hb dX11_doff_40 rfl ?_
      refine lv_iload_n hx hb dX11_doff_42 rfl (lv_at hl 2 rfl) ?_
      refine lv_iadd hx hb dX11_doff_43 ?_
      refine tI (y := t3) et3.symm ?_
      refine lv_iconst (v := (-1)) hx hb dX11_doff_44 rfl ?_
      refine stI hx hb hE hP hD hS 24 rfl (vp_in_iff.mpr ⟨by omega, by omega⟩) rfl dX11_doff_45 (fun H locs hP hD hS => ?_)
      obtain ⟨f12, ef12, hP, hD⟩ : ∃ fz9, fz9 = upd2 f8 23 (upd (f8 23) t3.toNatClampNeg (-1)) ∧ va_P (dC, dI) vwCl (YW cy y0 r v7 fz9 w9 g10) H ∧ va_D A (YW cy y0 r v7 fz9 w9 g10) := ⟨_, rfl, hP, hD⟩
      have hCf12 : YC f12 := by rw [ef12]; exact ⟨(wear_st hCf8.1 (by have q9 : ((-1) : Int32).toInt = -1 := (by decide); show t3.toInt.toNat % 39 < 6 ∨ 12 ≤ t3.toInt.toNat % 39 ∨ (-1 ≤ ((-1) : Int32).toInt ∧ ((-1) : Int32).toInt ≤ 5); omega)), hCf8.2.1, hCf8.2.2.1, hCf8.2.2.2.1, hCf8.2.2.2.2.1, hCf8.2.2.2.2.2⟩
      have hRf12 : progOK (f12 4) (f12 5) (v7 9).toInt.toNat := by rw [ef12]; exact hRf8
      have hA_f12 : KF [23, 24, 25] f12 f := by rw [ef12]; exact KF.up hA_f8 rfl
      refine lv_iload_n hx hb dX11_doff_46 rfl (lv_at hl 0 rfl) ?_
      exact ret t11 (v7, f12, w9, g10) _ _ _ _ _ _ rfl ⟨hM_v7, hA_f12, hIv7, hCf12, hRf12, hk0_v7, hk1_v7, hk2_v7, hk3_v7, hk4_v7, hk5_v7, hk8_v7, hk9_v7, hk10_v7, hk13_v7, hk14_v7, hk15_v7, hk17_v7, hk18_v7, hk24_v7, hk25_v7, hk38_v7, hk39_v7⟩ hP hD hS dX11_doff_47 (Nat.le_refl _) (Nat.le_refl _)
    · skip
      have zc6 : ¬ (0 ≤ t5.toInt) := by rw [fa_le, show (0 : Int32).toInt = 0 from by decide] at c6; exact c6
      refine lv_iconst (v := (-1)) hx hb dX11_doff_20 rfl ?_
      exact ret (-1) (v, f, w, g) _ _ _ _ _ _ rfl ⟨hM_v, hA_f, hIv, hCf, hRf, rfl, rfl, rfl, rfl, rfl, rfl, rfl, rfl, rfl, rfl, rfl, rfl, rfl, rfl, rfl, rfl, rfl, rfl⟩ hP hD hS dX11_doff_21 (Nat.le_refl _) (Nat.le_refl _)
  · skip
    subst g2
    refine lv_if_eq (tgt := 20) hx hb dX11_doff_5 rfl (fun _ => ?_) (fun c0 => absurd (by decide) c0)
    refine lv_iconst (v := (-1)) hx hb dX11_doff_20 rfl ?_
    exact ret (-1) (v, f, w, g) _ _ _ _ _ _ rfl ⟨hM_v, hA_f, hIv, hCf, hRf, rfl, rfl, rfl, rfl, rfl, rfl, rfl, rfl, rfl, rfl, rfl, rfl, rfl, rfl, rfl, rfl, rfl, rfl⟩ hP hD hS dX11_doff_21 (Nat.le_refl _) (Nat.le_refl _)
set_option maxHeartbeats 4000000 in
set_option maxRecDepth 100000 in
theorem sY_X11_letout_1 (l : Launch) (dC : Nat → ClassId) (dI : Nat → Nat → Nat) (cy : Nat → ClassId) (y0 : Nat) (r : Nat → Nat) (p1 : Int32) (p2 : Int32) (v : Nat → Int32) (f : Nat → Nat → Int32) (w : Int64) (g : Nat → Int64) (hIv : YI v) (hCf : YC f) (hRf : progOK (f 4) (f 5) (v 9).toInt.toNat)  : ctI l (dC, dI) cy yX11_letout cX11_letout 3 .int 3 103 0 0 ((Nat → Int32) × (Nat → Nat → Int32) × (Int64) × (Nat → Int64)) [.ref y0, .int p1, .int p2] (YW cy y0 r v f w g) (fun r u => KV [35, 36] u.1 v ∧ KF [23, 24, 25] u.2.1 f ∧ YI u.1 ∧ YC u.2.1 ∧ progOK (u.2.1 4) (u.2.1 5) (u.1 9).toInt.toNat ∧ u.1 0 = v 0 ∧ u.1 1 = v 1 ∧ u.1 2 = v 2 ∧ u.1 3 = v 3 ∧ u.1 4 = v 4 ∧ u.1 5 = v 5 ∧ u.1 8 = v 8 ∧ u.1 9 = v 9 ∧ u.1 10 = v 10 ∧ u.1 13 = v 13 ∧ u.1 14 = v 14 ∧ u.1 15 = v 15 ∧ u.1 17 = v 17 ∧ u.1 18 = v 18 ∧ u.1 24 = v 24 ∧ u.1 25 = v 25 ∧ u.1 38 = v 38 ∧ u.1 39 = v 39) (fun u => YW cy y0 r u.1 u.2.1 u.2.2.1 u.2.2.2) := by
  refine ctI_of (by decide) (Nat.le_of_ble_eq_true rfl) (fun p e s m below meth c A ls Q hx hb hml hts hown hE hP hD hA hl ret => ?_)
  have hUv : (v 35).toInt + (v 36).toInt ≤ 40 := hIv.2
  have hM_v : KV [35, 36] v v := fun _ _ => rfl
  have hA_f : KF [23, 24, 25] f f := fun _ _ => rfl
  have hown : s.vm.findClass RX11 = some m.cls := hown
  have hS : va_S A s.heap s.heap [] := va_S.rf
  have hl : lv_has ls 3 [(0, .ref y0), (1, .int p1), (2, .int p2)] := hl
  refine lv_aload_n hx hb dX11_letout_0 rfl (lv_at hl 0 rfl) ?_
  refine lv_iload_n hx hb dX11_letout_1 rfl (lv_at hl 1 rfl) ?_
  refine cbVi (n := 1) (rest := []) hx hb hml hown hts hE hP hD hS hA (sY_X11_isCoat_1 l dC dI cy y0 r p1 v f w g hIv hCf hRf ) k_1771 k_1773 k_75 k_114 k_1774 (by decide +kernel) ⟨Nat.le_of_ble_eq_true rfl, Nat.le_of_ble_eq_true rfl⟩ 0 11 rfl rfl (rfl) hl.1 rfl (Nat.le_of_ble_eq_true rfl) dX11_letout_2 (fun r1 u H locs hw hP hD hS => ?_)
  rcases hw with ⟨g2, g2_0, g2_1, g2_2⟩ | ⟨g2⟩
  · skip
    subst g2
    refine lv_if_eq (tgt := 41) hx hb dX11_letout_5 rfl (fun c0 => absurd c0 (by decide)) (fun _ => ?_)
    refine lv_iload_n hx hb dX11_letout_8 rfl (lv_at hl 2 rfl) ?_
    refine lv_iconst (v := 1) hx hb dX11_letout_9 rfl ?_
    refine lv_aload_n hx hb dX11_letout_10 rfl (lv_at hl 0 rfl) ?_
    refine va_get (D := (dC, dI)) (ci := 11) (v := .ref (r 59)) (C := RX11) (T := TX11) (N := 79) hx hb hts inB_11 hown hE.1 hP 0 rfl rfl 59 (Nat.le_of_ble_eq_true rfl) (hts _ k_1379) (fun _ h9 => h9) rfl dX11_letout_11 ?_
    refine lv_bipush (v := 24) hx hb dX11_letout_14 rfl ?_
    refine lv_iload_n hx hb dX11_letout_16 rfl (lv_at hl 1 rfl) ?_
    refine lv_iadd hx hb dX11_letout_17 ?_
    refine lv_topi (fun t3 et3 => ?_)
    have rg4 := fb_rng p1
    have zt3 : t3.toInt = 24 + p1.toInt := by rw [et3]; exact add_i (by decide) rfl (by omega) (by omega)
    refine ldI hx hb hE hP 24 rfl (vp_in_iff.mpr ⟨by omega, by omega⟩) rfl rfl dX11_letout_18 ?_
    refine lv_topi (fun t5 et5 => ?_)
    have zt5 : t3.toInt.toNat % 39 < 6 ∨ 12 ≤ t3.toInt.toNat % 39 ∨ (-1 ≤ t5.toInt ∧ t5.toInt ≤ 5) := by rw [et5]; exact wear_ld hCf.1 (show t3.toInt.toNat < 39 by omega)
    have lt6 : (1 : Int32).toInt = 1 := by decide
    refine cbSi (n := 3) (rest := []) hx hb hml hown hts hE hP hD hS hA (sY_X11_isIn_1 0 l dC dI cy y0 r p2 1 t5 v f w g hIv hCf hRf ) k_1736 k_1737 k_114 k_1738 (by decide +kernel) ⟨Nat.le_of_ble_eq_true rfl, Nat.le_of_ble_eq_true rfl⟩ (rfl) hl.1 rfl (Nat.le_of_ble_eq_true rfl) dX11_letout_19 (fun r7 u H locs hw hP hD hS => ?_)
    obtain ⟨hG8, hw⟩ := hw
    rcases hw with ⟨g9, g9_0, g9_1⟩ | ⟨g9⟩
    · skip
      subst g9
      refine lv_if_eq (tgt := 41) hx hb dX11_letout_22 rfl (fun c0 => absurd c0 (by decide)) (fun _ => ?_)
      refine lv_aload_n hx hb dX11_letout_25 rfl (lv_at hl 0 rfl) ?_
      refine va_get (D := (dC, dI)) (ci := 11) (v := .ref (r 59)) (C := RX11) (T := TX11) (N := 79) hx hb hts inB_11 hown hE.1 hP 0 rfl rfl 59 (Nat.le_of_ble_eq_true rfl) (hts _ k_1379) (fun _ h9 => h9) rfl dX11_letout_26 ?_
      refine lv_bipush (v := 18) hx hb dX11_letout_29 rfl ?_
      refine lv_iload_n hx hb dX11_letout_31 rfl (lv_at hl 1 rfl) ?_
      refine lv_iadd hx hb dX11_letout_32 ?_
      refine lv_topi (fun t10 et10 => ?_)
      have zt10 : t10.toInt = 18 + p1.toInt := by rw [et10]; exact add_i (by decide) rfl (by omega) (by omega)
      refine ldI hx hb hE hP 24 rfl (vp_in_iff.mpr ⟨by omega, by omega⟩) rfl rfl dX11_letout_33 ?_
      refine lv_topi (fun t11 et11 => ?_)
      have zt11 : t10.toInt.toNat % 39 < 6 ∨ 12 ≤ t10.toInt.toNat % 39 ∨ (-1 ≤ t11.toInt ∧ t11.toInt ≤ 5) := by rw [et11]; exact wear_ld hCf.1 (show t10.toInt.toNat < 39 by omega)
      refine lv_iload_n hx hb dX11_letout_34 rfl (lv_at hl 2 rfl) ?_
      refine lv_iadd hx hb dX11_letout_35 ?_
      refine lv_topi (fun t12 et12 => ?_)
      refine lv_bipush (v := 99) hx hb dX11_letout_36 rfl ?_
      refine lv_icmp_le (tgt := 43) hx hb dX11_letout_38 rfl (fun c13 => ?_) (fun c13 => ?_)
      · skip
        have zc13 : t12.toInt ≤ 99 := by rw [fa_le, show (99 : Int32).toInt = 99 from by decide] at c13; exact c13
        refine lv_aload_n hx hb dX11_letout_43 rfl (lv_at hl 0 rfl) ?_
        refine cbVv (n := 0) (rest := []) hx hb hml hown hts hE hP hD hS hA (sY_X11_act_1 l dC dI cy y0 r  v f w g hIv hCf hRf ) k_1787 k_1789 k_77 k_114 k_1790 (by decide +kernel) ⟨Nat.le_of_ble_eq_true rfl, Nat.le_of_ble_eq_true rfl⟩ 0 11 rfl rfl (rfl) hl.1 rfl (Nat.le_of_ble_eq_true rfl) dX11_letout_44 (fun u H locs hw hP hD hS => ?_)
        obtain ⟨v14, f15, w16, g17⟩ := u
        obtain ⟨kV_v14, kF_f15, hIv14, hCf15, hRf15, hk0_v14, hk1_v14, hk2_v14, hk3_v14, hk4_v14, hk5_v14, hk8_v14, hk9_v14, hk10_v14, hk13_v14, hk14_v14, hk15_v14, hk17_v14, hk18_v14, hk24_v14, hk25_v14, hk38_v14, hk39_v14⟩ := hw
        have hM_v14 : KV [35, 36] v14 v := KV.tr kV_v14 hM_v rfl
        have hA_f15 : KF [23, 24, 25] f15 f := KF.tr kF_f15 hA_f rfl
        have hP : va_P (dC, dI) vwCl (YW cy y0 r v14 f15 w16 g17) H := hP
        have hD : va_D A (YW cy y0 r v14 f15 w16 g17) := hD
        have hUv14 : (v14 35).toInt + (v14 36).toInt ≤ 40 := hIv14.2
        have hq9_v14 : v14 9 = (v 9) := hk9_v14
        have zq9_v14 := congrArg Int32.toInt hq9_v14
        refine lv_aload_n hx hb dX11_letout_47 rfl (lv_at hl 0 rfl) ?_
        refine va_get (D := (dC, dI)) (ci := 11) (v := .ref (r 59)) (C := RX11) (T := TX11) (N := 79) hx hb hts inB_11 hown hE.1 hP 0 rfl rfl 59 (Nat.le_of_ble_eq_true rfl) (hts _ k_1379) (fun _ h9 => h9) rfl dX11_letout_48 ?_
        refine lv_bipush (v := 24) hx hb dX11_letout_51 rfl ?_
        refine lv_iload_n hx hb dX11_letout_53 rfl (lv_at hl 1 rfl) ?_
        refine lv_iadd hx hb dX11_letout_54 ?_
        refine tI (y := t3) et3.symm ?_
        refine lv_dup2_11 hx hb dX11_letout_55 rfl rfl ?_
        refine ldI hx hb hE hP 24 rfl (vp_in_iff.mpr ⟨by omega, by omega⟩) rfl rfl dX11_letout_56 ?_
        refine lv_topi (fun t18 et18 => ?_)
        have zt18 : t3.toInt.toNat % 39 < 6 ∨ 12 ≤ t3.toInt.toNat % 39 ∨ (-1 ≤ t18.toInt ∧ t18.toInt ≤ 5) := by rw [et18]; exact wear_ld hCf15.1 (show t3.toInt.toNat < 39 by omega)
        refine lv_iload_n hx hb dX11_letout_57 rfl (lv_at hl 2 rfl) ?_
        refine lv_isub hx hb dX11_letout_58 ?_
        refine lv_topi (fun t19 et19 => ?_)
        refine stI hx hb hE hP hD hS 24 rfl (vp_in_iff.mpr ⟨by omega, by omega⟩) rfl dX11_letout_59 (fun H locs hP hD hS => ?_)
        obtain ⟨f20, ef20, hP, hD⟩ : ∃ fz9, fz9 = upd2 f15 23 (upd (f15 23) t3.toNatClampNeg t19) ∧ va_P (dC, dI) vwCl (YW cy y0 r v14 fz9 w16 g17) H ∧ va_D A (YW cy y0 r v14 fz9 w16 g17) := ⟨_, rfl, hP, hD⟩
        have hCf20 : YC f20 := by rw [ef20]; exact ⟨(wear_st hCf15.1 (by show t3.toInt.toNat % 39 < 6 ∨ 12 ≤ t3.toInt.toNat % 39 ∨ (-1 ≤ t19.toInt ∧ t19.toInt ≤ 5); omega)), hCf15.2.1, hCf15.2.2.1, hCf15.2.2.2.1, hCf15.2.2.2.2.1, hCf15.2.2.2.2.2⟩
        have hRf20 : progOK (f20 4) (f20 5) (v14 9).toInt.toNat := by rw [ef20]; exact hRf15
        have hA_f20 : KF [23, 24, 25] f20 f := by rw [ef20]; exact KF.up hA_f15 rfl
        refine lv_aload_n hx hb dX11_letout_60 rfl (lv_at hl 0 rfl) ?_
        refine va_get (D := (dC, dI)) (ci := 11) (v := .ref (r 59)) (C := RX11) (T := TX11) (N := 79) hx hb hts inB_11 hown hE.1 hP 0 rfl rfl 59 (Nat.le_of_ble_eq_true rfl) (hts _ k_1379) (fun _ h9 => h9) rfl dX11_letout_61 ?_
        refine lv_bipush (v := 18) hx hb dX11_letout_64 rfl ?_
        refine lv_iload_n hx hb dX11_letout_66 rfl (lv_at hl 1 rfl) ?_
        refine lv_iadd hx hb dX11_letout_67 ?_
        refine tI (y := t10) et10.symm ?_
        refine lv_dup2_11 hx hb dX11_letout_68 rfl rfl ?_
        refine ldI hx hb hE hP 24 rfl (vp_in_iff.mpr ⟨by omega, by omega⟩) rfl rfl dX11_letout_69 ?_
        refine lv_topi (fun t21 et21 => ?_)
        have zt21 : t10.toInt.toNat % 39 < 6 ∨ 12 ≤ t10.toInt.toNat % 39 ∨ (-1 ≤ t21.toInt ∧ t21.toInt ≤ 5) := by rw [et21]; exact wear_ld hCf20.1 (show t10.toInt.toNat < 39 by omega)
        refine lv_iload_n hx hb dX11_letout_70 rfl (lv_at hl 2 rfl) ?_
        refine lv_iadd hx hb dX11_letout_71 ?_
        refine lv_topi (fun t22 et22 => ?_)
        refine stI hx hb hE hP hD hS 24 rfl (vp_in_iff.mpr ⟨by omega, by omega⟩) rfl dX11_letout_72 (fun H locs hP hD hS => ?_)
        obtain ⟨f23, ef23, hP, hD⟩ : ∃ fz9, fz9 = upd2 f20 23 (upd (f20 23) t10.toNatClampNeg t22) ∧ va_P (dC, dI) vwCl (YW cy y0 r v14 fz9 w16 g17) H ∧ va_D A (YW cy y0 r v14 fz9 w16 g17) := ⟨_, rfl, hP, hD⟩
        have hCf23 : YC f23 := by rw [ef23]; exact ⟨(wear_st hCf20.1 (by show t10.toInt.toNat % 39 < 6 ∨ 12 ≤ t10.toInt.toNat % 39 ∨ (-1 ≤ t22.toInt ∧ t22.toInt ≤ 5); omega)), hCf20.2.1, hCf20.2.2.1, hCf20.2.2.2.1, hCf20.2.2.2.2.1, hCf20.2.2.2.2.2⟩
        have hRf23 : progOK (f23 4) (f23 5) (v14 9).toInt.toNat := by rw [ef23]; exact hRf20
        have hA_f23 : KF [23, 24, 25] f23 f := by rw [ef23]; exact KF.up hA_f20 rfl
        refine lv_aload_n hx hb dX11_letout_73 rfl (lv_at hl 0 rfl) ?_
        refine va_get (D := (dC, dI)) (ci := 11) (v := .ref (r 59)) (C := RX11) (T := TX11) (N := 79) hx hb hts inB_11 hown hE.1 hP 0 rfl rfl 59 (Nat.le_of_ble_eq_true rfl) (hts _ k_1379) (fun _ h9 => h9) rfl dX11_letout_74 ?_
        refine lv_bipush (v := 18) hx hb dX11_letout_77 rfl ?_
        refine lv_iload_n hx hb dX11_letout_79 rfl (lv_at hl 1 rfl) ?_
        refine lv_iadd hx hb dX11_letout_80 ?_
        refine tI (y := t10) et10.symm ?_
        refine ldI hx hb hE hP 24 rfl (vp_in_iff.mpr ⟨by omega, by omega⟩) rfl rfl dX11_letout_81 ?_
        refine lv_topi (fun t24 et24 => ?_)
        have zt24 : t10.toInt.toNat % 39 < 6 ∨ 12 ≤ t10.toInt.toNat % 39 ∨ (-1 ≤ t24.toInt ∧ t24.toInt ≤ 5) := by rw [et24]; exact wear_ld hCf23.1 (show t10.toInt.toNat < 39 by omega)
        exact ret t24 (v14, f23, w16, g17) _ _ _ _ _ _ rfl ⟨hM_v14, hA_f23, hIv14, hCf23, hRf23, hk0_v14, hk1_v14, hk2_v14, hk3_v14, hk4_v14, hk5_v14, hk8_v14, hk9_v14, hk10_v14, hk13_v14, hk14_v14, hk15_v14, hk17_v14, hk18_v14, hk24_v14, hk25_v14, hk38_v14, hk39_v14⟩ hP hD hS dX11_letout_82 (Nat.le_refl _) (Nat.le_refl _)
      · skip
        have zc13 : ¬ (t12.toInt ≤ 99) := by rw [fa_le, show (99 : Int32).toInt = 99 from by decide] at c13; exact c13
        refine lv_iconst (v := (-1)) hx hb dX11_letout_41 rfl ?_
        exact ret (-1) (v, f, w, g) _ _ _ _ _ _ rfl ⟨hM_v, hA_f, hIv, hCf, hRf, rfl, rfl, rfl, rfl, rfl, rfl, rfl, rfl, rfl, rfl, rfl, rfl, rfl, rfl, rfl, rfl, rfl, rfl⟩ hP hD hS dX11_letout_42 (Nat.le_refl _) (Nat.le_refl _)
    · skip
      subst g9
      refine lv_if_eq (tgt := 41) hx hb dX11_letout_22 rfl (fun _ => ?_) (fun c0 => absurd (by decide) c0)
      refine lv_iconst (v := (-1)) hx hb dX11_letout_41 rfl ?_
      exact ret (-1) (v, f, w, g) _ _ _ _ _ _ rfl ⟨hM_v, hA_f, hIv, hCf, hRf, rfl, rfl, rfl, rfl, rfl, rfl, rfl, rfl, rfl, rfl, rfl, rfl, rfl, rfl, rfl, rfl, rfl, rfl⟩ hP hD hS dX11_letout_42 (Nat.le_refl _) (Nat.le_refl _)
  · skip
    subst g2
    refine lv_if_eq (tgt := 41) hx hb dX11_letout_5 rfl (fun _ => ?_) (fun c0 => absurd (by decide) c0)
    refine lv_iconst (v := (-1)) hx hb dX11_letout_41 rfl ?_
    exact ret (-1) (v, f, w, g) _ _ _ _ _ _ rfl ⟨hM_v, hA_f, hIv, hCf, hRf, rfl, rfl, rfl, rfl, rfl, rfl, rfl, rfl, rfl, rfl, rfl, rfl, rfl, rfl, rfl, rfl, rfl, rfl⟩ hP hD hS dX11_letout_42 (Nat.le_refl _) (Nat.le_refl _)
set_option maxHeartbeats 4000000 in
set_option maxRecDepth 100000 in
theorem sY_X11_takein_1 (l : Launch) (dC : Nat → ClassId) (dI : Nat → Nat → Nat) (cy : Nat → ClassId) (y0 : Nat) (r : Nat → Nat) (p1 : Int32) (p2 : Int32) (v : Nat → Int32) (f : Nat → Nat → Int32) (w : Int64) (g : Nat → Int64) (hIv : YI v) (hCf : YC f) (hRf : progOK (f 4) (f 5) (v 9).toInt.toNat)  : ctI l (dC, dI) cy yX11_takein cX11_takein 3 .int 3 103 0 0 ((Nat → Int32) × (Nat → Nat → Int32) × (Int64) × (Nat → Int64)) [.ref y0, .int p1, .int p2] (YW cy y0 r v f w g) (fun r u => KV [35, 36] u.1 v ∧ KF [23, 24, 25] u.2.1 f ∧ YI u.1 ∧ YC u.2.1 ∧ progOK (u.2.1 4) (u.2.1 5) (u.1 9).toInt.toNat ∧ u.1 0 = v 0 ∧ u.1 1 = v 1 ∧ u.1 2 = v 2 ∧ u.1 3 = v 3 ∧ u.1 4 = v 4 ∧ u.1 5 = v 5 ∧ u.1 8 = v 8 ∧ u.1 9 = v 9 ∧ u.1 10 = v 10 ∧ u.1 13 = v 13 ∧ u.1 14 = v 14 ∧ u.1 15 = v 15 ∧ u.1 17 = v 17 ∧ u.1 18 = v 18 ∧ u.1 24 = v 24 ∧ u.1 25 = v 25 ∧ u.1 38 = v 38 ∧ u.1 39 = v 39) (fun u => YW cy y0 r u.1 u.2.1 u.2.2.1 u.2.2.2) := by
  refine ctI_of (by decide) (Nat.le_of_ble_eq_true rfl) (fun p e s m below meth c A ls Q hx hb hml hts hown hE hP hD hA hl ret => ?_)
  have hUv : (v 35).toInt + (v 36).toInt ≤ 40 := hIv.2
  have hM_v : KV [35, 36] v v := fun _ _ => rfl
  have hA_f : KF [23, 24, 25] f f := fun _ _ => rfl
  have hown : s.vm.findClass RX11 = some m.cls := hown
  have hS : va_S A s.heap s.heap [] := va_S.rf
  have hl : lv_has ls 3 [(0, .ref y0), (1, .int p1), (2, .int p2)] := hl
  refine lv_aload_n hx hb dX11_takein_0 rfl (lv_at hl 0 rfl) ?_
  refine lv_iload_n hx hb dX11_takein_1 rfl (lv_at hl 1 rfl) ?_
  refine cbVi (n := 1) (rest := []) hx hb hml hown hts hE hP hD hS hA (sY_X11_isCoat_1 l dC dI cy y0 r p1 v f w g hIv hCf hRf ) k_1771 k_1773 k_75 k_114 k_1774 (by decide +kernel) ⟨Nat.le_of_ble_eq_true rfl, Nat.le_of_ble_eq_true rfl⟩ 0 11 rfl rfl (rfl) hl.1 rfl (Nat.le_of_ble_eq_true rfl) dX11_takein_2 (fun r1 u H locs hw hP hD hS => ?_)
  rcases hw with ⟨g2, g2_0, g2_1, g2_2⟩ | ⟨g2⟩
  · skip
    subst g2
    refine lv_if_eq (tgt := 41) hx hb dX11_takein_5 rfl (fun c0 => absurd c0 (by decide)) (fun _ => ?_)
    refine lv_iload_n hx hb dX11_takein_8 rfl (lv_at hl 2 rfl) ?_
    refine lv_iconst (v := 1) hx hb dX11_takein_9 rfl ?_
    refine lv_aload_n hx hb dX11_takein_10 rfl (lv_at hl 0 rfl) ?_
    refine va_get (D := (dC, dI)) (ci := 11) (v := .ref (r 59)) (C := RX11) (T := TX11) (N := 79) hx hb hts inB_11 hown hE.1 hP 0 rfl rfl 59 (Nat.le_of_ble_eq_true rfl) (hts _ k_1379) (fun _ h9 => h9) rfl dX11_takein_11 ?_
    refine lv_bipush (v := 18) hx hb dX11_takein_14 rfl ?_
    refine lv_iload_n hx hb dX11_takein_16 rfl (lv_at hl 1 rfl) ?_
    refine lv_iadd hx hb dX11_takein_17 ?_
    refine lv_topi (fun t3 et3 => ?_)
    have rg4 := fb_rng p1
    have zt3 : t3.toInt = 18 + p1.toInt := by rw [et3]; exact add_i (by decide) rfl (by omega) (by omega)
    refine ldI hx hb hE hP 24 rfl (vp_in_iff.mpr ⟨by omega, by omega⟩) rfl rfl dX11_takein_18 ?_
    refine lv_topi (fun t5 et5 => ?_)
    have zt5 : t3.toInt.toNat % 39 < 6 ∨ 12 ≤ t3.toInt.toNat % 39 ∨ (-1 ≤ t5.toInt ∧ t5.toInt ≤ 5) := by rw [et5]; exact wear_ld hCf.1 (show t3.toInt.toNat < 39 by omega)
    have lt6 : (1 : Int32).toInt = 1 := by decide
    refine cbSi (n := 3) (rest := []) hx hb hml hown hts hE hP hD hS hA (sY_X11_isIn_1 0 l dC dI cy y0 r p2 1 t5 v f w g hIv hCf hRf ) k_1736 k_1737 k_114 k_1738 (by decide +kernel) ⟨Nat.le_of_ble_eq_true rfl, Nat.le_of_ble_eq_true rfl⟩ (rfl) hl.1 rfl (Nat.le_of_ble_eq_true rfl) dX11_takein_19 (fun r7 u H locs hw hP hD hS => ?_)
    obtain ⟨hG8, hw⟩ := hw
    rcases hw with ⟨g9, g9_0, g9_1⟩ | ⟨g9⟩
    · skip
      subst g9
      refine lv_if_eq (tgt := 41) hx hb dX11_takein_22 rfl (fun c0 => absurd c0 (by decide)) (fun _ => ?_)
      refine lv_aload_n hx hb dX11_takein_25 rfl (lv_at hl 0 rfl) ?_
      refine va_get (D := (dC, dI)) (ci := 11) (v := .ref (r 59)) (C := RX11) (T := TX11) (N := 79) hx hb hts inB_11 hown hE.1 hP 0 rfl rfl 59 (Nat.le_of_ble_eq_true rfl) (hts _ k_1379) (fun _ h9 => h9) rfl dX11_takein_26 ?_
      refine lv_bipush (v := 24) hx hb dX11_takein_29 rfl ?_
      refine lv_iload_n hx hb dX11_takein_31 rfl (lv_at hl 1 rfl) ?_
      refine lv_iadd hx hb dX11_takein_32 ?_
      refine lv_topi (fun t10 et10 => ?_)
      have zt10 : t10.toInt = 24 + p1.toInt := by rw [et10]; exact add_i (by decide) rfl (by omega) (by omega)
      refine ldI hx hb hE hP 24 rfl (vp_in_iff.mpr ⟨by omega, by omega⟩) rfl rfl dX11_takein_33 ?_
      refine lv_topi (fun t11 et11 => ?_)
      have zt11 : t10.toInt.toNat % 39 < 6 ∨ 12 ≤ t10.toInt.toNat % 39 ∨ (-1 ≤ t11.toInt ∧ t11.toInt ≤ 5) := by rw [et11]; exact wear_ld hCf.1 (show t10.toInt.toNat < 39 by omega)
      refine lv_iload_n hx hb dX11_takein_34 rfl (lv_at hl 2 rfl) ?_
      refine lv_iadd hx hb dX11_takein_35 ?_
      refine lv_topi (fun t12 et12 => ?_)
      refine lv_bipush (v := 99) hx hb dX11_takein_36 rfl ?_
      refine lv_icmp_le (tgt := 43) hx hb dX11_takein_38 rfl (fun c13 => ?_) (fun c13 => ?_)
      · skip
        have zc13 : t12.toInt ≤ 99 := by rw [fa_le, show (99 : Int32).toInt = 99 from by decide] at c13; exact c13
        refine lv_aload_n hx hb dX11_takein_43 rfl (lv_at hl 0 rfl) ?_
        refine cbVv (n := 0) (rest := []) hx hb hml hown hts hE hP hD hS hA (sY_X11_act_1 l dC dI cy y0 r  v f w g hIv hCf hRf ) k_1787 k_1789 k_77 k_114 k_1790 (by decide +kernel) ⟨Nat.le_of_ble_eq_true rfl, Nat.le_of_ble_eq_true rfl⟩ 0 11 rfl rfl (rfl) hl.1 rfl (Nat.le_of_ble_eq_true rfl) dX11_takein_44 (fun u H locs hw hP hD hS => ?_)
        obtain ⟨v14, f15, w16, g17⟩ := u
        obtain ⟨kV_v14, kF_f15, hIv14, hCf15, hRf15, hk0_v14, hk1_v14, hk2_v14, hk3_v14, hk4_v14, hk5_v14, hk8_v14, hk9_v14, hk10_v14, hk13_v14, hk14_v14, hk15_v14, hk17_v14, hk18_v14, hk24_v14, hk25_v14, hk38_v14, hk39_v14⟩ := hw
        have hM_v14 : KV [35, 36] v14 v := KV.tr kV_v14 hM_v rfl
        have hA_f15 : KF [23, 24, 25] f15 f := KF.tr kF_f15 hA_f rfl
        have hP : va_P (dC, dI) vwCl (YW cy y0 r v14 f15 w16 g17) H := hP
        have hD : va_D A (YW cy y0 r v14 f15 w16 g17) := hD
        have hUv14 : (v14 35).toInt + (v14 36).toInt ≤ 40 := hIv14.2
        have hq9_v14 : v14 9 = (v 9) := hk9_v14
        have zq9_v14 := congrArg Int32.toInt hq9_v14
        refine lv_aload_n hx hb dX11_takein_47 rfl (lv_at hl 0 rfl) ?_
        refine va_get (D := (dC, dI)) (ci := 11) (v := .ref (r 59)) (C := RX11) (T := TX11) (N := 79) hx hb hts inB_11 hown hE.1 hP 0 rfl rfl 59 (Nat.le_of_ble_eq_true rfl) (hts _ k_1379) (fun _ h9 => h9) rfl dX11_takein_48 ?_
        refine lv_bipush (v := 24) hx hb dX11_takein_51 rfl ?_
        refine lv_iload_n hx hb dX11_takein_53 rfl (lv_at hl 1 rfl) ?_
        refine lv_iadd hx hb dX11_takein_54 ?_
        refine tI (y := t10) et10.symm ?_
        refine lv_dup2_11 hx hb dX11_takein_55 rfl rfl ?_
        refine ldI hx hb hE hP 24 rfl (vp_in_iff.mpr ⟨by omega, by omega⟩) rfl rfl dX11_takein_56 ?_
        refine lv_topi (fun t18 et18 => ?_)
        have zt18 : t10.toInt.toNat % 39 < 6 ∨ 12 ≤ t10.toInt.toNat % 39 ∨ (-1 ≤ t18.toInt ∧ t18.toInt ≤ 5) := by rw [et18]; exact wear_ld hCf15.1 (show t10.toInt.toNat < 39 by omega)
        refine lv_iload_n hx hb dX11_takein_57 rfl (lv_at hl 2 rfl) ?_
        refine lv_iadd hx hb dX11_takein_58 ?_
        refine lv_topi (fun t19 et19 => ?_)
        refine stI hx hb hE hP hD hS 24 rfl (vp_in_iff.mpr ⟨by omega, by omega⟩) rfl dX11_takein_59 (fun H locs hP hD hS => ?_)
        obtain ⟨f20, ef20, hP, hD⟩ : ∃ fz9, fz9 = upd2 f15 23 (upd (f15 23) t10.toNatClampNeg t19) ∧ va_P (dC, dI) vwCl (YW cy y0 r v14 fz9 w16 g17) H ∧ va_D A (YW cy y0 r v14 fz9 w16 g17) := ⟨_, rfl, hP, hD⟩
        have hCf20 : YC f20 := by rw [ef20]; exact ⟨(wear_st hCf15.1 (by show t10.toInt.toNat % 39 < 6 ∨ 12 ≤ t10.toInt.toNat % 39 ∨ (-1 ≤ t19.toInt ∧ t19.toInt ≤ 5); omega)), hCf15.2.1, hCf15.2.2.1, hCf15.2.2.2.1, hCf15.2.2.2.2.1, hCf15.2.2.2.2.2⟩
        have hRf20 : progOK (f20 4) (f20 5) (v14 9).toInt.toNat := by rw [ef20]; exact hRf15
        have hA_f20 : KF [23, 24, 25] f20 f := by rw [ef20]; exact KF.up hA_f15 rfl
        refine lv_aload_n hx hb dX11_takein_60 rfl (lv_at hl 0 rfl) ?_
        refine va_get (D := (dC, dI)) (ci := 11) (v := .ref (r 59)) (C := RX11) (T := TX11) (N := 79) hx hb hts inB_11 hown hE.1 hP 0 rfl rfl 59 (Nat.le_of_ble_eq_true rfl) (hts _ k_1379) (fun _ h9 => h9) rfl dX11_takein_61 ?_
        refine lv_bipush (v := 18) hx hb dX11_takein_64 rfl ?_
        refine lv_iload_n hx hb dX11_takein_66 rfl (lv_at hl 1 rfl) ?_
        refine lv_iadd hx hb dX11_takein_67 ?_
        refine tI (y := t3) et3.symm ?_
        refine lv_dup2_11 hx hb dX11_takein_68 rfl rfl ?_
        refine ldI hx hb hE hP 24 rfl (vp_in_iff.mpr ⟨by omega, by omega⟩) rfl rfl dX11_takein_69 ?_
        refine lv_topi (fun t21 et21 => ?_)
        have zt21 : t3.toInt.toNat % 39 < 6 ∨ 12 ≤ t3.toInt.toNat % 39 ∨ (-1 ≤ t21.toInt ∧ t21.toInt ≤ 5) := by rw [et21]; exact wear_ld hCf20.1 (show t3.toInt.toNat < 39 by omega)
        refine lv_iload_n hx hb dX11_takein_70 rfl (lv_at hl 2 rfl) ?_
        refine lv_isub hx hb dX11_takein_71 ?_
        refine lv_topi (fun t22 et22 => ?_)
        refine stI hx hb hE hP hD hS 24 rfl (vp_in_iff.mpr ⟨by omega, by omega⟩) rfl dX11_takein_72 (fun H locs hP hD hS => ?_)
        obtain ⟨f23, ef23, hP, hD⟩ : ∃ fz9, fz9 = upd2 f20 23 (upd (f20 23) t3.toNatClampNeg t22) ∧ va_P (dC, dI) vwCl (YW cy y0 r v14 fz9 w16 g17) H ∧ va_D A (YW cy y0 r v14 fz9 w16 g17) := ⟨_, rfl, hP, hD⟩
        have hCf23 : YC f23 := by rw [ef23]; exact ⟨(wear_st hCf20.1 (by show t3.toInt.toNat % 39 < 6 ∨ 12 ≤ t3.toInt.toNat % 39 ∨ (-1 ≤ t22.toInt ∧ t22.toInt ≤ 5); omega)), hCf20.2.1, hCf20.2.2.1, hCf20.2.2.2.1, hCf20.2.2.2.2.1, hCf20.2.2.2.2.2⟩
        have hRf23 : progOK (f23 4) (f23 5) (v14 9).toInt.toNat := by rw [ef23]; exact hRf20
        have hA_f23 : KF [23, 24, 25] f23 f := by rw [ef23]; exact KF.up hA_f20 rfl
        refine lv_aload_n hx hb dX11_takein_73 rfl (lv_at hl 0 rfl) ?_
        refine va_get (D := (dC, dI)) (ci := 11) (v := .ref (r 59)) (C := RX11) (T := TX11) (N := 79) hx hb hts inB_11 hown hE.1 hP 0 rfl rfl 59 (Nat.le_of_ble_eq_true rfl) (hts _ k_1379) (fun _ h9 => h9) rfl dX11_takein_74 ?_
        refine lv_bipush (v := 18) hx hb dX11_takein_77 rfl ?_
        refine lv_iload_n hx hb dX11_takein_79 rfl (lv_at hl 1 rfl) ?_
        refine lv_iadd hx hb dX11_takein_80 ?_
        refine tI (y := t3) et3.symm ?_
        refine ldI hx hb hE hP 24 rfl (vp_in_iff.mpr ⟨by omega, by omega⟩) rfl rfl dX11_takein_81 ?_
        refine lv_topi (fun t24 et24 => ?_)
        have zt24 : t3.toInt.toNat % 39 < 6 ∨ 12 ≤ t3.toInt.toNat % 39 ∨ (-1 ≤ t24.toInt ∧ t24.toInt ≤ 5) := by rw [et24]; exact wear_ld hCf23.1 (show t3.toInt.toNat < 39 by omega)
        exact ret t24 (v14, f23, w16, g17) _ _ _ _ _ _ rfl ⟨hM_v14, hA_f23, hIv14, hCf23, hRf23, hk0_v14, hk1_v14, hk2_v14, hk3_v14, hk4_v14, hk5_v14, hk8_v14, hk9_v14, hk10_v14, hk13_v14, hk14_v14, hk15_v14, hk17_v14, hk18_v14, hk24_v14, hk25_v14, hk38_v14, hk39_v14⟩ hP hD hS dX11_takein_82 (Nat.le_refl _) (Nat.le_refl _)
      · skip
        have zc13 : ¬ (t12.toInt ≤ 99) := by rw [fa_le, show (99 : Int32).toInt = 99 from by decide] at c13; exact c13
        refine lv_iconst (v := (-1)) hx hb dX11_takein_41 rfl ?_
        exact ret (-1) (v, f, w, g) _ _ _ _ _ _ rfl ⟨hM_v, hA_f, hIv, hCf, hRf, rfl, rfl, rfl, rfl, rfl, rfl, rfl, rfl, rfl, rfl, rfl, rfl, rfl, rfl, rfl, rfl, rfl, rfl⟩ hP hD hS dX11_takein_42 (Nat.le_refl _) (Nat.le_refl _)
    · skip
      subst g9
      refine lv_if_eq (tgt := 41) hx hb dX11_takein_22 rfl (fun _ => ?_) (fun c0 => absurd (by decide) c0)
      refine lv_iconst (v := (-1)) hx hb dX11_takein_41 rfl ?_
      exact ret (-1) (v, f, w, g) _ _ _ _ _ _ rfl ⟨hM_v, hA_f, hIv, hCf, hRf, rfl, rfl, rfl, rfl, rfl, rfl, rfl, rfl, rfl, rfl, rfl, rfl, rfl, rfl, rfl, rfl, rfl, rfl⟩ hP hD hS dX11_takein_42 (Nat.le_refl _) (Nat.le_refl _)
  · skip
    subst g2
    refine lv_if_eq (tgt := 41) hx hb dX11_takein_5 rfl (fun _ => ?_) (fun c0 => absurd (by decide) c0)
    refine lv_iconst (v := (-1)) hx hb dX11_takein_41 rfl ?_
    exact ret (-1) (v, f, w, g) _ _ _ _ _ _ rfl ⟨hM_v, hA_f, hIv, hCf, hRf, rfl, rfl, rfl, rfl, rfl, rfl, rfl, rfl, rfl, rfl, rfl, rfl, rfl, rfl, rfl, rfl, rfl, rfl⟩ hP hD hS dX11_takein_42 (Nat.le_refl _) (Nat.le_refl _)
set_option maxHeartbeats 4000000 in
set_option maxRecDepth 100000 in
theorem sY_X11_hem_1 (l : Launch) (dC : Nat → ClassId) (dI : Nat → Nat → Nat) (cy : Nat → ClassId) (y0 : Nat) (r : Nat → Nat) (p1 : Int32) (p2 : Int32) (v : Nat → Int32) (f : Nat → Nat → Int32) (w : Int64) (g : Nat → Int64) (hIv : YI v) (hCf : YC f) (hRf : progOK (f 4) (f 5) (v 9).toInt.toNat)  : ctI l (dC, dI) cy yX11_hem cX11_hem 3 .int 3 103 0 0 ((Nat → Int32) × (Nat → Nat → Int32) × (Int64) × (Nat → Int64)) [.ref y0, .int p1, .int p2] (YW cy y0 r v f w g) (fun r u => KV [35, 36] u.1 v ∧ KF [23, 24, 25] u.2.1 f ∧ YI u.1 ∧ YC u.2.1 ∧ progOK (u.2.1 4) (u.2.1 5) (u.1 9).toInt.toNat ∧ u.1 0 = v 0 ∧ u.1 1 = v 1 ∧ u.1 2 = v 2 ∧ u.1 3 = v 3 ∧ u.1 4 = v 4 ∧ u.1 5 = v 5 ∧ u.1 8 = v 8 ∧ u.1 9 = v 9 ∧ u.1 10 = v 10 ∧ u.1 13 = v 13 ∧ u.1 14 = v 14 ∧ u.1 15 = v 15 ∧ u.1 17 = v 17 ∧ u.1 18 = v 18 ∧ u.1 24 = v 24 ∧ u.1 25 = v 25 ∧ u.1 38 = v 38 ∧ u.1 39 = v 39) (fun u => YW cy y0 r u.1 u.2.1 u.2.2.1 u.2.2.2) := by
  refine ctI_of (by decide) (Nat.le_of_ble_eq_true rfl) (fun p e s m below meth c A ls Q hx hb hml hts hown hE hP hD hA hl ret => ?_)
  have hUv : (v 35).toInt + (v 36).toInt ≤ 40 := hIv.2
  have hM_v : KV [35, 36] v v := fun _ _ => rfl
  have hA_f : KF [23, 24, 25] f f := fun _ _ => rfl
  have hown : s.vm.findClass RX11 = some m.cls := hown
  have hS : va_S A s.heap s.heap [] := va_S.rf
  have hl : lv_has ls 3 [(0, .ref y0), (1, .int p1), (2, .int p2)] := hl
  refine lv_aload_n hx hb dX11_hem_0 rfl (lv_at hl 0 rfl) ?_
  refine lv_iload_n hx hb dX11_hem_1 rfl (lv_at hl 1 rfl) ?_
  refine cbVi (n := 1) (rest := []) hx hb hml hown hts hE hP hD hS hA (sY_X11_isCoat_1 l dC dI cy y0 r p1 v f w g hIv hCf hRf ) k_1771 k_1773 k_75 k_114 k_1774 (by decide +kernel) ⟨Nat.le_of_ble_eq_true rfl, Nat.le_of_ble_eq_true rfl⟩ 0 11 rfl rfl (rfl) hl.1 rfl (Nat.le_of_ble_eq_true rfl) dX11_hem_2 (fun r1 u H locs hw hP hD hS => ?_)
  rcases hw with ⟨g2, g2_0, g2_1, g2_2⟩ | ⟨g2⟩
  · skip
    subst g2
    refine lv_if_eq (tgt := 25) hx hb dX11_hem_5 rfl (fun c0 => absurd c0 (by decide)) (fun _ => ?_)
    refine lv_iload_n hx hb dX11_hem_8 rfl (lv_at hl 2 rfl) ?_
    refine lv_iconst (v := 1) hx hb dX11_hem_9 rfl ?_
    refine lv_aload_n hx hb dX11_hem_10 rfl (lv_at hl 0 rfl) ?_
    refine va_get (D := (dC, dI)) (ci := 11) (v := .ref (r 59)) (C := RX11) (T := TX11) (N := 79) hx hb hts inB_11 hown hE.1 hP 0 rfl rfl 59 (Nat.le_of_ble_eq_true rfl) (hts _ k_1379) (fun _ h9 => h9) rfl dX11_hem_11 ?_
    refine lv_bipush (v := 12) hx hb dX11_hem_14 rfl ?_
    refine lv_iload_n hx hb dX11_hem_16 rfl (lv_at hl 1 rfl) ?_
    refine lv_iadd hx hb dX11_hem_17 ?_
    refine lv_topi (fun t3 et3 => ?_)
    have rg4 := fb_rng p1
    have zt3 : t3.toInt = 12 + p1.toInt := by rw [et3]; exact add_i (by decide) rfl (by omega) (by omega)
    refine ldI hx hb hE hP 24 rfl (vp_in_iff.mpr ⟨by omega, by omega⟩) rfl rfl dX11_hem_18 ?_
    refine lv_topi (fun t5 et5 => ?_)
    have zt5 : t3.toInt.toNat % 39 < 6 ∨ 12 ≤ t3.toInt.toNat % 39 ∨ (-1 ≤ t5.toInt ∧ t5.toInt ≤ 5) := by rw [et5]; exact wear_ld hCf.1 (show t3.toInt.toNat < 39 by omega)
    have lt6 : (1 : Int32).toInt = 1 := by decide
    refine cbSi (n := 3) (rest := []) hx hb hml hown hts hE hP hD hS hA (sY_X11_isIn_1 0 l dC dI cy y0 r p2 1 t5 v f w g hIv hCf hRf ) k_1736 k_1737 k_114 k_1738 (by decide +kernel) ⟨Nat.le_of_ble_eq_true rfl, Nat.le_of_ble_eq_true rfl⟩ (rfl) hl.1 rfl (Nat.le_of_ble_eq_true rfl) dX11_hem_19 (fun r7 u H locs hw hP hD hS => ?_)
    obtain ⟨hG8, hw⟩ := hw
    rcases hw with ⟨g9, g9_0, g9_1⟩ | ⟨g9⟩
    · skip
      subst g9
      refine lv_if_ne (tgt := 27) hx hb dX11_hem_22 rfl (fun _ => ?_) (fun c0 => absurd c0 (by decide))
      refine lv_aload_n hx hb dX11_hem_27 rfl (lv_at hl 0 rfl) ?_
      refine cbVv (n := 0) (rest := []) hx hb hml hown hts hE hP hD hS hA (sY_X11_act_1 l dC dI cy y0 r  v f w g hIv hCf hRf ) k_1787 k_1789 k_77 k_114 k_1790 (by decide +kernel) ⟨Nat.le_of_ble_eq_true rfl, Nat.le_of_ble_eq_true rfl⟩ 0 11 rfl rfl (rfl) hl.1 rfl (Nat.le_of_ble_eq_true rfl) dX11_hem_28 (fun u H locs hw hP hD hS => ?_)
      obtain ⟨v10, f11, w12, g13⟩ := u
      obtain ⟨kV_v10, kF_f11, hIv10, hCf11, hRf11, hk0_v10, hk1_v10, hk2_v10, hk3_v10, hk4_v10, hk5_v10, hk8_v10, hk9_v10, hk10_v10, hk13_v10, hk14_v10, hk15_v10, hk17_v10, hk18_v10, hk24_v10, hk25_v10, hk38_v10, hk39_v10⟩ := hw
      have hM_v10 : KV [35, 36] v10 v := KV.tr kV_v10 hM_v rfl
      have hA_f11 : KF [23, 24, 25] f11 f := KF.tr kF_f11 hA_f rfl
      have hP : va_P (dC, dI) vwCl (YW cy y0 r v10 f11 w12 g13) H := hP
      have hD : va_D A (YW cy y0 r v10 f11 w12 g13) := hD
      have hUv10 : (v10 35).toInt + (v10 36).toInt ≤ 40 := hIv10.2
      have hq9_v10 : v10 9 = (v 9) := hk9_v10
      have zq9_v10 := congrArg Int32.toInt hq9_v10
      refine lv_aload_n hx hb dX11_hem_31 rfl (lv_at hl 0 rfl) ?_
      refine va_get (D := (dC, dI)) (ci := 11) (v := .ref (r 59)) (C := RX11) (T := TX11) (N := 79) hx hb hts inB_11 hown hE.1 hP 0 rfl rfl 59 (Nat.le_of_ble_eq_true rfl) (hts _ k_1379) (fun _ h9 => h9) rfl dX11_hem_32 ?_
      refine lv_bipush (v := 12) hx hb dX11_hem_35 rfl ?_
      refine lv_iload_n hx hb dX11_hem_37 rfl (lv_at hl 1 rfl) ?_
      refine lv_iadd hx hb dX11_hem_38 ?_
      refine tI (y := t3) et3.symm ?_
      refine lv_dup2_11 hx hb dX11_hem_39 rfl rfl ?_
      refine ldI hx hb hE hP 24 rfl (vp_in_iff.mpr ⟨by omega, by omega⟩) rfl rfl dX11_hem_40 ?_
      refine lv_topi (fun t14 et14 => ?_)
      have zt14 : t3.toInt.toNat % 39 < 6 ∨ 12 ≤ t3.toInt.toNat % 39 ∨ (-1 ≤ t14.toInt ∧ t14.toInt ≤ 5) := by rw [et14]; exact wear_ld hCf11.1 (show t3.toInt.toNat < 39 by omega)
      refine lv_iload_n hx hb dX11_hem_41 rfl (lv_at hl 2 rfl) ?_
      refine lv_isub hx hb dX11_hem_42 ?_
      refine lv_topi (fun t15 et15 => ?_)
      refine stI hx hb hE hP hD hS 24 rfl (vp_in_iff.mpr ⟨by omega, by omega⟩) rfl dX11_hem_43 (fun H locs hP hD hS => ?_)
      obtain ⟨f16, ef16, hP, hD⟩ : ∃ fz9, fz9 = upd2 f11 23 (upd (f11 23) t3.toNatClampNeg t15) ∧ va_P (dC, dI) vwCl (YW cy y0 r v10 fz9 w12 g13) H ∧ va_D A (YW cy y0 r v10 fz9 w12 g13) := ⟨_, rfl, hP, hD⟩
      have hCf16 : YC f16 := by rw [ef16]; exact ⟨(wear_st hCf11.1 (by show t3.toInt.toNat % 39 < 6 ∨ 12 ≤ t3.toInt.toNat % 39 ∨ (-1 ≤ t15.toInt ∧ t15.toInt ≤ 5); omega)), hCf11.2.1, hCf11.2.2.1, hCf11.2.2.2.1, hCf11.2.2.2.2.1, hCf11.2.2.2.2.2⟩
      have hRf16 : progOK (f16 4) (f16 5) (v10 9).toInt.toNat := by rw [ef16]; exact hRf11
      have hA_f16 : KF [23, 24, 25] f16 f := by rw [ef16]; exact KF.up hA_f11 rfl
      refine lv_aload_n hx hb dX11_hem_44 rfl (lv_at hl 0 rfl) ?_
      refine va_get (D := (dC, dI)) (ci := 11) (v := .ref (r 59)) (C := RX11) (T := TX11) (N := 79) hx hb hts inB_11 hown hE.1 hP 0 rfl rfl 59 (Nat.le_of_ble_eq_true rfl) (hts _ k_1379) (fun _ h9 => h9) rfl dX11_hem_45 ?_
      refine lv_bipush (v := 12) hx hb dX11_hem_48 rfl ?_
      refine lv_iload_n hx hb dX11_hem_50 rfl (lv_at hl 1 rfl) ?_
      refine lv_iadd hx hb dX11_hem_51 ?_
      refine tI (y := t3) et3.symm ?_
      refine ldI hx hb hE hP 24 rfl (vp_in_iff.mpr ⟨by omega, by omega⟩) rfl rfl dX11_hem_52 ?_
      refine lv_topi (fun t17 et17 => ?_)
      have zt17 : t3.toInt.toNat % 39 < 6 ∨ 12 ≤ t3.toInt.toNat % 39 ∨ (-1 ≤ t17.toInt ∧ t17.toInt ≤ 5) := by rw [et17]; exact wear_ld hCf16.1 (show t3.toInt.toNat < 39 by omega)
      exact ret t17 (v10, f16, w12, g13) _ _ _ _ _ _ rfl ⟨hM_v10, hA_f16, hIv10, hCf16, hRf16, hk0_v10, hk1_v10, hk2_v10, hk3_v10, hk4_v10, hk5_v10, hk8_v10, hk9_v10, hk10_v10, hk13_v10, hk14_v10, hk15_v10, hk17_v10, hk18_v10, hk24_v10, hk25_v10, hk38_v10, hk39_v10⟩ hP hD hS dX11_hem_53 (Nat.le_refl _) (Nat.le_refl _)
    · skip
      subst g9
      refine lv_if_ne (tgt := 27) hx hb dX11_hem_22 rfl (fun c0 => absurd (by decide) c0) (fun _ => ?_)
      refine lv_iconst (v := (-1)) hx hb dX11_hem_25 rfl ?_
      exact ret (-1) (v, f, w, g) _ _ _ _ _ _ rfl ⟨hM_v, hA_f, hIv, hCf, hRf, rfl, rfl, rfl, rfl, rfl, rfl, rfl, rfl, rfl, rfl, rfl, rfl, rfl, rfl, rfl, rfl, rfl, rfl⟩ hP hD hS dX11_hem_26 (Nat.le_refl _) (Nat.le_refl _)
  · skip
    subst g2
    refine lv_if_eq (tgt := 25) hx hb dX11_hem_5 rfl (fun _ => ?_) (fun c0 => absurd (by decide) c0)
    refine lv_iconst (v := (-1)) hx hb dX11_hem_25 rfl ?_
    exact ret (-1) (v, f, w, g) _ _ _ _ _ _ rfl ⟨hM_v, hA_f, hIv, hCf, hRf, rfl, rfl, rfl, rfl, rfl, rfl, rfl, rfl, rfl, rfl, rfl, rfl, rfl, rfl, rfl, rfl, rfl, rfl⟩ hP hD hS dX11_hem_26 (Nat.le_refl _) (Nat.le_refl _)
set_option maxHeartbeats 4000000 in
set_option maxRecDepth 100000 in
theorem sY_X11_turn_1 (l : Launch) (dC : Nat → ClassId) (dI : Nat → Nat → Nat) (cy : Nat → ClassId) (y0 : Nat) (r : Nat → Nat) (p1 : Int32) (v : Nat → Int32) (f : Nat → Nat → Int32) (w : Int64) (g : Nat → Int64) (hIv : YI v) (hCf : YC f) (hRf : progOK (f 4) (f 5) (v 9).toInt.toNat)  : ctI l (dC, dI) cy yX11_turn cX11_turn 3 .int 3 103 0 0 ((Nat → Int32) × (Nat → Nat → Int32) × (Int64) × (Nat → Int64)) [.ref y0, .int p1] (YW cy y0 r v f w g) (fun r u => KV [35, 36] u.1 v ∧ KF [23, 24, 25] u.2.1 f ∧ YI u.1 ∧ YC u.2.1 ∧ progOK (u.2.1 4) (u.2.1 5) (u.1 9).toInt.toNat ∧ u.1 0 = v 0 ∧ u.1 1 = v 1 ∧ u.1 2 = v 2 ∧ u.1 3 = v 3 ∧ u.1 4 = v 4 ∧ u.1 5 = v 5 ∧ u.1 8 = v 8 ∧ u.1 9 = v 9 ∧ u.1 10 = v 10 ∧ u.1 13 = v 13 ∧ u.1 14 = v 14 ∧ u.1 15 = v 15 ∧ u.1 17 = v 17 ∧ u.1 18 = v 18 ∧ u.1 24 = v 24 ∧ u.1 25 = v 25 ∧ u.1 38 = v 38 ∧ u.1 39 = v 39) (fun u => YW cy y0 r u.1 u.2.1 u.2.2.1 u.2.2.2) := by
  refine ctI_of (by decide) (Nat.le_of_ble_eq_true rfl) (fun p e s m below meth c A ls Q hx hb hml hts hown hE hP hD hA hl ret => ?_)
  have hUv : (v 35).toInt + (v 36).toInt ≤ 40 := hIv.2
  have hM_v : KV [35, 36] v v := fun _ _ => rfl
  have hA_f : KF [23, 24, 25] f f := fun _ _ => rfl
  have hown : s.vm.findClass RX11 = some m.cls := hown
  have hS : va_S A s.heap s.heap [] := va_S.rf
  have hl : lv_has ls 3 [(0, .ref y0), (1, .int p1)] := hl
  refine lv_aload_n hx hb dX11_turn_0 rfl (lv_at hl 0 rfl) ?_
  refine lv_iload_n hx hb dX11_turn_1 rfl (lv_at hl 1 rfl) ?_
  refine cbVi (n := 1) (rest := []) hx hb hml hown hts hE hP hD hS hA (sY_X11_isCoat_1 l dC dI cy y0 r p1 v f w g hIv hCf hRf ) k_1771 k_1773 k_75 k_114 k_1774 (by decide +kernel) ⟨Nat.le_of_ble_eq_true rfl, Nat.le_of_ble_eq_true rfl⟩ 0 11 rfl rfl (rfl) hl.1 rfl (Nat.le_of_ble_eq_true rfl) dX11_turn_2 (fun r1 u H locs hw hP hD hS => ?_)
  rcases hw with ⟨g2, g2_0, g2_1, g2_2⟩ | ⟨g2⟩
  · skip
    subst g2
    refine lv_if_eq (tgt := 23) hx hb dX11_turn_5 rfl (fun c0 => absurd c0 (by decide)) (fun _ => ?_)
    refine lv_aload_n hx hb dX11_turn_8 rfl (lv_at hl 0 rfl) ?_
    refine va_get (D := (dC, dI)) (ci := 11) (v := .ref (r 59)) (C := RX11) (T := TX11) (N := 79) hx hb hts inB_11 hown hE.1 hP 0 rfl rfl 59 (Nat.le_of_ble_eq_true rfl) (hts _ k_1379) (fun _ h9 => h9) rfl dX11_turn_9 ?_
    refine lv_bipush (v := 36) hx hb dX11_turn_12 rfl ?_
    refine ldI hx hb hE hP 24 rfl (vp_in_nI (n := 36) (by decide) (by decide)) rfl rfl dX11_turn_14 ?_
    refine lv_topi (fun t3 et3 => ?_)
    have zt3 : 36 % 39 < 6 ∨ 12 ≤ 36 % 39 ∨ (-1 ≤ t3.toInt ∧ t3.toInt ≤ 5) := by rw [et3]; exact wear_ld hCf.1 (show 36 < 39 by omega)
    refine lv_iload_n hx hb dX11_turn_15 rfl (lv_at hl 1 rfl) ?_
    refine lv_ishr hx hb dX11_turn_16 ?_
    refine lv_topi (fun t4 et4 => ?_)
    refine lv_iconst (v := 1) hx hb dX11_turn_17 rfl ?_
    refine lv_iand hx hb dX11_turn_18 ?_
    refine lv_topi (fun t5 et5 => ?_)
    have zt5 : 0 ≤ t5.toInt ∧ t5.toInt < 2 := by rw [et5]; exact and_rng _ (k := 1) (by decide) (by decide)
    refine lv_iconst (v := 1) hx hb dX11_turn_19 rfl ?_
    refine lv_icmp_ne (tgt := 25) hx hb dX11_turn_20 rfl (fun c6 => ?_) (fun c6 => ?_)
    · skip
      have zc6 : ¬ (t5.toInt = 1) := by rw [fa_eq, show (1 : Int32).toInt = 1 from by decide] at c6; exact c6
      refine lv_aload_n hx hb dX11_turn_25 rfl (lv_at hl 0 rfl) ?_
      refine cbVv (n := 0) (rest := []) hx hb hml hown hts hE hP hD hS hA (sY_X11_act_1 l dC dI cy y0 r  v f w g hIv hCf hRf ) k_1787 k_1789 k_77 k_114 k_1790 (by decide +kernel) ⟨Nat.le_of_ble_eq_true rfl, Nat.le_of_ble_eq_true rfl⟩ 0 11 rfl rfl (rfl) hl.1 rfl (Nat.le_of_ble_eq_true rfl) dX11_turn_26 (fun u H locs hw hP hD hS => ?_)
      obtain ⟨v7, f8, w9, g10⟩ := u
      obtain ⟨kV_v7, kF_f8, hIv7, hCf8, hRf8, hk0_v7, hk1_v7, hk2_v7, hk3_v7, hk4_v7, hk5_v7, hk8_v7, hk9_v7, hk10_v7, hk13_v7, hk14_v7, hk15_v7, hk17_v7, hk18_v7, hk24_v7, hk25_v7, hk38_v7, hk39_v7⟩ := hw
      have hM_v7 : KV [35, 36] v7 v := KV.tr kV_v7 hM_v rfl
      have hA_f8 : KF [23, 24, 25] f8 f := KF.tr kF_f8 hA_f rfl
      have hP : va_P (dC, dI) vwCl (YW cy y0 r v7 f8 w9 g10) H := hP
      have hD : va_D A (YW cy y0 r v7 f8 w9 g10) := hD
      have hUv7 : (v7 35).toInt + (v7 36).toInt ≤ 40 := hIv7.2
      have hq9_v7 : v7 9 = (v 9) := hk9_v7
      have zq9_v7 := congrArg Int32.toInt hq9_v7
      refine lv_aload_n hx hb dX11_turn_29 rfl (lv_at hl 0 rfl) ?_
      refine va_get (D := (dC, dI)) (ci := 11) (v := .ref (r 59)) (C := RX11) (T := TX11) (N := 79) hx hb hts inB_11 hown hE.1 hP 0 rfl rfl 59 (Nat.le_of_ble_eq_true rfl) (hts _ k_1379) (fun _ h9 => h9) rfl dX11_turn_30 ?_
      refine lv_bipush (v := 30) hx hb dX11_turn_33 rfl ?_
      refine lv_iload_n hx hb dX11_turn_35 rfl (lv_at hl 1 rfl) ?_
      refine lv_iadd hx hb dX11_turn_36 ?_
      refine lv_topi (fun t11 et11 => ?_)
      have rg12 := fb_rng p1
      have zt11 : t11.toInt = 30 + p1.toInt := by rw [et11]; exact add_i (by decide) rfl (by omega) (by omega)
      refine ldI hx hb hE hP 24 rfl (vp_in_iff.mpr ⟨by omega, by omega⟩) rfl rfl dX11_turn_37 ?_
      refine lv_topi (fun t13 et13 => ?_)
      have zt13 : t11.toInt.toNat % 39 < 6 ∨ 12 ≤ t11.toInt.toNat % 39 ∨ (-1 ≤ t13.toInt ∧ t13.toInt ≤ 5) := by rw [et13]; exact wear_ld hCf8.1 (show t11.toInt.toNat < 39 by omega)
      refine lv_istore_n (lv' := [(2, .int t13), (0, .ref y0), (1, .int p1)]) hx hb dX11_turn_38 rfl hl (Nat.le_of_ble_eq_true rfl) rfl (fun ls hl => ?_)
      refine lv_aload_n hx hb dX11_turn_39 rfl (lv_at hl 1 rfl) ?_
      refine va_get (D := (dC, dI)) (ci := 11) (v := .ref (r 59)) (C := RX11) (T := TX11) (N := 79) hx hb hts inB_11 hown hE.1 hP 0 rfl rfl 59 (Nat.le_of_ble_eq_true rfl) (hts _ k_1379) (fun _ h9 => h9) rfl dX11_turn_40 ?_
      refine lv_bipush (v := 30) hx hb dX11_turn_43 rfl ?_
      refine lv_iload_n hx hb dX11_turn_45 rfl (lv_at hl 2 rfl) ?_
      refine lv_iadd hx hb dX11_turn_46 ?_
      refine tI (y := t11) et11.symm ?_
      refine lv_iconst (v := 0) hx hb dX11_turn_47 rfl ?_
      refine stI hx hb hE hP hD hS 24 rfl (vp_in_iff.mpr ⟨by omega, by omega⟩) rfl dX11_turn_48 (fun H locs hP hD hS => ?_)
      obtain ⟨f14, ef14, hP, hD⟩ : ∃ fz9, fz9 = upd2 f8 23 (upd (f8 23) t11.toNatClampNeg 0) ∧ va_P (dC, dI) vwCl (YW cy y0 r v7 fz9 w9 g10) H ∧ va_D A (YW cy y0 r v7 fz9 w9 g10) := ⟨_, rfl, hP, hD⟩
      have hCf14 : YC f14 := by rw [ef14]; exact ⟨(wear_st hCf8.1 (by have q9 : (0 : Int32).toInt = 0 := (by decide); show t11.toInt.toNat % 39 < 6 ∨ 12 ≤ t11.toInt.toNat % 39 ∨ (-1 ≤ (0 : Int32).toInt ∧ (0 : Int32).toInt ≤ 5); omega)), hCf8.2.1, hCf8.2.2.1, hCf8.2.2.2.1, hCf8.2.2.2.2.1, hCf8.2.2.2.2.2⟩
      have hRf14 : progOK (f14 4) (f14 5) (v7 9).toInt.toNat := by rw [ef14]; exact hRf8
      have hA_f14 : KF [23, 24, 25] f14 f := by rw [ef14]; exact KF.up hA_f8 rfl
      refine lv_aload_n hx hb dX11_turn_49 rfl (lv_at hl 1 rfl) ?_
      refine va_get (D := (dC, dI)) (ci := 11) (v := .ref (r 59)) (C := RX11) (T := TX11) (N := 79) hx hb hts inB_11 hown hE.1 hP 0 rfl rfl 59 (Nat.le_of_ble_eq_true rfl) (hts _ k_1379) (fun _ h9 => h9) rfl dX11_turn_50 ?_
      refine lv_bipush (v := 36) hx hb dX11_turn_53 rfl ?_
      refine lv_dup2_11 hx hb dX11_turn_55 rfl rfl ?_
      refine ldI hx hb hE hP 24 rfl (vp_in_nI (n := 36) (by decide) (by decide)) rfl rfl dX11_turn_56 ?_
      refine lv_topi (fun t15 et15 => ?_)
      have zt15 : 36 % 39 < 6 ∨ 12 ≤ 36 % 39 ∨ (-1 ≤ t15.toInt ∧ t15.toInt ≤ 5) := by rw [et15]; exact wear_ld hCf14.1 (show 36 < 39 by omega)
      refine lv_iconst (v := 1) hx hb dX11_turn_57 rfl ?_
      refine lv_iload_n hx hb dX11_turn_58 rfl (lv_at hl 2 rfl) ?_
      refine lv_ishl hx hb dX11_turn_59 ?_
      refine lv_topi (fun t16 et16 => ?_)
      have zt16 : 1 ≤ t16.toInt ∧ t16.toInt ≤ 32 := by rw [et16]; exact shl1_rng (by omega) (by omega)
      refine lv_ior hx hb dX11_turn_60 ?_
      refine lv_topi (fun t17 et17 => ?_)
      refine stI hx hb hE hP hD hS 24 rfl (vp_in_nI (n := 36) (by decide) (by decide)) rfl dX11_turn_61 (fun H locs hP hD hS => ?_)
      obtain ⟨f18, ef18, hP, hD⟩ : ∃ fz9, fz9 = upd2 f14 23 (upd (f14 23) (36 : Int32).toNatClampNeg t17) ∧ va_P (dC, dI) vwCl (YW cy y0 r v7 fz9 w9 g10) H ∧ va_D A (YW cy y0 r v7 fz9 w9 g10) := ⟨_, rfl, hP, hD⟩
      have hCf18 : YC f18 := by rw [ef18]; exact ⟨(wear_st hCf14.1 (by show 36 % 39 < 6 ∨ 12 ≤ 36 % 39 ∨ (-1 ≤ t17.toInt ∧ t17.toInt ≤ 5); omega)), hCf14.2.1, hCf14.2.2.1, hCf14.2.2.2.1, hCf14.2.2.2.2.1, hCf14.2.2.2.2.2⟩
      have hRf18 : progOK (f18 4) (f18 5) (v7 9).toInt.toNat := by rw [ef18]; exact hRf14
      have hA_f18 : KF [23, 24, 25] f18 f := by rw [ef18]; exact KF.up hA_f14 rfl
      refine lv_iload_n hx hb dX11_turn_62 rfl (lv_at hl 0 rfl) ?_
      exact ret t13 (v7, f18, w9, g10) _ _ _ _ _ _ rfl ⟨hM_v7, hA_f18, hIv7, hCf18, hRf18, hk0_v7, hk1_v7, hk2_v7, hk3_v7, hk4_v7, hk5_v7, hk8_v7, hk9_v7, hk10_v7, hk13_v7, hk14_v7, hk15_v7, hk17_v7, hk18_v7, hk24_v7, hk25_v7, hk38_v7, hk39_v7⟩ hP hD hS dX11_turn_63 (Nat.le_refl _) (Nat.le_refl _)
    · skip
      have zc6 : t5.toInt = 1 := by rw [fa_eq, show (1 : Int32).toInt = 1 from by decide] at c6; exact c6
      refine lv_iconst (v := (-1)) hx hb dX11_turn_23 rfl ?_
      exact ret (-1) (v, f, w, g) _ _ _ _ _ _ rfl ⟨hM_v, hA_f, hIv, hCf, hRf, rfl, rfl, rfl, rfl, rfl, rfl, rfl, rfl, rfl, rfl, rfl, rfl, rfl, rfl, rfl, rfl, rfl, rfl⟩ hP hD hS dX11_turn_24 (Nat.le_refl _) (Nat.le_refl _)
  · skip
    subst g2
    refine lv_if_eq (tgt := 23) hx hb dX11_turn_5 rfl (fun _ => ?_) (fun c0 => absurd (by decide) c0)
    refine lv_iconst (v := (-1)) hx hb dX11_turn_23 rfl ?_
    exact ret (-1) (v, f, w, g) _ _ _ _ _ _ rfl ⟨hM_v, hA_f, hIv, hCf, hRf, rfl, rfl, rfl, rfl, rfl, rfl, rfl, rfl, rfl, rfl, rfl, rfl, rfl, rfl, rfl, rfl, rfl, rfl⟩ hP hD hS dX11_turn_24 (Nat.le_refl _) (Nat.le_refl _)
set_option maxHeartbeats 4000000 in
set_option maxRecDepth 100000 in
theorem sY_X11_exchange_1 (l : Launch) (dC : Nat → ClassId) (dI : Nat → Nat → Nat) (cy : Nat → ClassId) (y0 : Nat) (r : Nat → Nat) (p1 : Int32) (v : Nat → Int32) (f : Nat → Nat → Int32) (w : Int64) (g : Nat → Int64) (hIv : YI v) (hCf : YC f) (hRf : progOK (f 4) (f 5) (v 9).toInt.toNat) (hp1 : (0 : Int) ≤ p1.toInt ∧ p1.toInt ≤ 1521) (hf0 : p1.toInt % 39 = 0) : ctV l (dC, dI) cy yX11_exchange cX11_exchange 4 1 60 0 0 ((Nat → Int32) × (Nat → Nat → Int32) × (Int64) × (Nat → Int64)) [.ref y0, .int p1] (YW cy y0 r v f w g) (fun u => KV [] u.1 v ∧ KF [23, 25] u.2.1 f ∧ YI u.1 ∧ YC u.2.1 ∧ progOK (u.2.1 4) (u.2.1 5) (u.1 9).toInt.toNat ∧ u.1 0 = v 0 ∧ u.1 1 = v 1 ∧ u.1 2 = v 2 ∧ u.1 3 = v 3 ∧ u.1 4 = v 4 ∧ u.1 5 = v 5 ∧ u.1 8 = v 8 ∧ u.1 9 = v 9 ∧ u.1 10 = v 10 ∧ u.1 13 = v 13 ∧ u.1 14 = v 14 ∧ u.1 15 = v 15 ∧ u.1 17 = v 17 ∧ u.1 18 = v 18 ∧ u.1 24 = v 24 ∧ u.1 25 = v 25 ∧ u.1 35 = v 35 ∧ u.1 36 = v 36 ∧ u.1 38 = v 38 ∧ u.1 39 = v 39) (fun u => YW cy y0 r u.1 u.2.1 u.2.2.1 u.2.2.2) := by
  refine ctV_of (by decide) (Nat.le_of_ble_eq_true rfl) (fun p e s m below meth c A ls Q hx hb hml hts hown hnm hE hP hD hA hl ret => ?_)
  have hUv : (v 35).toInt + (v 36).toInt ≤ 40 := hIv.2
  have hM_v : KV [] v v := fun _ _ => rfl
  have hA_f : KF [23, 25] f f := fun _ _ => rfl
  have hown : s.vm.findClass RX11 = some m.cls := hown
  have hS : va_S A s.heap s.heap [] := va_S.rf
  have hl : lv_has ls 4 [(0, .ref y0), (1, .int p1)] := hl
  refine lv_iconst (v := 0) hx hb dX11_exchange_0 rfl ?_
  refine lv_istore_n (lv' := [(2, .int 0), (0, .ref y0), (1, .int p1)]) hx hb dX11_exchange_1 rfl hl (Nat.le_of_ble_eq_true rfl) rfl (fun ls hl => ?_)
  have lp1 : ∀ (n1 : Nat) (l2_1 : Int32) (v1 : Nat → Int32) (f1 : Nat → Nat → Int32) (w1 : Int64) (g1 : Nat → Int64), YI v1 → YC f1 → progOK (f1 4) (f1 5) (v1 9).toInt.toNat → v1 0 = (v 0) → v1 1 = (v 1) → v1 2 = (v 2) → v1 3 = (v 3) → v1 4 = (v 4) → v1 5 = (v 5) → v1 8 = (v 8) → v1 9 = (v 9) → v1 10 = (v 10) → v1 13 = (v 13) → v1 14 = (v 14) → v1 15 = (v 15) → v1 17 = (v 17) → v1 18 = (v 18) → v1 24 = (v 24) → v1 25 = (v 25) → v1 35 = (v 35) → v1 36 = (v 36) → v1 38 = (v 38) → v1 39 = (v 39) → ((0 : Int) ≤ l2_1.toInt ∧ l2_1.toInt ≤ 2147483647) → KV [] v1 v → KF [23, 25] f1 f → (2147483647 - l2_1.toInt).toNat < n1 → ∀ (H : Heap) (locs : List Loc) (ls : Array Slot), va_P (dC, dI) vwCl (YW cy y0 r v1 f1 w1 g1) H → va_D A (YW cy y0 r v1 f1 w1 g1) → va_S A s.heap H locs → lv_has ls 4 [(2, .int l2_1), (0, .ref y0), (1, .int p1)] → W p l e { frames := 1, cells := 0, slots := 0, locals := 60 } s m ([.ref y0, .int p1] : List Value).toArray below meth c H locs 0 0 Q (F0 m 2 ls []) := by
    intro n1
    induction n1 with
    | zero => intro l2_1 v1 f1 w1 g1 hIv1 hCf1 hRf1 hq0_v1 hq1_v1 hq2_v1 hq3_v1 hq4_v1 hq5_v1 hq8_v1 hq9_v1 hq10_v1 hq13_v1 hq14_v1 hq15_v1 hq17_v1 hq18_v1 hq24_v1 hq25_v1 hq35_v1 hq36_v1 hq38_v1 hq39_v1 hr2_1 hM_v1 hA_f1 hm; exact absurd hm (Nat.not_lt_zero _)
    | succ n1 ih1 =>
      intro l2_1 v1 f1 w1 g1 hIv1 hCf1 hRf1 hq0_v1 hq1_v1 hq2_v1 hq3_v1 hq4_v1 hq5_v1 hq8_v1 hq9_v1 hq10_v1 hq13_v1 hq14_v1 hq15_v1 hq17_v1 hq18_v1 hq24_v1 hq25_v1 hq35_v1 hq36_v1 hq38_v1 hq39_v1 hr2_1 hM_v1 hA_f1 hm1 H locs ls hP hD hS hl
      have hUv1 : (v1 35).toInt + (v1 36).toInt ≤ 40 := hIv1.2
      have zq9_v1 := congrArg Int32.toInt hq9_v1
      refine lv_iload_n hx hb dX11_exchange_2 rfl (lv_at hl 0 rfl) ?_
      refine lv_bipush (v := 39) hx hb dX11_exchange_3 rfl ?_
      refine lv_icmp_ge (tgt := 44) hx hb dX11_exchange_5 rfl (fun c2 => ?_) (fun c2 => ?_)
      · skip
        have zc2 : 39 ≤ l2_1.toInt := by rw [fa_le, show (39 : Int32).toInt = 39 from by decide] at c2; exact c2
        exact ret (v1, f1, w1, g1) _ _ _ _ _ _ ⟨hM_v1, hA_f1, hIv1, hCf1, hRf1, (show v1 0 = v 0 from hq0_v1), (show v1 1 = v 1 from hq1_v1), (show v1 2 = v 2 from hq2_v1), (show v1 3 = v 3 from hq3_v1), (show v1 4 = v 4 from hq4_v1), (show v1 5 = v 5 from hq5_v1), (show v1 8 = v 8 from hq8_v1), (show v1 9 = v 9 from hq9_v1), (show v1 10 = v 10 from hq10_v1), (show v1 13 = v 13 from hq13_v1), (show v1 14 = v 14 from hq14_v1), (show v1 15 = v 15 from hq15_v1), (show v1 17 = v 17 from hq17_v1), (show v1 18 = v 18 from hq18_v1), (show v1 24 = v 24 from hq24_v1), (show v1 25 = v 25 from hq25_v1), (show v1 35 = v 35 from hq35_v1), (show v1 36 = v 36 from hq36_v1), (show v1 38 = v 38 from hq38_v1), (show v1 39 = v 39 from hq39_v1)⟩ hP hD hS dX11_exchange_44 (Nat.le_refl _) (Nat.le_refl _)
      · skip
        have zc2 : ¬ (39 ≤ l2_1.toInt) := by rw [fa_le, show (39 : Int32).toInt = 39 from by decide] at c2; exact c2
        refine lv_aload_n hx hb dX11_exchange_8 rfl (lv_at hl 1 rfl) ?_
        refine va_get (D := (dC, dI)) (ci := 11) (v := .ref (r 61)) (C := RX11) (T := TX11) (N := 79) hx hb hts inB_11 hown hE.1 hP 0 rfl rfl 61 (Nat.le_of_ble_eq_true rfl) (hts _ k_1381) (fun _ h9 => h9) rfl dX11_exchange_9 ?_
        refine lv_iload_n hx hb dX11_exchange_12 rfl (lv_at hl 2 rfl) ?_
        refine lv_iload_n hx hb dX11_exchange_13 rfl (lv_at hl 0 rfl) ?_
        refine lv_iadd hx hb dX11_exchange_14 ?_
        refine lv_topi (fun t3 et3 => ?_)
        have rg4 := fb_rng p1
        have rg5 := fb_rng l2_1
        have zt3 : t3.toInt = p1.toInt + l2_1.toInt := by rw [et3]; exact add_i rfl rfl (by omega) (by omega)
        refine ldI hx hb hE hP 26 rfl (vp_in_iff.mpr ⟨by omega, by omega⟩) rfl rfl dX11_exchange_15 ?_
        refine lv_topi (fun t6 et6 => ?_)
        have zt6 : t3.toInt.toNat % 39 < 6 ∨ 12 ≤ t3.toInt.toNat % 39 ∨ (-1 ≤ t6.toInt ∧ t6.toInt ≤ 5) := by rw [et6]; exact wear_ld hCf1.2.2.1 (show t3.toInt.toNat < 1560 by omega)
        refine lv_istore_n (lv' := [(3, .int t6), (2, .int l2_1), (0, .ref y0), (1, .int p1)]) hx hb dX11_exchange_16 rfl hl (Nat.le_of_ble_eq_true rfl) rfl (fun ls hl => ?_)
        refine lv_aload_n hx hb dX11_exchange_17 rfl (lv_at hl 2 rfl) ?_
        refine va_get (D := (dC, dI)) (ci := 11) (v := .ref (r 61)) (C := RX11) (T := TX11) (N := 79) hx hb hts inB_11 hown hE.1 hP 0 rfl rfl 61 (Nat.le_of_ble_eq_true rfl) (hts _ k_1381) (fun _ h9 => h9) rfl dX11_exchange_18 ?_
        refine lv_iload_n hx hb dX11_exchange_21 rfl (lv_at hl 3 rfl) ?_
        refine lv_iload_n hx hb dX11_exchange_22 rfl (lv_at hl 1 rfl) ?_
        refine lv_iadd hx hb dX11_exchange_23 ?_
        refine tI (y := t3) et3.symm ?_
        refine lv_aload_n hx hb dX11_exchange_24 rfl (lv_at hl 2 rfl) ?_
        refine va_get (D := (dC, dI)) (ci := 11) (v := .ref (r 59)) (C := RX11) (T := TX11) (N := 79) hx hb hts inB_11 hown hE.1 hP 0 rfl rfl 59 (Nat.le_of_ble_eq_true rfl) (hts _ k_1379) (fun _ h9 => h9) rfl dX11_exchange_25 ?_
        refine lv_iload_n hx hb dX11_exchange_28 rfl (lv_at hl 1 rfl) ?_
        refine ldI hx hb hE hP 24 rfl (vp_in_iff.mpr ⟨by omega, by omega⟩) rfl rfl dX11_exchange_29 ?_
        refine lv_topi (fun t7 et7 => ?_)
        have zt7 : l2_1.toInt.toNat % 39 < 6 ∨ 12 ≤ l2_1.toInt.toNat % 39 ∨ (-1 ≤ t7.toInt ∧ t7.toInt ≤ 5) := by rw [et7]; exact wear_ld hCf1.1 (show l2_1.toInt.toNat < 39 by omega)
        refine stI hx hb hE hP hD hS 26 rfl (vp_in_iff.mpr ⟨by omega, by omega⟩) rfl dX11_exchange_30 (fun H locs hP hD hS => ?_)
        obtain ⟨f8, ef8, hP, hD⟩ : ∃ fz9, fz9 = upd2 f1 25 (upd (f1 25) t3.toNatClampNeg t7) ∧ va_P (dC, dI) vwCl (YW cy y0 r v1 fz9 w1 g1) H ∧ va_D A (YW cy y0 r v1 fz9 w1 g1) := ⟨_, rfl, hP, hD⟩
        have hCf8 : YC f8 := by rw [ef8]; exact ⟨hCf1.1, hCf1.2.1, (wear_st hCf1.2.2.1 (by show t3.toInt.toNat % 39 < 6 ∨ 12 ≤ t3.toInt.toNat % 39 ∨ (-1 ≤ t7.toInt ∧ t7.toInt ≤ 5); omega)), hCf1.2.2.2.1, hCf1.2.2.2.2.1, hCf1.2.2.2.2.2⟩
        have hRf8 : progOK (f8 4) (f8 5) (v1 9).toInt.toNat := by rw [ef8]; exact hRf1
        have hA_f8 : KF [23, 25] f8 f := by rw [ef8]; exact KF.up hA_f1 rfl
        refine lv_aload_n hx hb dX11_exchange_31 rfl (lv_at hl 2 rfl) ?_
        refine va_get (D := (dC, dI)) (ci := 11) (v := .ref (r 59)) (C := RX11) (T := TX11) (N := 79) hx hb hts inB_11 hown hE.1 hP 0 rfl rfl 59 (Nat.le_of_ble_eq_true rfl) (hts _ k_1379) (fun _ h9 => h9) rfl dX11_exchange_32 ?_
        refine lv_iload_n hx hb dX11_exchange_35 rfl (lv_at hl 1 rfl) ?_
        refine lv_iload_n hx hb dX11_exchange_36 rfl (lv_at hl 0 rfl) ?_
        refine stI hx hb hE hP hD hS 24 rfl (vp_in_iff.mpr ⟨by omega, by omega⟩) rfl dX11_exchange_37 (fun H locs hP hD hS => ?_)
        obtain ⟨f9, ef9, hP, hD⟩ : ∃ fz9, fz9 = upd2 f8 23 (upd (f8 23) l2_1.toNatClampNeg t6) ∧ va_P (dC, dI) vwCl (YW cy y0 r v1 fz9 w1 g1) H ∧ va_D A (YW cy y0 r v1 fz9 w1 g1) := ⟨_, rfl, hP, hD⟩
        have hCf9 : YC f9 := by rw [ef9]; exact ⟨(wear_st hCf8.1 (by show l2_1.toInt.toNat % 39 < 6 ∨ 12 ≤ l2_1.toInt.toNat % 39 ∨ (-1 ≤ t6.toInt ∧ t6.toInt ≤ 5); omega)), hCf8.2.1, hCf8.2.2.1, hCf8.2.2.2.1, hCf8.2.2.2.2.1, hCf8.2.2.2.2.2⟩
        have hRf9 : progOK (f9 4) (f9 5) (v1 9).toInt.toNat := by rw [ef9]; exact hRf8
        have hA_f9 : KF [23, 25] f9 f := by rw [ef9]; exact KF.up hA_f8 rfl
        obtain ⟨t10, et10⟩ : ∃ y : Int32, y = l2_1 + 1 := ⟨_, rfl⟩
        have zt10 : t10.toInt = l2_1.toInt + 1 := by rw [et10]; exact add_i rfl (by decide) (by omega) (by omega)
        refine lv_iinc (v := t10) (lv' := [(2, .int t10), (3, .int t6), (0, .ref y0), (1, .int p1)]) hx hb dX11_exchange_38 hl (k := 1) rfl (by rw [et10]; rfl) (by decide) rfl (fun ls hl => ?_)
        refine lv_goto (tgt := 2) hx hb dX11_exchange_41 rfl ?_
        have rg11 := fb_rng t10
        exact ih1 t10 v1 f9 w1 g1 hIv1 hCf9 hRf9 hq0_v1 hq1_v1 hq2_v1 hq3_v1 hq4_v1 hq5_v1 hq8_v1 hq9_v1 hq10_v1 hq13_v1 hq14_v1 hq15_v1 hq17_v1 hq18_v1 hq24_v1 hq25_v1 hq35_v1 hq36_v1 hq38_v1 hq39_v1 ⟨show (0 : Int) ≤ t10.toInt by omega, show t10.toInt ≤ (2147483647 : Int) by omega⟩ hM_v1 hA_f9 (by show (2147483647 - t10.toInt).toNat < n1; omega) _ _ _ hP hD hS (lv_sub hl [0, 2, 3] rfl)
  exact lp1 _ 0 v f w g hIv hCf hRf rfl rfl rfl rfl rfl rfl rfl rfl rfl rfl rfl rfl rfl rfl rfl rfl rfl rfl rfl rfl ⟨by decide, by decide⟩ hM_v hA_f (Nat.lt_succ_self _) _ _ _ hP hD hS (lv_sub hl [0, 1, 2] rfl)
set_option maxHeartbeats 4000000 in
set_option maxRecDepth 100000 in
theorem sY_X11_undo_1 (l : Launch) (dC : Nat → ClassId) (dI : Nat → Nat → Nat) (cy : Nat → ClassId) (y0 : Nat) (r : Nat → Nat)  (v : Nat → Int32) (f : Nat → Nat → Int32) (w : Int64) (g : Nat → Int64) (hIv : YI v) (hCf : YC f) (hRf : progOK (f 4) (f 5) (v 9).toInt.toNat)  : ctI l (dC, dI) cy yX11_undo cX11_undo 1 .boolean 2 83 0 0 ((Nat → Int32) × (Nat → Nat → Int32) × (Int64) × (Nat → Int64)) [.ref y0] (YW cy y0 r v f w g) (fun r u => KV [35, 36] u.1 v ∧ KF [23, 25] u.2.1 f ∧ YI u.1 ∧ YC u.2.1 ∧ progOK (u.2.1 4) (u.2.1 5) (u.1 9).toInt.toNat ∧ u.1 0 = v 0 ∧ u.1 1 = v 1 ∧ u.1 2 = v 2 ∧ u.1 3 = v 3 ∧ u.1 4 = v 4 ∧ u.1 5 = v 5 ∧ u.1 8 = v 8 ∧ u.1 9 = v 9 ∧ u.1 10 = v 10 ∧ u.1 13 = v 13 ∧ u.1 14 = v 14 ∧ u.1 15 = v 15 ∧ u.1 17 = v 17 ∧ u.1 18 = v 18 ∧ u.1 24 = v 24 ∧ u.1 25 = v 25 ∧ u.1 38 = v 38 ∧ u.1 39 = v 39 ∧ ((r = 1) ∨ (r = 0))) (fun u => YW cy y0 r u.1 u.2.1 u.2.2.1 u.2.2.2) := by
  refine ctI_of (by decide) (Nat.le_of_ble_eq_true rfl) (fun p e s m below meth c A ls Q hx hb hml hts hown hE hP hD hA hl ret => ?_)
  have hUv : (v 35).toInt + (v 36).toInt ≤ 40 := hIv.2
  have hM_v : KV [35, 36] v v := fun _ _ => rfl
  have hA_f : KF [23, 25] f f := fun _ _ => rfl
  have hown : s.vm.findClass RX11 = some m.cls := hown
  have hS : va_S A s.heap s.heap [] := va_S.rf
  have hl : lv_has ls 1 [(0, .ref y0)] := hl
  refine lv_aload_n hx hb dX11_undo_0 rfl (lv_at hl 0 rfl) ?_
  refine va_get (D := (dC, dI)) (ci := 11) (v := .int (v 35)) (C := RX11) (T := TX11) (N := 79) hx hb hts inB_11 hown hE.1 hP 0 rfl rfl 62 (Nat.le_of_ble_eq_true rfl) (hts _ k_1382) (fun _ h9 => h9) rfl dX11_undo_1 ?_
  have b35_v : 0 ≤ (v 35).toInt ∧ (v 35).toInt ≤ 40 := YIb.b hIv.1 35 (by decide)
  refine lv_if_ne (tgt := 9) hx hb dX11_undo_4 rfl (fun c1 => ?_) (fun c1 => ?_)
  · skip
    have zc1 : ¬ ((v 35).toInt = 0) := by rw [fa_eq, show (0 : Int32).toInt = 0 from by decide] at c1; exact c1
    refine lv_aload_n hx hb dX11_undo_9 rfl (lv_at hl 0 rfl) ?_
    refine lv_dup hx hb dX11_undo_10 rfl ?_
    refine va_get (D := (dC, dI)) (ci := 11) (v := .int (v 35)) (C := RX11) (T := TX11) (N := 79) hx hb hts inB_11 hown hE.1 hP 0 rfl rfl 62 (Nat.le_of_ble_eq_true rfl) (hts _ k_1382) (fun _ h9 => h9) rfl dX11_undo_11 ?_
    refine lv_iconst (v := 1) hx hb dX11_undo_14 rfl ?_
    refine lv_isub hx hb dX11_undo_15 ?_
    refine lv_topi (fun t2 et2 => ?_)
    have rg3 := fb_rng (v 35)
    have zt2 : t2.toInt = (v 35).toInt - 1 := by rw [et2]; exact sub_i rfl (by decide) (by omega) (by omega)
    refine va_put (D := (dC, dI)) (ci := 11) (v := .int t2) (ty := tyX11 62) (C := RX11) (T := TX11) (N := 79) hx hb hts inB_11 tyX11 tyX11_ok nmX11 hown hE.1 hP hD hS 0 rfl rfl 62 (Nat.le_of_ble_eq_true rfl) (hts _ k_1382) (fun _ h9 => h9) rfl (tyX11_ok 62 (by decide)) rfl rfl (Nat.le_of_ble_eq_true rfl) dX11_undo_16 (fun H locs hP hD hS => ?_)
    have hP : va_P (dC, dI) vwCl (YW cy y0 r (upd v 35 t2) f w g) H := hP
    have hD : va_D A (YW cy y0 r (upd v 35 t2) f w g) := hD
    refine lv_aload_n hx hb dX11_undo_19 rfl (lv_at hl 0 rfl) ?_
    refine lv_dup hx hb dX11_undo_20 rfl ?_
    refine va_get (D := (dC, dI)) (ci := 11) (v := .int (v 36)) (C := RX11) (T := TX11) (N := 79) hx hb hts inB_11 hown hE.1 hP 0 rfl rfl 63 (Nat.le_of_ble_eq_true rfl) (hts _ k_1383) (fun _ h9 => h9) rfl dX11_undo_21 ?_
    have b36_v : 0 ≤ (v 36).toInt ∧ (v 36).toInt ≤ 40 := YIb.b hIv.1 36 (by decide)
    refine lv_iconst (v := 1) hx hb dX11_undo_24 rfl ?_
    refine lv_iadd hx hb dX11_undo_25 ?_
    refine lv_topi (fun t4 et4 => ?_)
    have rg5 := fb_rng (v 36)
    have zt4 : t4.toInt = (v 36).toInt + 1 := by rw [et4]; exact add_i rfl (by decide) (by omega) (by omega)
    refine va_put (D := (dC, dI)) (ci := 11) (v := .int t4) (ty := tyX11 63) (C := RX11) (T := TX11) (N := 79) hx hb hts inB_11 tyX11 tyX11_ok nmX11 hown hE.1 hP hD hS 0 rfl rfl 63 (Nat.le_of_ble_eq_true rfl) (hts _ k_1383) (fun _ h9 => h9) rfl (tyX11_ok 63 (by decide)) rfl rfl (Nat.le_of_ble_eq_true rfl) dX11_undo_26 (fun H locs hP hD hS => ?_)
    have hP : va_P (dC, dI) vwCl (YW cy y0 r (upd (upd v 35 t2) 36 t4) f w g) H := hP
    have hD : va_D A (YW cy y0 r (upd (upd v 35 t2) 36 t4) f w g) := hD
    refine lv_aload_n hx hb dX11_undo_29 rfl (lv_at hl 0 rfl) ?_
    refine lv_bipush (v := 39) hx hb dX11_undo_30 rfl ?_
    refine lv_aload_n hx hb dX11_undo_32 rfl (lv_at hl 0 rfl) ?_
    refine va_get (D := (dC, dI)) (ci := 11) (v := .int t2) (C := RX11) (T := TX11) (N := 79) hx hb hts inB_11 hown hE.1 hP 0 rfl rfl 62 (Nat.le_of_ble_eq_true rfl) (hts _ k_1382) (fun _ h9 => h9) rfl dX11_undo_33 ?_
    refine lv_imul hx hb dX11_undo_36 ?_
    refine lv_topi (fun t6 et6 => ?_)
    have rg7 := fb_rng t2
    have zt6 : t6.toInt = 39 * t2.toInt := by rw [et6]; exact mul_i (by decide) rfl (by omega) (by omega)
    refine cbVv (n := 1) (rest := []) hx hb hml hown hts hE hP hD hS hA (sY_X11_exchange_1 l dC dI cy y0 r t6 (upd (upd v 35 t2) 36 t4) f w g ⟨(YIb.upd (j := 36) (x := t4) (YIb.upd (j := 35) (x := t2) hIv.1 (show (0 : Int) ≤ t2.toInt by omega) (show t2.toInt ≤ (40 : Int) by omega)) (show (0 : Int) ≤ t4.toInt by omega) (show t4.toInt ≤ (40 : Int) by omega)), (by have q9 := hIv.2; show t2.toInt + t4.toInt ≤ 40; omega)⟩ hCf hRf ⟨show (0 : Int) ≤ t6.toInt by omega, show t6.toInt ≤ (1521 : Int) by omega⟩ (by show t6.toInt % 39 = 0; omega)) k_1845 k_1847 k_83 k_114 k_1848 (by decide +kernel) ⟨Nat.le_of_ble_eq_true rfl, Nat.le_of_ble_eq_true rfl⟩ 0 11 rfl rfl (rfl) hl.1 rfl (Nat.le_of_ble_eq_true rfl) dX11_undo_37 (fun u H locs hw hP hD hS => ?_)
    obtain ⟨v8, f9, w10, g11⟩ := u
    obtain ⟨kV_v8, kF_f9, hIv8, hCf9, hRf9, hk0_v8, hk1_v8, hk2_v8, hk3_v8, hk4_v8, hk5_v8, hk8_v8, hk9_v8, hk10_v8, hk13_v8, hk14_v8, hk15_v8, hk17_v8, hk18_v8, hk24_v8, hk25_v8, hk35_v8, hk36_v8, hk38_v8, hk39_v8⟩ := hw
    have hM_v8 : KV [35, 36] v8 v := KV.tr kV_v8 (KV.up (j := 36) (x := t4) (KV.up (j := 35) (x := t2) hM_v rfl) rfl) rfl
    have hA_f9 : KF [23, 25] f9 f := KF.tr kF_f9 hA_f rfl
    have hP : va_P (dC, dI) vwCl (YW cy y0 r v8 f9 w10 g11) H := hP
    have hD : va_D A (YW cy y0 r v8 f9 w10 g11) := hD
    have hUv8 : (v8 35).toInt + (v8 36).toInt ≤ 40 := hIv8.2
    have hq9_v8 : v8 9 = (v 9) := hk9_v8
    have zq9_v8 := congrArg Int32.toInt hq9_v8
    have hq35_v8 : v8 35 = t2 := hk35_v8
    have zq35_v8 := congrArg Int32.toInt hq35_v8
    have hq36_v8 : v8 36 = t4 := hk36_v8
    have zq36_v8 := congrArg Int32.toInt hq36_v8
    refine lv_iconst (v := 1) hx hb dX11_undo_40 rfl ?_
    exact ret 1 (v8, f9, w10, g11) _ _ _ _ _ _ rfl ⟨hM_v8, hA_f9, hIv8, hCf9, hRf9, hk0_v8, hk1_v8, hk2_v8, hk3_v8, hk4_v8, hk5_v8, hk8_v8, hk9_v8, hk10_v8, hk13_v8, hk14_v8, hk15_v8, hk17_v8, hk18_v8, hk24_v8, hk25_v8, hk38_v8, hk39_v8, (Or.inl rfl)⟩ hP hD hS dX11_undo_41 (Nat.le_refl _) (Nat.le_refl _)
  · skip
    have zc1 : (v 35).toInt = 0 := by rw [fa_eq, show (0 : Int32).toInt = 0 from by decide] at c1; exact c1
    refine lv_iconst (v := 0) hx hb dX11_undo_7 rfl ?_
    exact ret 0 (v, f, w, g) _ _ _ _ _ _ rfl ⟨hM_v, hA_f, hIv, hCf, hRf, rfl, rfl, rfl, rfl, rfl, rfl, rfl, rfl, rfl, rfl, rfl, rfl, rfl, rfl, rfl, rfl, rfl, rfl, (Or.inr rfl)⟩ hP hD hS dX11_undo_8 (Nat.le_refl _) (Nat.le_refl _)
set_option maxHeartbeats 4000000 in
set_option maxRecDepth 100000 in
theorem sY_X11_redo_1 (l : Launch) (dC : Nat → ClassId) (dI : Nat → Nat → Nat) (cy : Nat → ClassId) (y0 : Nat) (r : Nat → Nat)  (v : Nat → Int32) (f : Nat → Nat → Int32) (w : Int64) (g : Nat → Int64) (hIv : YI v) (hCf : YC f) (hRf : progOK (f 4) (f 5) (v 9).toInt.toNat)  : ctI l (dC, dI) cy yX11_redo cX11_redo 1 .boolean 2 83 0 0 ((Nat → Int32) × (Nat → Nat → Int32) × (Int64) × (Nat → Int64)) [.ref y0] (YW cy y0 r v f w g) (fun r u => KV [35, 36] u.1 v ∧ KF [23, 25] u.2.1 f ∧ YI u.1 ∧ YC u.2.1 ∧ progOK (u.2.1 4) (u.2.1 5) (u.1 9).toInt.toNat ∧ u.1 0 = v 0 ∧ u.1 1 = v 1 ∧ u.1 2 = v 2 ∧ u.1 3 = v 3 ∧ u.1 4 = v 4 ∧ u.1 5 = v 5 ∧ u.1 8 = v 8 ∧ u.1 9 = v 9 ∧ u.1 10 = v 10 ∧ u.1 13 = v 13 ∧ u.1 14 = v 14 ∧ u.1 15 = v 15 ∧ u.1 17 = v 17 ∧ u.1 18 = v 18 ∧ u.1 24 = v 24 ∧ u.1 25 = v 25 ∧ u.1 38 = v 38 ∧ u.1 39 = v 39 ∧ ((r = 1) ∨ (r = 0))) (fun u => YW cy y0 r u.1 u.2.1 u.2.2.1 u.2.2.2) := by
  refine ctI_of (by decide) (Nat.le_of_ble_eq_true rfl) (fun p e s m below meth c A ls Q hx hb hml hts hown hE hP hD hA hl ret => ?_)
  have hUv : (v 35).toInt + (v 36).toInt ≤ 40 := hIv.2
  have hM_v : KV [35, 36] v v := fun _ _ => rfl
  have hA_f : KF [23, 25] f f := fun _ _ => rfl
  have hown : s.vm.findClass RX11 = some m.cls := hown
  have hS : va_S A s.heap s.heap [] := va_S.rf
  have hl : lv_has ls 1 [(0, .ref y0)] := hl
  refine lv_aload_n hx hb dX11_redo_0 rfl (lv_at hl 0 rfl) ?_
  refine va_get (D := (dC, dI)) (ci := 11) (v := .int (v 36)) (C := RX11) (T := TX11) (N := 79) hx hb hts inB_11 hown hE.1 hP 0 rfl rfl 63 (Nat.le_of_ble_eq_true rfl) (hts _ k_1383) (fun _ h9 => h9) rfl dX11_redo_1 ?_
  have b36_v : 0 ≤ (v 36).toInt ∧ (v 36).toInt ≤ 40 := YIb.b hIv.1 36 (by decide)
  refine lv_if_ne (tgt := 9) hx hb dX11_redo_4 rfl (fun c1 => ?_) (fun c1 => ?_)
  · skip
    have zc1 : ¬ ((v 36).toInt = 0) := by rw [fa_eq, show (0 : Int32).toInt = 0 from by decide] at c1; exact c1
    refine lv_aload_n hx hb dX11_redo_9 rfl (lv_at hl 0 rfl) ?_
    refine lv_bipush (v := 39) hx hb dX11_redo_10 rfl ?_
    refine lv_aload_n hx hb dX11_redo_12 rfl (lv_at hl 0 rfl) ?_
    refine va_get (D := (dC, dI)) (ci := 11) (v := .int (v 35)) (C := RX11) (T := TX11) (N := 79) hx hb hts inB_11 hown hE.1 hP 0 rfl rfl 62 (Nat.le_of_ble_eq_true rfl) (hts _ k_1382) (fun _ h9 => h9) rfl dX11_redo_13 ?_
    have b35_v : 0 ≤ (v 35).toInt ∧ (v 35).toInt ≤ 40 := YIb.b hIv.1 35 (by decide)
    refine lv_imul hx hb dX11_redo_16 ?_
    refine lv_topi (fun t2 et2 => ?_)
    have rg3 := fb_rng (v 35)
    have zt2 : t2.toInt = 39 * (v 35).toInt := by rw [et2]; exact mul_i (by decide) rfl (by omega) (by omega)
    refine cbVv (n := 1) (rest := []) hx hb hml hown hts hE hP hD hS hA (sY_X11_exchange_1 l dC dI cy y0 r t2 v f w g hIv hCf hRf ⟨show (0 : Int) ≤ t2.toInt by omega, show t2.toInt ≤ (1521 : Int) by omega⟩ (by show t2.toInt % 39 = 0; omega)) k_1845 k_1847 k_83 k_114 k_1848 (by decide +kernel) ⟨Nat.le_of_ble_eq_true rfl, Nat.le_of_ble_eq_true rfl⟩ 0 11 rfl rfl (rfl) hl.1 rfl (Nat.le_of_ble_eq_true rfl) dX11_redo_17 (fun u H locs hw hP hD hS => ?_)
    obtain ⟨v4, f5, w6, g7⟩ := u
    obtain ⟨kV_v4, kF_f5, hIv4, hCf5, hRf5, hk0_v4, hk1_v4, hk2_v4, hk3_v4, hk4_v4, hk5_v4, hk8_v4, hk9_v4, hk10_v4, hk13_v4, hk14_v4, hk15_v4, hk17_v4, hk18_v4, hk24_v4, hk25_v4, hk35_v4, hk36_v4, hk38_v4, hk39_v4⟩ := hw
    have hM_v4 : KV [35, 36] v4 v := KV.tr kV_v4 hM_v rfl
    have hA_f5 : KF [23, 25] f5 f := KF.tr kF_f5 hA_f rfl
    have hP : va_P (dC, dI) vwCl (YW cy y0 r v4 f5 w6 g7) H := hP
    have hD : va_D A (YW cy y0 r v4 f5 w6 g7) := hD
    have hUv4 : (v4 35).toInt + (v4 36).toInt ≤ 40 := hIv4.2
    have hq9_v4 : v4 9 = (v 9) := hk9_v4
    have zq9_v4 := congrArg Int32.toInt hq9_v4
    have hq35_v4 : v4 35 = (v 35) := hk35_v4
    have zq35_v4 := congrArg Int32.toInt hq35_v4
    have hq36_v4 : v4 36 = (v 36) := hk36_v4
    have zq36_v4 := congrArg Int32.toInt hq36_v4
    refine lv_aload_n hx hb dX11_redo_20 rfl (lv_at hl 0 rfl) ?_
    refine lv_dup hx hb dX11_redo_21 rfl ?_
    refine va_get (D := (dC, dI)) (ci := 11) (v := .int (v4 35)) (C := RX11) (T := TX11) (N := 79) hx hb hts inB_11 hown hE.1 hP 0 rfl rfl 62 (Nat.le_of_ble_eq_true rfl) (hts _ k_1382) (fun _ h9 => h9) rfl dX11_redo_22 ?_
    refine tI (y := (v 35)) hq35_v4 ?_
    have b35_v : 0 ≤ (v 35).toInt ∧ (v 35).toInt ≤ 40 := YIb.b hIv.1 35 (by decide)
    refine lv_iconst (v := 1) hx hb dX11_redo_25 rfl ?_
    refine lv_iadd hx hb dX11_redo_26 ?_
    refine lv_topi (fun t8 et8 => ?_)
    have zt8 : t8.toInt = (v 35).toInt + 1 := by rw [et8]; exact add_i rfl (by decide) (by omega) (by omega)
    refine va_put (D := (dC, dI)) (ci := 11) (v := .int t8) (ty := tyX11 62) (C := RX11) (T := TX11) (N := 79) hx hb hts inB_11 tyX11 tyX11_ok nmX11 hown hE.1 hP hD hS 0 rfl rfl 62 (Nat.le_of_ble_eq_true rfl) (hts _ k_1382) (fun _ h9 => h9) rfl (tyX11_ok 62 (by decide)) rfl rfl (Nat.le_of_ble_eq_true rfl) dX11_redo_27 (fun H locs hP hD hS => ?_)
    have hP : va_P (dC, dI) vwCl (YW cy y0 r (upd v4 35 t8) f5 w6 g7) H := hP
    have hD : va_D A (YW cy y0 r (upd v4 35 t8) f5 w6 g7) := hD
    refine lv_aload_n hx hb dX11_redo_30 rfl (lv_at hl 0 rfl) ?_
    refine lv_dup hx hb dX11_redo_31 rfl ?_
    refine va_get (D := (dC, dI)) (ci := 11) (v := .int (v4 36)) (C := RX11) (T := TX11) (N := 79) hx hb hts inB_11 hown hE.1 hP 0 rfl rfl 63 (Nat.le_of_ble_eq_true rfl) (hts _ k_1383) (fun _ h9 => h9) rfl dX11_redo_32 ?_
    refine tI (y := (v 36)) hq36_v4 ?_
    have b36_v : 0 ≤ (v 36).toInt ∧ (v 36).toInt ≤ 40 := YIb.b hIv.1 36 (by decide)
    refine lv_iconst (v := 1) hx hb dX11_redo_35 rfl ?_
    refine lv_isub hx hb dX11_redo_36 ?_
    refine lv_topi (fun t9 et9 => ?_)
    have rg10 := fb_rng (v 36)
    have zt9 : t9.toInt = (v 36).toInt - 1 := by rw [et9]; exact sub_i rfl (by decide) (by omega) (by omega)
    refine va_put (D := (dC, dI)) (ci := 11) (v := .int t9) (ty := tyX11 63) (C := RX11) (T := TX11) (N := 79) hx hb hts inB_11 tyX11 tyX11_ok nmX11 hown hE.1 hP hD hS 0 rfl rfl 63 (Nat.le_of_ble_eq_true rfl) (hts _ k_1383) (fun _ h9 => h9) rfl (tyX11_ok 63 (by decide)) rfl rfl (Nat.le_of_ble_eq_true rfl) dX11_redo_37 (fun H locs hP hD hS => ?_)
    have hP : va_P (dC, dI) vwCl (YW cy y0 r (upd (upd v4 35 t8) 36 t9) f5 w6 g7) H := hP
    have hD : va_D A (YW cy y0 r (upd (upd v4 35 t8) 36 t9) f5 w6 g7) := hD
    refine lv_iconst (v := 1) hx hb dX11_redo_40 rfl ?_
    exact ret 1 ((upd (upd v4 35 t8) 36 t9), f5, w6, g7) _ _ _ _ _ _ rfl ⟨(KV.up (j := 36) (x := t9) (KV.up (j := 35) (x := t8) hM_v4 rfl) rfl), hA_f5, ⟨(YIb.upd (j := 36) (x := t9) (YIb.upd (j := 35) (x := t8) hIv4.1 (show (0 : Int) ≤ t8.toInt by omega) (show t8.toInt ≤ (40 : Int) by omega)) (show (0 : Int) ≤ t9.toInt by omega) (show t9.toInt ≤ (40 : Int) by omega)), (by have q9 := hIv4.2; show t8.toInt + t9.toInt ≤ 40; omega)⟩, hCf5, hRf5, hk0_v4, hk1_v4, hk2_v4, hk3_v4, hk4_v4, hk5_v4, hk8_v4, hk9_v4, hk10_v4, hk13_v4, hk14_v4, hk15_v4, hk17_v4, hk18_v4, hk24_v4, hk25_v4, hk38_v4, hk39_v4, (Or.inl rfl)⟩ hP hD hS dX11_redo_41 (Nat.le_refl _) (Nat.le_refl _)
  · skip
    have zc1 : (v 36).toInt = 0 := by rw [fa_eq, show (0 : Int32).toInt = 0 from by decide] at c1; exact c1
    refine lv_iconst (v := 0) hx hb dX11_redo_7 rfl ?_
    exact ret 0 (v, f, w, g) _ _ _ _ _ _ rfl ⟨hM_v, hA_f, hIv, hCf, hRf, rfl, rfl, rfl, rfl, rfl, rfl, rfl, rfl, rfl, rfl, rfl, rfl, rfl, rfl, rfl, rfl, rfl, rfl, (Or.inr rfl)⟩ hP hD hS dX11_redo_8 (Nat.le_refl _) (Nat.le_refl _)
set_option maxHeartbeats 4000000 in
set_option maxRecDepth 100000 in
theorem sY_X11_will_1 (l : Launch) (dC : Nat → ClassId) (dI : Nat → Nat → Nat) (cy : Nat → ClassId) (y0 : Nat) (r : Nat → Nat) (p1 : Int32) (p2 : Int32) (p3 : Int32) (v : Nat → Int32) (f : Nat → Nat → Int32) (w : Int64) (g : Nat → Int64) (hIv : YI v) (hCf : YC f) (hRf : progOK (f 4) (f 5) (v 9).toInt.toNat)  : ctI l (dC, dI) cy yX11_will cX11_will 5 .int 8 214 0 0 ((Nat → Int32) × (Nat → Nat → Int32) × (Int64) × (Nat → Int64)) [.ref y0, .int p1, .int p2, .int p3] (YW cy y0 r v f w g) (fun r u => KV [] u.1 v ∧ KF [7, 8, 24] u.2.1 f ∧ YI u.1 ∧ YC u.2.1 ∧ progOK (u.2.1 4) (u.2.1 5) (u.1 9).toInt.toNat ∧ u.1 0 = v 0 ∧ u.1 1 = v 1 ∧ u.1 2 = v 2 ∧ u.1 3 = v 3 ∧ u.1 4 = v 4 ∧ u.1 5 = v 5 ∧ u.1 8 = v 8 ∧ u.1 9 = v 9 ∧ u.1 10 = v 10 ∧ u.1 13 = v 13 ∧ u.1 14 = v 14 ∧ u.1 15 = v 15 ∧ u.1 17 = v 17 ∧ u.1 18 = v 18 ∧ u.1 24 = v 24 ∧ u.1 25 = v 25 ∧ u.1 35 = v 35 ∧ u.1 36 = v 36 ∧ u.1 38 = v 38 ∧ u.1 39 = v 39) (fun u => YW cy y0 r u.1 u.2.1 u.2.2.1 u.2.2.2) := by
  refine ctI_of (by decide) (Nat.le_of_ble_eq_true rfl) (fun p e s m below meth c A ls Q hx hb hml hts hown hE hP hD hA hl ret => ?_)
  have hUv : (v 35).toInt + (v 36).toInt ≤ 40 := hIv.2
  have hM_v : KV [] v v := fun _ _ => rfl
  have hA_f : KF [7, 8, 24] f f := fun _ _ => rfl
  have hown : s.vm.findClass RX11 = some m.cls := hown
  have hS : va_S A s.heap s.heap [] := va_S.rf
  have hl : lv_has ls 5 [(0, .ref y0), (1, .int p1), (2, .int p2), (3, .int p3)] := hl
  refine lv_aload_n hx hb dX11_will_0 rfl (lv_at hl 0 rfl) ?_
  refine lv_iload_n hx hb dX11_will_1 rfl (lv_at hl 1 rfl) ?_
  refine cbVi (n := 1) (rest := []) hx hb hml hown hts hE hP hD hS hA (sY_X11_isMan_1 l dC dI cy y0 r p1 v f w g hIv hCf hRf ) k_1732 k_1734 k_70 k_114 k_1735 (by decide +kernel) ⟨Nat.le_of_ble_eq_true rfl, Nat.le_of_ble_eq_true rfl⟩ 0 11 rfl rfl (rfl) hl.1 rfl (Nat.le_of_ble_eq_true rfl) dX11_will_2 (fun r1 u H locs hw hP hD hS => ?_)
  rcases hw with ⟨g2, g2_0, g2_1, g2_2⟩ | ⟨g2⟩
  · skip
    subst g2
    refine lv_if_eq (tgt := 27) hx hb dX11_will_5 rfl (fun c0 => absurd c0 (by decide)) (fun _ => ?_)
    refine lv_iload_n hx hb dX11_will_8 rfl (lv_at hl 2 rfl) ?_
    refine lv_iconst (v := 0) hx hb dX11_will_9 rfl ?_
    refine lv_bipush (v := 60) hx hb dX11_will_10 rfl ?_
    have lt3 : (0 : Int32).toInt = 0 := by decide
    have lt4 : (60 : Int32).toInt = 60 := by decide
    refine cbSi (n := 3) (rest := []) hx hb hml hown hts hE hP hD hS hA (sY_X11_isIn_1 0 l dC dI cy y0 r p2 0 60 v f w g hIv hCf hRf ) k_1736 k_1737 k_114 k_1738 (by decide +kernel) ⟨Nat.le_of_ble_eq_true rfl, Nat.le_of_ble_eq_true rfl⟩ (rfl) hl.1 rfl (Nat.le_of_ble_eq_true rfl) dX11_will_12 (fun r5 u H locs hw hP hD hS => ?_)
    obtain ⟨hG6, hw⟩ := hw
    rcases hw with ⟨g7, g7_0, g7_1⟩ | ⟨g7⟩
    · skip
      subst g7
      refine lv_if_eq (tgt := 27) hx hb dX11_will_15 rfl (fun c0 => absurd c0 (by decide)) (fun _ => ?_)
      refine lv_iload_n hx hb dX11_will_18 rfl (lv_at hl 3 rfl) ?_
      refine lv_iconst (v := 0) hx hb dX11_will_19 rfl ?_
      refine lv_iconst (v := 1) hx hb dX11_will_20 rfl ?_
      have lt8 : (1 : Int32).toInt = 1 := by decide
      refine cbSi (n := 3) (rest := []) hx hb hml hown hts hE hP hD hS hA (sY_X11_isIn_1 0 l dC dI cy y0 r p3 0 1 v f w g hIv hCf hRf ) k_1736 k_1737 k_114 k_1738 (by decide +kernel) ⟨Nat.le_of_ble_eq_true rfl, Nat.le_of_ble_eq_true rfl⟩ (rfl) hl.1 rfl (Nat.le_of_ble_eq_true rfl) dX11_will_21 (fun r9 u H locs hw hP hD hS => ?_)
      obtain ⟨hG10, hw⟩ := hw
      rcases hw with ⟨g11, g11_0, g11_1⟩ | ⟨g11⟩
      · skip
        subst g11
        refine lv_if_ne (tgt := 30) hx hb dX11_will_24 rfl (fun _ => ?_) (fun c0 => absurd c0 (by decide))
        refine lv_aload_n hx hb dX11_will_30 rfl (lv_at hl 0 rfl) ?_
        refine cbVv (n := 0) (rest := []) hx hb hml hown hts hE hP hD hS hA (sY_X11_fill_1 l dC dI cy y0 r  v f w g hIv hCf hRf ) k_1739 k_1741 k_71 k_114 k_1742 (by decide +kernel) ⟨Nat.le_of_ble_eq_true rfl, Nat.le_of_ble_eq_true rfl⟩ 0 11 rfl rfl (rfl) hl.1 rfl (Nat.le_of_ble_eq_true rfl) dX11_will_31 (fun u H locs hw hP hD hS => ?_)
        obtain ⟨v12, f13, w14, g15⟩ := u
        obtain ⟨kV_v12, kF_f13, hIv12, hCf13, hRf13, hk0_v12, hk1_v12, hk2_v12, hk3_v12, hk4_v12, hk5_v12, hk8_v12, hk9_v12, hk10_v12, hk13_v12, hk14_v12, hk15_v12, hk17_v12, hk18_v12, hk24_v12, hk25_v12, hk35_v12, hk36_v12, hk38_v12, hk39_v12⟩ := hw
        have hM_v12 : KV [] v12 v := KV.tr kV_v12 hM_v rfl
        have hA_f13 : KF [7, 8, 24] f13 f := KF.tr kF_f13 hA_f rfl
        have hP : va_P (dC, dI) vwCl (YW cy y0 r v12 f13 w14 g15) H := hP
        have hD : va_D A (YW cy y0 r v12 f13 w14 g15) := hD
        have hUv12 : (v12 35).toInt + (v12 36).toInt ≤ 40 := hIv12.2
        have hq0_v12 : v12 0 = (v 0) := hk0_v12
        have hq1_v12 : v12 1 = (v 1) := hk1_v12
        have hq2_v12 : v12 2 = (v 2) := hk2_v12
        have hq3_v12 : v12 3 = (v 3) := hk3_v12
        have hq4_v12 : v12 4 = (v 4) := hk4_v12
        have hq5_v12 : v12 5 = (v 5) := hk5_v12
        have hq8_v12 : v12 8 = (v 8) := hk8_v12
        have hq9_v12 : v12 9 = (v 9) := hk9_v12
        have zq9_v12 := congrArg Int32.toInt hq9_v12
        have hq10_v12 : v12 10 = (v 10) := hk10_v12
        have hq13_v12 : v12 13 = (v 13) := hk13_v12
        have hq14_v12 : v12 14 = (v 14) := hk14_v12
        have hq15_v12 : v12 15 = (v 15) := hk15_v12
        have hq17_v12 : v12 17 = (v 17) := hk17_v12
        have hq18_v12 : v12 18 = (v 18) := hk18_v12
        have hq24_v12 : v12 24 = (v 24) := hk24_v12
        have hq25_v12 : v12 25 = (v 25) := hk25_v12
        have hq35_v12 : v12 35 = (v 35) := hk35_v12
        have hq36_v12 : v12 36 = (v 36) := hk36_v12
        have hq38_v12 : v12 38 = (v 38) := hk38_v12
        have hq39_v12 : v12 39 = (v 39) := hk39_v12
        refine lv_iconst (v := 0) hx hb dX11_will_34 rfl ?_
        refine lv_istore (lv' := [(4, .int 0), (0, .ref y0), (1, .int p1), (2, .int p2), (3, .int p3)]) hx hb dX11_will_35 hl (Nat.le_of_ble_eq_true rfl) rfl (fun ls hl => ?_)
        have lp16 : ∀ (n16 : Nat) (l4_16 : Int32) (v16 : Nat → Int32) (f16 : Nat → Nat → Int32) (w16 : Int64) (g16 : Nat → Int64), YI v16 → YC f16 → progOK (f16 4) (f16 5) (v16 9).toInt.toNat → v16 0 = (v 0) → v16 1 = (v 1) → v16 2 = (v 2) → v16 3 = (v 3) → v16 4 = (v 4) → v16 5 = (v 5) → v16 8 = (v 8) → v16 9 = (v 9) → v16 10 = (v 10) → v16 13 = (v 13) → v16 14 = (v 14) → v16 15 = (v 15) → v16 17 = (v 17) → v16 18 = (v 18) → v16 24 = (v 24) → v16 25 = (v 25) → v16 35 = (v 35) → v16 36 = (v 36) → v16 38 = (v 38) → v16 39 = (v 39) → ((0 : Int) ≤ l4_16.toInt ∧ l4_16.toInt ≤ 2147483647) → KV [] v16 v → KF [7, 8, 24] f16 f → (2147483647 - l4_16.toInt).toNat < n16 → ∀ (H : Heap) (locs : List Loc) (ls : Array Slot), va_P (dC, dI) vwCl (YW cy y0 r v16 f16 w16 g16) H → va_D A (YW cy y0 r v16 f16 w16 g16) → va_S A s.heap H locs → lv_has ls 5 [(4, .int l4_16), (0, .ref y0), (1, .int p1), (2, .int p2), (3, .int p3)] → W p l e { frames := 8, cells := 0, slots := 0, locals := 214 } s m ([.ref y0, .int p1, .int p2, .int p3] : List Value).toArray below meth c H locs 0 0 Q (F0 m 37 ls []) := by
          intro n16
          induction n16 with
          | zero => intro l4_16 v16 f16 w16 g16 hIv16 hCf16 hRf16 hq0_v16 hq1_v16 hq2_v16 hq3_v16 hq4_v16 hq5_v16 hq8_v16 hq9_v16 hq10_v16 hq13_v16 hq14_v16 hq15_v16 hq17_v16 hq18_v16 hq24_v16 hq25_v16 hq35_v16 hq36_v16 hq38_v16 hq39_v16 hr4_16 hM_v16 hA_f16 hm; exact absurd hm (Nat.not_lt_zero _)
          | succ n16 ih16 =>
            intro l4_16 v16 f16 w16 g16 hIv16 hCf16 hRf16 hq0_v16 hq1_v16 hq2_v16 hq3_v16 hq4_v16 hq5_v16 hq8_v16 hq9_v16 hq10_v16 hq13_v16 hq14_v16 hq15_v16 hq17_v16 hq18_v16 hq24_v16 hq25_v16 hq35_v16 hq36_v16 hq38_v16 hq39_v16 hr4_16 hM_v16 hA_f16 hm16 H locs ls hP hD hS hl
            have hUv16 : (v16 35).toInt + (v16 36).toInt ≤ 40 := hIv16.2
            have zq9_v16 := congrArg Int32.toInt hq9_v16
            refine lv_iload hx hb dX11_will_37 (lv_at hl 0 rfl) ?_
            refine lv_iload_n hx hb dX11_will_39 rfl (lv_at hl 3 rfl) ?_
            refine lv_icmp_ge (tgt := 71) hx hb dX11_will_40 rfl (fun c17 => ?_) (fun c17 => ?_)
            · skip
              have zc17 : p2.toInt ≤ l4_16.toInt := by rw [fa_le] at c17; exact c17
              have rg18 := fb_rng l4_16
              have rg19 := fb_rng p2
              refine lv_aload_n hx hb dX11_will_71 rfl (lv_at hl 1 rfl) ?_
              refine va_get (D := (dC, dI)) (ci := 11) (v := .ref (r 60)) (C := RX11) (T := TX11) (N := 79) hx hb hts inB_11 hown hE.1 hP 0 rfl rfl 60 (Nat.le_of_ble_eq_true rfl) (hts _ k_1380) (fun _ h9 => h9) rfl dX11_will_72 ?_
              refine lv_bipush (v := 6) hx hb dX11_will_75 rfl ?_
              refine lv_iload_n hx hb dX11_will_77 rfl (lv_at hl 2 rfl) ?_
              refine lv_iadd hx hb dX11_will_78 ?_
              refine lv_topi (fun t20 et20 => ?_)
              have rg21 := fb_rng p1
              have zt20 : t20.toInt = 6 + p1.toInt := by rw [et20]; exact add_i (by decide) rfl (by omega) (by omega)
              refine ldI hx hb hE hP 25 rfl (vp_in_iff.mpr ⟨by omega, by omega⟩) rfl rfl dX11_will_79 ?_
              refine lv_topi (fun t22 et22 => ?_)
              have zt22 : t20.toInt.toNat % 39 < 6 ∨ 12 ≤ t20.toInt.toNat % 39 ∨ (-1 ≤ t22.toInt ∧ t22.toInt ≤ 5) := by rw [et22]; exact wear_ld hCf16.2.1 (show t20.toInt.toNat < 39 by omega)
              exact ret t22 (v16, f16, w16, g16) _ _ _ _ _ _ rfl ⟨hM_v16, hA_f16, hIv16, hCf16, hRf16, hq0_v16, hq1_v16, hq2_v16, hq3_v16, hq4_v16, hq5_v16, hq8_v16, hq9_v16, hq10_v16, hq13_v16, hq14_v16, hq15_v16, hq17_v16, hq18_v16, hq24_v16, hq25_v16, hq35_v16, hq36_v16, hq38_v16, hq39_v16⟩ hP hD hS dX11_will_80 (Nat.le_refl _) (Nat.le_refl _)
            · skip
              have zc17 : ¬ (p2.toInt ≤ l4_16.toInt) := by rw [fa_le] at c17; exact c17
              have rg23 := fb_rng l4_16
              have rg24 := fb_rng p2
              refine lv_aload_n hx hb dX11_will_43 rfl (lv_at hl 1 rfl) ?_
              refine lv_iload_n hx hb dX11_will_44 rfl (lv_at hl 4 rfl) ?_
              refine lv_iconst (v := 1) hx hb dX11_will_45 rfl ?_
              refine lv_icmp_ne (tgt := 60) hx hb dX11_will_46 rfl (fun c25 => ?_) (fun c25 => ?_)
              · skip
                have zc25 : ¬ (p3.toInt = 1) := by rw [fa_eq, show (1 : Int32).toInt = 1 from by decide] at c25; exact c25
                refine lv_iconst (v := 0) hx hb dX11_will_60 rfl ?_
                refine cbVi (n := 1) (rest := []) hx hb hml hown hts hE hP hD hS hA (sY_X11_goDay_1 l dC dI cy y0 r 0 v16 f16 w16 g16 hIv16 hCf16 hRf16 ) k_1795 k_1797 k_79 k_114 k_1798 (by decide +kernel) ⟨Nat.le_of_ble_eq_true rfl, Nat.le_of_ble_eq_true rfl⟩ 0 11 rfl rfl (rfl) hl.1 rfl (Nat.le_of_ble_eq_true rfl) dX11_will_61 (fun r26 u H locs hw hP hD hS => ?_)
                obtain ⟨v27, f28, w29, g30⟩ := u
                obtain ⟨kV_v27, kF_f28, hIv27, hCf28, hRf28, hk0_v27, hk1_v27, hk2_v27, hk3_v27, hk4_v27, hk5_v27, hk8_v27, hk9_v27, hk10_v27, hk13_v27, hk14_v27, hk15_v27, hk17_v27, hk18_v27, hk24_v27, hk25_v27, hk35_v27, hk36_v27, hk38_v27, hk39_v27⟩ := hw
                have hM_v27 : KV [] v27 v := KV.tr kV_v27 hM_v16 rfl
                have hA_f28 : KF [7, 8, 24] f28 f := KF.tr kF_f28 hA_f16 rfl
                have hP : va_P (dC, dI) vwCl (YW cy y0 r v27 f28 w29 g30) H := hP
                have hD : va_D A (YW cy y0 r v27 f28 w29 g30) := hD
                have hUv27 : (v27 35).toInt + (v27 36).toInt ≤ 40 := hIv27.2
                have hq0_v27 : v27 0 = (v 0) := hk0_v27.trans hq0_v16
                have hq1_v27 : v27 1 = (v 1) := hk1_v27.trans hq1_v16
                have hq2_v27 : v27 2 = (v 2) := hk2_v27.trans hq2_v16
                have hq3_v27 : v27 3 = (v 3) := hk3_v27.trans hq3_v16
                have hq4_v27 : v27 4 = (v 4) := hk4_v27.trans hq4_v16
                have hq5_v27 : v27 5 = (v 5) := hk5_v27.trans hq5_v16
                have hq8_v27 : v27 8 = (v 8) := hk8_v27.trans hq8_v16
                have hq9_v27 : v27 9 = (v 9) := hk9_v27.trans hq9_v16
                have zq9_v27 := congrArg Int32.toInt hq9_v27
                have hq10_v27 : v27 10 = (v 10) := hk10_v27.trans hq10_v16
                have hq13_v27 : v27 13 = (v 13) := hk13_v27.trans hq13_v16
                have hq14_v27 : v27 14 = (v 14) := hk14_v27.trans hq14_v16
                have hq15_v27 : v27 15 = (v 15) := hk15_v27.trans hq15_v16
                have hq17_v27 : v27 17 = (v 17) := hk17_v27.trans hq17_v16
                have hq18_v27 : v27 18 = (v 18) := hk18_v27.trans hq18_v16
                have hq24_v27 : v27 24 = (v 24) := hk24_v27.trans hq24_v16
                have hq25_v27 : v27 25 = (v 25) := hk25_v27.trans hq25_v16
                have hq35_v27 : v27 35 = (v 35) := hk35_v27.trans hq35_v16
                have hq36_v27 : v27 36 = (v 36) := hk36_v27.trans hq36_v16
                have hq38_v27 : v27 38 = (v 38) := hk38_v27.trans hq38_v16
                have hq39_v27 : v27 39 = (v 39) := hk39_v27.trans hq39_v16
                refine lv_pop hx hb dX11_will_64 rfl ?_
                obtain ⟨t31, et31⟩ : ∃ y : Int32, y = l4_16 + 1 := ⟨_, rfl⟩
                have zt31 : t31.toInt = l4_16.toInt + 1 := by rw [et31]; exact add_i rfl (by decide) (by omega) (by omega)
                refine lv_iinc (v := t31) (lv' := [(4, .int t31), (0, .ref y0), (1, .int p1), (2, .int p2), (3, .int p3)]) hx hb dX11_will_65 hl (k := 0) rfl (by rw [et31]; rfl) (by decide) rfl (fun ls hl => ?_)
                refine lv_goto (tgt := 37) hx hb dX11_will_68 rfl ?_
                have rg32 := fb_rng t31
                exact ih16 t31 v27 f28 w29 g30 hIv27 hCf28 hRf28 hq0_v27 hq1_v27 hq2_v27 hq3_v27 hq4_v27 hq5_v27 hq8_v27 hq9_v27 hq10_v27 hq13_v27 hq14_v27 hq15_v27 hq17_v27 hq18_v27 hq24_v27 hq25_v27 hq35_v27 hq36_v27 hq38_v27 hq39_v27 ⟨show (0 : Int) ≤ t31.toInt by omega, show t31.toInt ≤ (2147483647 : Int) by omega⟩ hM_v27 hA_f28 (by show (2147483647 - t31.toInt).toNat < n16; omega) _ _ _ hP hD hS (lv_sub hl [0, 1, 2, 3, 4] rfl)
              · skip
                have zc25 : p3.toInt = 1 := by rw [fa_eq, show (1 : Int32).toInt = 1 from by decide] at c25; exact c25
                refine lv_aload_n hx hb dX11_will_49 rfl (lv_at hl 1 rfl) ?_
                refine cbVi (n := 0) (rest := [.ref y0]) hx hb hml hown hts hE hP hD hS hA (sY_X11_drawRain_1 l dC dI cy y0 r  v16 f16 w16 g16 hIv16 hCf16 hRf16 ) k_1791 k_1793 k_78 k_114 k_1794 (by decide +kernel) ⟨Nat.le_of_ble_eq_true rfl, Nat.le_of_ble_eq_true rfl⟩ 0 11 rfl rfl (rfl) hl.1 rfl (Nat.le_of_ble_eq_true rfl) dX11_will_50 (fun r33 u H locs hw hP hD hS => ?_)
                obtain ⟨v34, f35, w36, g37⟩ := u
                obtain ⟨kV_v34, kF_f35, hIv34, hCf35, hRf35, hk0_v34, hk1_v34, hk2_v34, hk3_v34, hk4_v34, hk5_v34, hk8_v34, hk9_v34, hk10_v34, hk13_v34, hk14_v34, hk15_v34, hk17_v34, hk18_v34, hk24_v34, hk25_v34, hk35_v34, hk36_v34, hk38_v34, hk39_v34, hw⟩ := hw
                have hM_v34 : KV [] v34 v := KV.tr kV_v34 hM_v16 rfl
                have hA_f35 : KF [7, 8, 24] f35 f := KF.tr kF_f35 hA_f16 rfl
                have hP : va_P (dC, dI) vwCl (YW cy y0 r v34 f35 w36 g37) H := hP
                have hD : va_D A (YW cy y0 r v34 f35 w36 g37) := hD
                have hUv34 : (v34 35).toInt + (v34 36).toInt ≤ 40 := hIv34.2
                have hq0_v34 : v34 0 = (v 0) := hk0_v34.trans hq0_v16
                have hq1_v34 : v34 1 = (v 1) := hk1_v34.trans hq1_v16
                have hq2_v34 : v34 2 = (v 2) := hk2_v34.trans hq2_v16
                have hq3_v34 : v34 3 = (v 3) := hk3_v34.trans hq3_v16
                have hq4_v34 : v34 4 = (v 4) := hk4_v34.trans hq4_v16
                have hq5_v34 : v34 5 = (v 5) := hk5_v34.trans hq5_v16
                have hq8_v34 : v34 8 = (v 8) := hk8_v34.trans hq8_v16
                have hq9_v34 : v34 9 = (v 9) := hk9_v34.trans hq9_v16
                have zq9_v34 := congrArg Int32.toInt hq9_v34
                have hq10_v34 : v34 10 = (v 10) := hk10_v34.trans hq10_v16
                have hq13_v34 : v34 13 = (v 13) := hk13_v34.trans hq13_v16
                have hq14_v34 : v34 14 = (v 14) := hk14_v34.trans hq14_v16
                have hq15_v34 : v34 15 = (v 15) := hk15_v34.trans hq15_v16
                have hq17_v34 : v34 17 = (v 17) := hk17_v34.trans hq17_v16
                have hq18_v34 : v34 18 = (v 18) := hk18_v34.trans hq18_v16
                have hq24_v34 : v34 24 = (v 24) := hk24_v34.trans hq24_v16
                have hq25_v34 : v34 25 = (v 25) := hk25_v34.trans hq25_v16
                have hq35_v34 : v34 35 = (v 35) := hk35_v34.trans hq35_v16
                have hq36_v34 : v34 36 = (v 36) := hk36_v34.trans hq36_v16
                have hq38_v34 : v34 38 = (v 38) := hk38_v34.trans hq38_v16
                have hq39_v34 : v34 39 = (v 39) := hk39_v34.trans hq39_v16
                rcases hw with ⟨g38⟩ | ⟨g38⟩
                · skip
                  subst g38
                  refine lv_if_eq (tgt := 60) hx hb dX11_will_53 rfl (fun c0 => absurd c0 (by decide)) (fun _ => ?_)
                  refine lv_iconst (v := 1) hx hb dX11_will_56 rfl ?_
                  refine lv_goto (tgt := 61) hx hb dX11_will_57 rfl ?_
                  refine cbVi (n := 1) (rest := []) hx hb hml hown hts hE hP hD hS hA (sY_X11_goDay_1 l dC dI cy y0 r 1 v34 f35 w36 g37 hIv34 hCf35 hRf35 ) k_1795 k_1797 k_79 k_114 k_1798 (by decide +kernel) ⟨Nat.le_of_ble_eq_true rfl, Nat.le_of_ble_eq_true rfl⟩ 0 11 rfl rfl (rfl) hl.1 rfl (Nat.le_of_ble_eq_true rfl) dX11_will_61 (fun r39 u H locs hw hP hD hS => ?_)
                  obtain ⟨v40, f41, w42, g43⟩ := u
                  obtain ⟨kV_v40, kF_f41, hIv40, hCf41, hRf41, hk0_v40, hk1_v40, hk2_v40, hk3_v40, hk4_v40, hk5_v40, hk8_v40, hk9_v40, hk10_v40, hk13_v40, hk14_v40, hk15_v40, hk17_v40, hk18_v40, hk24_v40, hk25_v40, hk35_v40, hk36_v40, hk38_v40, hk39_v40⟩ := hw
                  have hM_v40 : KV [] v40 v := KV.tr kV_v40 hM_v34 rfl
                  have hA_f41 : KF [7, 8, 24] f41 f := KF.tr kF_f41 hA_f35 rfl
                  have hP : va_P (dC, dI) vwCl (YW cy y0 r v40 f41 w42 g43) H := hP
                  have hD : va_D A (YW cy y0 r v40 f41 w42 g43) := hD
                  have hUv40 : (v40 35).toInt + (v40 36).toInt ≤ 40 := hIv40.2
                  have hq0_v40 : v40 0 = (v 0) := hk0_v40.trans hq0_v34
                  have hq1_v40 : v40 1 = (v 1) := hk1_v40.trans hq1_v34
                  have hq2_v40 : v40 2 = (v 2) := hk2_v40.trans hq2_v34
                  have hq3_v40 : v40 3 = (v 3) := hk3_v40.trans hq3_v34
                  have hq4_v40 : v40 4 = (v 4) := hk4_v40.trans hq4_v34
                  have hq5_v40 : v40 5 = (v 5) := hk5_v40.trans hq5_v34
                  have hq8_v40 : v40 8 = (v 8) := hk8_v40.trans hq8_v34
                  have hq9_v40 : v40 9 = (v 9) := hk9_v40.trans hq9_v34
                  have zq9_v40 := congrArg Int32.toInt hq9_v40
                  have hq10_v40 : v40 10 = (v 10) := hk10_v40.trans hq10_v34
                  have hq13_v40 : v40 13 = (v 13) := hk13_v40.trans hq13_v34
                  have hq14_v40 : v40 14 = (v 14) := hk14_v40.trans hq14_v34
                  have hq15_v40 : v40 15 = (v 15) := hk15_v40.trans hq15_v34
                  have hq17_v40 : v40 17 = (v 17) := hk17_v40.trans hq17_v34
                  have hq18_v40 : v40 18 = (v 18) := hk18_v40.trans hq18_v34
                  have hq24_v40 : v40 24 = (v 24) := hk24_v40.trans hq24_v34
                  have hq25_v40 : v40 25 = (v 25) := hk25_v40.trans hq25_v34
                  have hq35_v40 : v40 35 = (v 35) := hk35_v40.trans hq35_v34
                  have hq36_v40 : v40 36 = (v 36) := hk36_v40.trans hq36_v34
                  have hq38_v40 : v40 38 = (v 38) := hk38_v40.trans hq38_v34
                  have hq39_v40 : v40 39 = (v 39) := hk39_v40.trans hq39_v34
                  refine lv_pop hx hb dX11_will_64 rfl ?_
                  obtain ⟨t44, et44⟩ : ∃ y : Int32, y = l4_16 + 1 := ⟨_, rfl⟩
                  have zt44 : t44.toInt = l4_16.toInt + 1 := by rw [et44]; exact add_i rfl (by decide) (by omega) (by omega)
                  refine lv_iinc (v := t44) (lv' := [(4, .int t44), (0, .ref y0), (1, .int p1), (2, .int p2), (3, .int p3)]) hx hb dX11_will_65 hl (k := 0) rfl (by rw [et44]; rfl) (by decide) rfl (fun ls hl => ?_)
                  refine lv_goto (tgt := 37) hx hb dX11_will_68 rfl ?_
                  have rg45 := fb_rng t44
                  exact ih16 t44 v40 f41 w42 g43 hIv40 hCf41 hRf41 hq0_v40 hq1_v40 hq2_v40 hq3_v40 hq4_v40 hq5_v40 hq8_v40 hq9_v40 hq10_v40 hq13_v40 hq14_v40 hq15_v40 hq17_v40 hq18_v40 hq24_v40 hq25_v40 hq35_v40 hq36_v40 hq38_v40 hq39_v40 ⟨show (0 : Int) ≤ t44.toInt by omega, show t44.toInt ≤ (2147483647 : Int) by omega⟩ hM_v40 hA_f41 (by show (2147483647 - t44.toInt).toNat < n16; omega) _ _ _ hP hD hS (lv_sub hl [0, 1, 2, 3, 4] rfl)
                · skip
                  subst g38
                  refine lv_if_eq (tgt := 60) hx hb dX11_will_53 rfl (fun _ => ?_) (fun c0 => absurd (by decide) c0)
                  refine lv_iconst (v := 0) hx hb dX11_will_60 rfl ?_
                  refine cbVi (n := 1) (rest := []) hx hb hml hown hts hE hP hD hS hA (sY_X11_goDay_1 l dC dI cy y0 r 0 v34 f35 w36 g37 hIv34 hCf35 hRf35 ) k_1795 k_1797 k_79 k_114 k_1798 (by decide +kernel) ⟨Nat.le_of_ble_eq_true rfl, Nat.le_of_ble_eq_true rfl⟩ 0 11 rfl rfl (rfl) hl.1 rfl (Nat.le_of_ble_eq_true rfl) dX11_will_61 (fun r46 u H locs hw hP hD hS => ?_)
                  obtain ⟨v47, f48, w49, g50⟩ := u
                  obtain ⟨kV_v47, kF_f48, hIv47, hCf48, hRf48, hk0_v47, hk1_v47, hk2_v47, hk3_v47, hk4_v47, hk5_v47, hk8_v47, hk9_v47, hk10_v47, hk13_v47, hk14_v47, hk15_v47, hk17_v47, hk18_v47, hk24_v47, hk25_v47, hk35_v47, hk36_v47, hk38_v47, hk39_v47⟩ := hw
                  have hM_v47 : KV [] v47 v := KV.tr kV_v47 hM_v34 rfl
                  have hA_f48 : KF [7, 8, 24] f48 f := KF.tr kF_f48 hA_f35 rfl
                  have hP : va_P (dC, dI) vwCl (YW cy y0 r v47 f48 w49 g50) H := hP
                  have hD : va_D A (YW cy y0 r v47 f48 w49 g50) := hD
                  have hUv47 : (v47 35).toInt + (v47 36).toInt ≤ 40 := hIv47.2
                  have hq0_v47 : v47 0 = (v 0) := hk0_v47.trans hq0_v34
                  have hq1_v47 : v47 1 = (v 1) := hk1_v47.trans hq1_v34
                  have hq2_v47 : v47 2 = (v 2) := hk2_v47.trans hq2_v34
                  have hq3_v47 : v47 3 = (v 3) := hk3_v47.trans hq3_v34
                  have hq4_v47 : v47 4 = (v 4) := hk4_v47.trans hq4_v34
                  have hq5_v47 : v47 5 = (v 5) := hk5_v47.trans hq5_v34
                  have hq8_v47 : v47 8 = (v 8) := hk8_v47.trans hq8_v34
                  have hq9_v47 : v47 9 = (v 9) := hk9_v47.trans hq9_v34
                  have zq9_v47 := congrArg Int32.toInt hq9_v47
                  have hq10_v47 : v47 10 = (v 10) := hk10_v47.trans hq10_v34
                  have hq13_v47 : v47 13 = (v 13) := hk13_v47.trans hq13_v34
                  have hq14_v47 : v47 14 = (v 14) := hk14_v47.trans hq14_v34
                  have hq15_v47 : v47 15 = (v 15) := hk15_v47.trans hq15_v34
                  have hq17_v47 : v47 17 = (v 17) := hk17_v47.trans hq17_v34
                  have hq18_v47 : v47 18 = (v 18) := hk18_v47.trans hq18_v34
                  have hq24_v47 : v47 24 = (v 24) := hk24_v47.trans hq24_v34
                  have hq25_v47 : v47 25 = (v 25) := hk25_v47.trans hq25_v34
                  have hq35_v47 : v47 35 = (v 35) := hk35_v47.trans hq35_v34
                  have hq36_v47 : v47 36 = (v 36) := hk36_v47.trans hq36_v34
                  have hq38_v47 : v47 38 = (v 38) := hk38_v47.trans hq38_v34
                  have hq39_v47 : v47 39 = (v 39) := hk39_v47.trans hq39_v34
                  refine lv_pop hx hb dX11_will_64 rfl ?_
                  obtain ⟨t51, et51⟩ : ∃ y : Int32, y = l4_16 + 1 := ⟨_, rfl⟩
                  have zt51 : t51.toInt = l4_16.toInt + 1 := by rw [et51]; exact add_i rfl (by decide) (by omega) (by omega)
                  refine lv_iinc (v := t51) (lv' := [(4, .int t51), (0, .ref y0), (1, .int p1), (2, .int p2), (3, .int p3)]) hx hb dX11_will_65 hl (k := 0) rfl (by rw [et51]; rfl) (by decide) rfl (fun ls hl => ?_)
                  refine lv_goto (tgt := 37) hx hb dX11_will_68 rfl ?_
                  have rg52 := fb_rng t51
                  exact ih16 t51 v47 f48 w49 g50 hIv47 hCf48 hRf48 hq0_v47 hq1_v47 hq2_v47 hq3_v47 hq4_v47 hq5_v47 hq8_v47 hq9_v47 hq10_v47 hq13_v47 hq14_v47 hq15_v47 hq17_v47 hq18_v47 hq24_v47 hq25_v47 hq35_v47 hq36_v47 hq38_v47 hq39_v47 ⟨show (0 : Int) ≤ t51.toInt by omega, show t51.toInt ≤ (2147483647 : Int) by omega⟩ hM_v47 hA_f48 (by show (2147483647 - t51.toInt).toNat < n16; omega) _ _ _ hP hD hS (lv_sub hl [0, 1, 2, 3, 4] rfl)
        exact lp16 _ 0 v12 f13 w14 g15 hIv12 hCf13 hRf13 hq0_v12 hq1_v12 hq2_v12 hq3_v12 hq4_v12 hq5_v12 hq8_v12 hq9_v12 hq10_v12 hq13_v12 hq14_v12 hq15_v12 hq17_v12 hq18_v12 hq24_v12 hq25_v12 hq35_v12 hq36_v12 hq38_v12 hq39_v12 ⟨by decide, by decide⟩ hM_v12 hA_f13 (Nat.lt_succ_self _) _ _ _ hP hD hS (lv_sub hl [0, 1, 2, 3, 4] rfl)
      · skip
        subst g11
        refine lv_if_ne (tgt := 30) hx hb dX11_will_24 rfl (fun c0 => absurd (by decide) c0) (fun _ => ?_)
        refine lv_bipush (v := (-2)) hx hb dX11_will_27 rfl ?_
        exact ret (-2) (v, f, w, g) _ _ _ _ _ _ rfl ⟨hM_v, hA_f, hIv, hCf, hRf, rfl, rfl, rfl, rfl, rfl, rfl, rfl, rfl, rfl, rfl, rfl, rfl, rfl, rfl, rfl, rfl, rfl, rfl, rfl, rfl⟩ hP hD hS dX11_will_29 (Nat.le_refl _) (Nat.le_refl _)
    · skip
      subst g7
      refine lv_if_eq (tgt := 27) hx hb dX11_will_15 rfl (fun _ => ?_) (fun c0 => absurd (by decide) c0)
      refine lv_bipush (v := (-2)) hx hb dX11_will_27 rfl ?_
      exact ret (-2) (v, f, w, g) _ _ _ _ _ _ rfl ⟨hM_v, hA_f, hIv, hCf, hRf, rfl, rfl, rfl, rfl, rfl, rfl, rfl, rfl, rfl, rfl, rfl, rfl, rfl, rfl, rfl, rfl, rfl, rfl, rfl, rfl⟩ hP hD hS dX11_will_29 (Nat.le_refl _) (Nat.le_refl _)
  · skip
    subst g2
    refine lv_if_eq (tgt := 27) hx hb dX11_will_5 rfl (fun _ => ?_) (fun c0 => absurd (by decide) c0)
    refine lv_bipush (v := (-2)) hx hb dX11_will_27 rfl ?_
    exact ret (-2) (v, f, w, g) _ _ _ _ _ _ rfl ⟨hM_v, hA_f, hIv, hCf, hRf, rfl, rfl, rfl, rfl, rfl, rfl, rfl, rfl, rfl, rfl, rfl, rfl, rfl, rfl, rfl, rfl, rfl, rfl, rfl, rfl⟩ hP hD hS dX11_will_29 (Nat.le_refl _) (Nat.le_refl _)
set_option maxHeartbeats 4000000 in
set_option maxRecDepth 100000 in
theorem sY_X11_out_1 (l : Launch) (dC : Nat → ClassId) (dI : Nat → Nat → Nat) (cy : Nat → ClassId) (y0 : Nat) (r : Nat → Nat) (p1 : Int32) (v : Nat → Int32) (f : Nat → Nat → Int32) (w : Int64) (g : Nat → Int64) (hIv : YI v) (hCf : YC f) (hRf : progOK (f 4) (f 5) (v 9).toInt.toNat)  : ctI l (dC, dI) cy yX11_out cX11_out 3 .int 8 214 0 0 ((Nat → Int32) × (Nat → Nat → Int32) × (Int64) × (Nat → Int64)) [.ref y0, .int p1] (YW cy y0 r v f w g) (fun r u => KV [] u.1 v ∧ KF [7, 8, 24] u.2.1 f ∧ YI u.1 ∧ YC u.2.1 ∧ progOK (u.2.1 4) (u.2.1 5) (u.1 9).toInt.toNat ∧ u.1 0 = v 0 ∧ u.1 1 = v 1 ∧ u.1 2 = v 2 ∧ u.1 3 = v 3 ∧ u.1 4 = v 4 ∧ u.1 5 = v 5 ∧ u.1 8 = v 8 ∧ u.1 9 = v 9 ∧ u.1 10 = v 10 ∧ u.1 13 = v 13 ∧ u.1 14 = v 14 ∧ u.1 15 = v 15 ∧ u.1 17 = v 17 ∧ u.1 18 = v 18 ∧ u.1 24 = v 24 ∧ u.1 25 = v 25 ∧ u.1 35 = v 35 ∧ u.1 36 = v 36 ∧ u.1 38 = v 38 ∧ u.1 39 = v 39) (fun u => YW cy y0 r u.1 u.2.1 u.2.2.1 u.2.2.2) := by
  refine ctI_of (by decide) (Nat.le_of_ble_eq_true rfl) (fun p e s m below meth c A ls Q hx hb hml hts hown hE hP hD hA hl ret => ?_)
  have hUv : (v 35).toInt + (v 36).toInt ≤ 40 := hIv.2
  have hM_v : KV [] v v := fun _ _ => rfl
  have hA_f : KF [7, 8, 24] f f := fun _ _ => rfl
  have hown : s.vm.findClass RX11 = some m.cls := hown
  have hS : va_S A s.heap s.heap [] := va_S.rf
  have hl : lv_has ls 3 [(0, .ref y0), (1, .int p1)] := hl
  refine lv_aload_n hx hb dX11_out_0 rfl (lv_at hl 0 rfl) ?_
  refine lv_iload_n hx hb dX11_out_1 rfl (lv_at hl 1 rfl) ?_
  refine cbVi (n := 1) (rest := []) hx hb hml hown hts hE hP hD hS hA (sY_X11_isMan_1 l dC dI cy y0 r p1 v f w g hIv hCf hRf ) k_1732 k_1734 k_70 k_114 k_1735 (by decide +kernel) ⟨Nat.le_of_ble_eq_true rfl, Nat.le_of_ble_eq_true rfl⟩ 0 11 rfl rfl (rfl) hl.1 rfl (Nat.le_of_ble_eq_true rfl) dX11_out_2 (fun r1 u H locs hw hP hD hS => ?_)
  rcases hw with ⟨g2, g2_0, g2_1, g2_2⟩ | ⟨g2⟩
  · skip
    subst g2
    refine lv_if_ne (tgt := 10) hx hb dX11_out_5 rfl (fun _ => ?_) (fun c0 => absurd c0 (by decide))
    refine lv_aload_n hx hb dX11_out_10 rfl (lv_at hl 0 rfl) ?_
    refine cbVv (n := 0) (rest := []) hx hb hml hown hts hE hP hD hS hA (sY_X11_fill_1 l dC dI cy y0 r  v f w g hIv hCf hRf ) k_1739 k_1741 k_71 k_114 k_1742 (by decide +kernel) ⟨Nat.le_of_ble_eq_true rfl, Nat.le_of_ble_eq_true rfl⟩ 0 11 rfl rfl (rfl) hl.1 rfl (Nat.le_of_ble_eq_true rfl) dX11_out_11 (fun u H locs hw hP hD hS => ?_)
    obtain ⟨v3, f4, w5, g6⟩ := u
    obtain ⟨kV_v3, kF_f4, hIv3, hCf4, hRf4, hk0_v3, hk1_v3, hk2_v3, hk3_v3, hk4_v3, hk5_v3, hk8_v3, hk9_v3, hk10_v3, hk13_v3, hk14_v3, hk15_v3, hk17_v3, hk18_v3, hk24_v3, hk25_v3, hk35_v3, hk36_v3, hk38_v3, hk39_v3⟩ := hw
    have hM_v3 : KV [] v3 v := KV.tr kV_v3 hM_v rfl
    have hA_f4 : KF [7, 8, 24] f4 f := KF.tr kF_f4 hA_f rfl
    have hP : va_P (dC, dI) vwCl (YW cy y0 r v3 f4 w5 g6) H := hP
    have hD : va_D A (YW cy y0 r v3 f4 w5 g6) := hD
    have hUv3 : (v3 35).toInt + (v3 36).toInt ≤ 40 := hIv3.2
    have hq0_v3 : v3 0 = (v 0) := hk0_v3
    have hq1_v3 : v3 1 = (v 1) := hk1_v3
    have hq2_v3 : v3 2 = (v 2) := hk2_v3
    have hq3_v3 : v3 3 = (v 3) := hk3_v3
    have hq4_v3 : v3 4 = (v 4) := hk4_v3
    have hq5_v3 : v3 5 = (v 5) := hk5_v3
    have hq8_v3 : v3 8 = (v 8) := hk8_v3
    have hq9_v3 : v3 9 = (v 9) := hk9_v3
    have zq9_v3 := congrArg Int32.toInt hq9_v3
    have hq10_v3 : v3 10 = (v 10) := hk10_v3
    have hq13_v3 : v3 13 = (v 13) := hk13_v3
    have hq14_v3 : v3 14 = (v 14) := hk14_v3
    have hq15_v3 : v3 15 = (v 15) := hk15_v3
    have hq17_v3 : v3 17 = (v 17) := hk17_v3
    have hq18_v3 : v3 18 = (v 18) := hk18_v3
    have hq24_v3 : v3 24 = (v 24) := hk24_v3
    have hq25_v3 : v3 25 = (v 25) := hk25_v3
    have hq35_v3 : v3 35 = (v 35) := hk35_v3
    have hq36_v3 : v3 36 = (v 36) := hk36_v3
    have hq38_v3 : v3 38 = (v 38) := hk38_v3
    have hq39_v3 : v3 39 = (v 39) := hk39_v3
    refine lv_iconst (v := 0) hx hb dX11_out_14 rfl ?_
    refine lv_istore_n (lv' := [(2, .int 0), (0, .ref y0), (1, .int p1)]) hx hb dX11_out_15 rfl hl (Nat.le_of_ble_eq_true rfl) rfl (fun ls hl => ?_)
    have lp7 : ∀ (n7 : Nat) (l2_7 : Int32) (v7 : Nat → Int32) (f7 : Nat → Nat → Int32) (w7 : Int64) (g7 : Nat → Int64), YI v7 → YC f7 → progOK (f7 4) (f7 5) (v7 9).toInt.toNat → v7 0 = (v 0) → v7 1 = (v 1) → v7 2 = (v 2) → v7 3 = (v 3) → v7 4 = (v 4) → v7 5 = (v 5) → v7 8 = (v 8) → v7 9 = (v 9) → v7 10 = (v 10) → v7 13 = (v 13) → v7 14 = (v 14) → v7 15 = (v 15) → v7 17 = (v 17) → v7 18 = (v 18) → v7 24 = (v 24) → v7 25 = (v 25) → v7 35 = (v 35) → v7 36 = (v 36) → v7 38 = (v 38) → v7 39 = (v 39) → ((0 : Int) ≤ l2_7.toInt ∧ l2_7.toInt ≤ 2147483647) → KV [] v7 v → KF [7, 8, 24] f7 f → (2147483647 - l2_7.toInt).toNat < n7 → ∀ (H : Heap) (locs : List Loc) (ls : Array Slot), va_P (dC, dI) vwCl (YW cy y0 r v7 f7 w7 g7) H → va_D A (YW cy y0 r v7 f7 w7 g7) → va_S A s.heap H locs → lv_has ls 3 [(2, .int l2_7), (0, .ref y0), (1, .int p1)] → W p l e { frames := 8, cells := 0, slots := 0, locals := 214 } s m ([.ref y0, .int p1] : List Value).toArray below meth c H locs 0 0 Q (F0 m 16 ls []) := by
      intro n7
      induction n7 with
      | zero => intro l2_7 v7 f7 w7 g7 hIv7 hCf7 hRf7 hq0_v7 hq1_v7 hq2_v7 hq3_v7 hq4_v7 hq5_v7 hq8_v7 hq9_v7 hq10_v7 hq13_v7 hq14_v7 hq15_v7 hq17_v7 hq18_v7 hq24_v7 hq25_v7 hq35_v7 hq36_v7 hq38_v7 hq39_v7 hr2_7 hM_v7 hA_f7 hm; exact absurd hm (Nat.not_lt_zero _)
      | succ n7 ih7 =>
        intro l2_7 v7 f7 w7 g7 hIv7 hCf7 hRf7 hq0_v7 hq1_v7 hq2_v7 hq3_v7 hq4_v7 hq5_v7 hq8_v7 hq9_v7 hq10_v7 hq13_v7 hq14_v7 hq15_v7 hq17_v7 hq18_v7 hq24_v7 hq25_v7 hq35_v7 hq36_v7 hq38_v7 hq39_v7 hr2_7 hM_v7 hA_f7 hm7 H locs ls hP hD hS hl
        have hUv7 : (v7 35).toInt + (v7 36).toInt ≤ 40 := hIv7.2
        have zq9_v7 := congrArg Int32.toInt hq9_v7
        refine lv_iload_n hx hb dX11_out_16 rfl (lv_at hl 0 rfl) ?_
        refine lv_bipush (v := 60) hx hb dX11_out_17 rfl ?_
        refine lv_icmp_gt (tgt := 48) hx hb dX11_out_19 rfl (fun c8 => ?_) (fun c8 => ?_)
        · skip
          have zc8 : 60 < l2_7.toInt := by rw [fa_lt, show (60 : Int32).toInt = 60 from by decide] at c8; exact c8
          refine lv_iconst (v := (-1)) hx hb dX11_out_48 rfl ?_
          exact ret (-1) (v7, f7, w7, g7) _ _ _ _ _ _ rfl ⟨hM_v7, hA_f7, hIv7, hCf7, hRf7, hq0_v7, hq1_v7, hq2_v7, hq3_v7, hq4_v7, hq5_v7, hq8_v7, hq9_v7, hq10_v7, hq13_v7, hq14_v7, hq15_v7, hq17_v7, hq18_v7, hq24_v7, hq25_v7, hq35_v7, hq36_v7, hq38_v7, hq39_v7⟩ hP hD hS dX11_out_49 (Nat.le_refl _) (Nat.le_refl _)
        · skip
          have zc8 : ¬ (60 < l2_7.toInt) := by rw [fa_lt, show (60 : Int32).toInt = 60 from by decide] at c8; exact c8
          refine lv_aload_n hx hb dX11_out_22 rfl (lv_at hl 1 rfl) ?_
          refine va_get (D := (dC, dI)) (ci := 11) (v := .ref (r 60)) (C := RX11) (T := TX11) (N := 79) hx hb hts inB_11 hown hE.1 hP 0 rfl rfl 60 (Nat.le_of_ble_eq_true rfl) (hts _ k_1380) (fun _ h9 => h9) rfl dX11_out_23 ?_
          refine lv_bipush (v := 6) hx hb dX11_out_26 rfl ?_
          refine lv_iload_n hx hb dX11_out_28 rfl (lv_at hl 2 rfl) ?_
          refine lv_iadd hx hb dX11_out_29 ?_
          refine lv_topi (fun t9 et9 => ?_)
          have rg10 := fb_rng p1
          have zt9 : t9.toInt = 6 + p1.toInt := by rw [et9]; exact add_i (by decide) rfl (by omega) (by omega)
          refine ldI hx hb hE hP 25 rfl (vp_in_iff.mpr ⟨by omega, by omega⟩) rfl rfl dX11_out_30 ?_
          refine lv_topi (fun t11 et11 => ?_)
          have zt11 : t9.toInt.toNat % 39 < 6 ∨ 12 ≤ t9.toInt.toNat % 39 ∨ (-1 ≤ t11.toInt ∧ t11.toInt ≤ 5) := by rw [et11]; exact wear_ld hCf7.2.1 (show t9.toInt.toNat < 39 by omega)
          refine lv_if_ge (tgt := 36) hx hb dX11_out_31 rfl (fun c12 => ?_) (fun c12 => ?_)
          · skip
            have zc12 : 0 ≤ t11.toInt := by rw [fa_le, show (0 : Int32).toInt = 0 from by decide] at c12; exact c12
            refine lv_aload_n hx hb dX11_out_36 rfl (lv_at hl 1 rfl) ?_
            refine lv_iconst (v := 0) hx hb dX11_out_37 rfl ?_
            refine cbVi (n := 1) (rest := []) hx hb hml hown hts hE hP hD hS hA (sY_X11_goDay_1 l dC dI cy y0 r 0 v7 f7 w7 g7 hIv7 hCf7 hRf7 ) k_1795 k_1797 k_79 k_114 k_1798 (by decide +kernel) ⟨Nat.le_of_ble_eq_true rfl, Nat.le_of_ble_eq_true rfl⟩ 0 11 rfl rfl (rfl) hl.1 rfl (Nat.le_of_ble_eq_true rfl) dX11_out_38 (fun r13 u H locs hw hP hD hS => ?_)
            obtain ⟨v14, f15, w16, g17⟩ := u
            obtain ⟨kV_v14, kF_f15, hIv14, hCf15, hRf15, hk0_v14, hk1_v14, hk2_v14, hk3_v14, hk4_v14, hk5_v14, hk8_v14, hk9_v14, hk10_v14, hk13_v14, hk14_v14, hk15_v14, hk17_v14, hk18_v14, hk24_v14, hk25_v14, hk35_v14, hk36_v14, hk38_v14, hk39_v14⟩ := hw
            have hM_v14 : KV [] v14 v := KV.tr kV_v14 hM_v7 rfl
            have hA_f15 : KF [7, 8, 24] f15 f := KF.tr kF_f15 hA_f7 rfl
            have hP : va_P (dC, dI) vwCl (YW cy y0 r v14 f15 w16 g17) H := hP
            have hD : va_D A (YW cy y0 r v14 f15 w16 g17) := hD
            have hUv14 : (v14 35).toInt + (v14 36).toInt ≤ 40 := hIv14.2
            have hq0_v14 : v14 0 = (v 0) := hk0_v14.trans hq0_v7
            have hq1_v14 : v14 1 = (v 1) := hk1_v14.trans hq1_v7
            have hq2_v14 : v14 2 = (v 2) := hk2_v14.trans hq2_v7
            have hq3_v14 : v14 3 = (v 3) := hk3_v14.trans hq3_v7
            have hq4_v14 : v14 4 = (v 4) := hk4_v14.trans hq4_v7
            have hq5_v14 : v14 5 = (v 5) := hk5_v14.trans hq5_v7
            have hq8_v14 : v14 8 = (v 8) := hk8_v14.trans hq8_v7
            have hq9_v14 : v14 9 = (v 9) := hk9_v14.trans hq9_v7
            have zq9_v14 := congrArg Int32.toInt hq9_v14
            have hq10_v14 : v14 10 = (v 10) := hk10_v14.trans hq10_v7
            have hq13_v14 : v14 13 = (v 13) := hk13_v14.trans hq13_v7
            have hq14_v14 : v14 14 = (v 14) := hk14_v14.trans hq14_v7
            have hq15_v14 : v14 15 = (v 15) := hk15_v14.trans hq15_v7
            have hq17_v14 : v14 17 = (v 17) := hk17_v14.trans hq17_v7
            have hq18_v14 : v14 18 = (v 18) := hk18_v14.trans hq18_v7
            have hq24_v14 : v14 24 = (v 24) := hk24_v14.trans hq24_v7
            have hq25_v14 : v14 25 = (v 25) := hk25_v14.trans hq25_v7
            have hq35_v14 : v14 35 = (v 35) := hk35_v14.trans hq35_v7
            have hq36_v14 : v14 36 = (v 36) := hk36_v14.trans hq36_v7
            have hq38_v14 : v14 38 = (v 38) := hk38_v14.trans hq38_v7
            have hq39_v14 : v14 39 = (v 39) := hk39_v14.trans hq39_v7
            refine lv_pop hx hb dX11_out_41 rfl ?_
            obtain ⟨t18, et18⟩ : ∃ y : Int32, y = l2_7 + 1 := ⟨_, rfl⟩
            have rg19 := fb_rng l2_7
            have zt18 : t18.toInt = l2_7.toInt + 1 := by rw [et18]; exact add_i rfl (by decide) (by omega) (by omega)
            refine lv_iinc (v := t18) (lv' := [(2, .int t18), (0, .ref y0), (1, .int p1)]) hx hb dX11_out_42 hl (k := 0) rfl (by rw [et18]; rfl) (by decide) rfl (fun ls hl => ?_)
            refine lv_goto (tgt := 16) hx hb dX11_out_45 rfl ?_
            have rg20 := fb_rng t18
            exact ih7 t18 v14 f15 w16 g17 hIv14 hCf15 hRf15 hq0_v14 hq1_v14 hq2_v14 hq3_v14 hq4_v14 hq5_v14 hq8_v14 hq9_v14 hq10_v14 hq13_v14 hq14_v14 hq15_v14 hq17_v14 hq18_v14 hq24_v14 hq25_v14 hq35_v14 hq36_v14 hq38_v14 hq39_v14 ⟨show (0 : Int) ≤ t18.toInt by omega, show t18.toInt ≤ (2147483647 : Int) by omega⟩ hM_v14 hA_f15 (by show (2147483647 - t18.toInt).toNat < n7; omega) _ _ _ hP hD hS (lv_sub hl [0, 1, 2] rfl)
          · skip
            have zc12 : ¬ (0 ≤ t11.toInt) := by rw [fa_le, show (0 : Int32).toInt = 0 from by decide] at c12; exact c12
            refine lv_iload_n hx hb dX11_out_34 rfl (lv_at hl 0 rfl) ?_
            exact ret l2_7 (v7, f7, w7, g7) _ _ _ _ _ _ rfl ⟨hM_v7, hA_f7, hIv7, hCf7, hRf7, hq0_v7, hq1_v7, hq2_v7, hq3_v7, hq4_v7, hq5_v7, hq8_v7, hq9_v7, hq10_v7, hq13_v7, hq14_v7, hq15_v7, hq17_v7, hq18_v7, hq24_v7, hq25_v7, hq35_v7, hq36_v7, hq38_v7, hq39_v7⟩ hP hD hS dX11_out_35 (Nat.le_refl _) (Nat.le_refl _)
    exact lp7 _ 0 v3 f4 w5 g6 hIv3 hCf4 hRf4 hq0_v3 hq1_v3 hq2_v3 hq3_v3 hq4_v3 hq5_v3 hq8_v3 hq9_v3 hq10_v3 hq13_v3 hq14_v3 hq15_v3 hq17_v3 hq18_v3 hq24_v3 hq25_v3 hq35_v3 hq36_v3 hq38_v3 hq39_v3 ⟨by decide, by decide⟩ hM_v3 hA_f4 (Nat.lt_succ_self _) _ _ _ hP hD hS (lv_sub hl [0, 1, 2] rfl)
  · skip
    subst g2
    refine lv_if_ne (tgt := 10) hx hb dX11_out_5 rfl (fun c0 => absurd (by decide) c0) (fun _ => ?_)
    refine lv_iconst (v := (-1)) hx hb dX11_out_8 rfl ?_
    exact ret (-1) (v, f, w, g) _ _ _ _ _ _ rfl ⟨hM_v, hA_f, hIv, hCf, hRf, rfl, rfl, rfl, rfl, rfl, rfl, rfl, rfl, rfl, rfl, rfl, rfl, rfl, rfl, rfl, rfl, rfl, rfl, rfl, rfl⟩ hP hD hS dX11_out_9 (Nat.le_refl _) (Nat.le_refl _)
set_option maxHeartbeats 4000000 in
set_option maxRecDepth 100000 in
theorem sY_X11_fitted_1 (l : Launch) (dC : Nat → ClassId) (dI : Nat → Nat → Nat) (cy : Nat → ClassId) (y0 : Nat) (r : Nat → Nat)  (v : Nat → Int32) (f : Nat → Nat → Int32) (w : Int64) (g : Nat → Int64) (hIv : YI v) (hCf : YC f) (hRf : progOK (f 4) (f 5) (v 9).toInt.toNat)  : ctI l (dC, dI) cy yX11_fitted cX11_fitted 1 .int 7 191 0 0 ((Nat → Int32) × (Nat → Nat → Int32) × (Int64) × (Nat → Int64)) [.ref y0] (YW cy y0 r v f w g) (fun r u => KV [] u.1 v ∧ KF [7, 8, 24] u.2.1 f ∧ YI u.1 ∧ YC u.2.1 ∧ progOK (u.2.1 4) (u.2.1 5) (u.1 9).toInt.toNat ∧ u.1 0 = v 0 ∧ u.1 1 = v 1 ∧ u.1 2 = v 2 ∧ u.1 3 = v 3 ∧ u.1 4 = v 4 ∧ u.1 5 = v 5 ∧ u.1 8 = v 8 ∧ u.1 9 = v 9 ∧ u.1 10 = v 10 ∧ u.1 13 = v 13 ∧ u.1 14 = v 14 ∧ u.1 15 = v 15 ∧ u.1 17 = v 17 ∧ u.1 18 = v 18 ∧ u.1 24 = v 24 ∧ u.1 25 = v 25 ∧ u.1 35 = v 35 ∧ u.1 36 = v 36 ∧ u.1 38 = v 38 ∧ u.1 39 = v 39) (fun u => YW cy y0 r u.1 u.2.1 u.2.2.1 u.2.2.2) := by
  refine ctI_of (by decide) (Nat.le_of_ble_eq_true rfl) (fun p e s m below meth c A ls Q hx hb hml hts hown hE hP hD hA hl ret => ?_)
  have hUv : (v 35).toInt + (v 36).toInt ≤ 40 := hIv.2
  have hM_v : KV [] v v := fun _ _ => rfl
  have hA_f : KF [7, 8, 24] f f := fun _ _ => rfl
  have hown : s.vm.findClass RX11 = some m.cls := hown
  have hS : va_S A s.heap s.heap [] := va_S.rf
  have hl : lv_has ls 1 [(0, .ref y0)] := hl
  refine lv_aload_n hx hb dX11_fitted_0 rfl (lv_at hl 0 rfl) ?_
  refine cbVv (n := 0) (rest := []) hx hb hml hown hts hE hP hD hS hA (sY_X11_fill_1 l dC dI cy y0 r  v f w g hIv hCf hRf ) k_1739 k_1741 k_71 k_114 k_1742 (by decide +kernel) ⟨Nat.le_of_ble_eq_true rfl, Nat.le_of_ble_eq_true rfl⟩ 0 11 rfl rfl (rfl) hl.1 rfl (Nat.le_of_ble_eq_true rfl) dX11_fitted_1 (fun u H locs hw hP hD hS => ?_)
  obtain ⟨v1, f2, w3, g4⟩ := u
  obtain ⟨kV_v1, kF_f2, hIv1, hCf2, hRf2, hk0_v1, hk1_v1, hk2_v1, hk3_v1, hk4_v1, hk5_v1, hk8_v1, hk9_v1, hk10_v1, hk13_v1, hk14_v1, hk15_v1, hk17_v1, hk18_v1, hk24_v1, hk25_v1, hk35_v1, hk36_v1, hk38_v1, hk39_v1⟩ := hw
  have hM_v1 : KV [] v1 v := KV.tr kV_v1 hM_v rfl
  have hA_f2 : KF [7, 8, 24] f2 f := KF.tr kF_f2 hA_f rfl
  have hP : va_P (dC, dI) vwCl (YW cy y0 r v1 f2 w3 g4) H := hP
  have hD : va_D A (YW cy y0 r v1 f2 w3 g4) := hD
  have hUv1 : (v1 35).toInt + (v1 36).toInt ≤ 40 := hIv1.2
  have hq9_v1 : v1 9 = (v 9) := hk9_v1
  have zq9_v1 := congrArg Int32.toInt hq9_v1
  refine lv_aload_n hx hb dX11_fitted_4 rfl (lv_at hl 0 rfl) ?_
  refine cbVi (n := 0) (rest := []) hx hb hml hown hts hE hP hD hS hA (sY_X11_fittedOnes_1 l dC dI cy y0 r  v1 f2 w3 g4 hIv1 hCf2 hRf2 ) k_1809 k_1811 k_81 k_114 k_1812 (by decide +kernel) ⟨Nat.le_of_ble_eq_true rfl, Nat.le_of_ble_eq_true rfl⟩ 0 11 rfl rfl (rfl) hl.1 rfl (Nat.le_of_ble_eq_true rfl) dX11_fitted_5 (fun r5 u H locs hw hP hD hS => ?_)
  obtain ⟨v6, f7, w8, g9⟩ := u
  obtain ⟨kV_v6, kF_f7, hIv6, hCf7, hRf7, hk0_v6, hk1_v6, hk2_v6, hk3_v6, hk4_v6, hk5_v6, hk8_v6, hk9_v6, hk10_v6, hk13_v6, hk14_v6, hk15_v6, hk17_v6, hk18_v6, hk24_v6, hk25_v6, hk35_v6, hk36_v6, hk38_v6, hk39_v6⟩ := hw
  have hM_v6 : KV [] v6 v := KV.tr kV_v6 hM_v1 rfl
  have hA_f7 : KF [7, 8, 24] f7 f := KF.tr kF_f7 hA_f2 rfl
  have hP : va_P (dC, dI) vwCl (YW cy y0 r v6 f7 w8 g9) H := hP
  have hD : va_D A (YW cy y0 r v6 f7 w8 g9) := hD
  have hUv6 : (v6 35).toInt + (v6 36).toInt ≤ 40 := hIv6.2
  have hq9_v6 : v6 9 = (v 9) := hk9_v6.trans hq9_v1
  have zq9_v6 := congrArg Int32.toInt hq9_v6
  exact ret r5 (v6, f7, w8, g9) _ _ _ _ _ _ rfl ⟨hM_v6, hA_f7, hIv6, hCf7, hRf7, (hk0_v6.trans hk0_v1), (hk1_v6.trans hk1_v1), (hk2_v6.trans hk2_v1), (hk3_v6.trans hk3_v1), (hk4_v6.trans hk4_v1), (hk5_v6.trans hk5_v1), (hk8_v6.trans hk8_v1), (hk9_v6.trans hk9_v1), (hk10_v6.trans hk10_v1), (hk13_v6.trans hk13_v1), (hk14_v6.trans hk14_v1), (hk15_v6.trans hk15_v1), (hk17_v6.trans hk17_v1), (hk18_v6.trans hk18_v1), (hk24_v6.trans hk24_v1), (hk25_v6.trans hk25_v1), (hk35_v6.trans hk35_v1), (hk36_v6.trans hk36_v1), (hk38_v6.trans hk38_v1), (hk39_v6.trans hk39_v1)⟩ hP hD hS dX11_fitted_8 (Nat.le_refl _) (Nat.le_refl _)
set_option maxHeartbeats 4000000 in
set_option maxRecDepth 100000 in
theorem sY_X11_layIlls_1 (l : Launch) (dC : Nat → ClassId) (dI : Nat → Nat → Nat) (cy : Nat → ClassId) (y0 : Nat) (r : Nat → Nat)  (v : Nat → Int32) (f : Nat → Nat → Int32) (w : Int64) (g : Nat → Int64) (hIv : YI v) (hCf : YC f) (hRf : progOK (f 4) (f 5) (v 9).toInt.toNat)  : ctV l (dC, dI) cy yX11_layIlls cX11_layIlls 3 4 126 0 0 ((Nat → Int32) × (Nat → Nat → Int32) × (Int64) × (Nat → Int64)) [.ref y0] (YW cy y0 r v f w g) (fun u => KV [] u.1 v ∧ KF [7, 8, 24, 28] u.2.1 f ∧ YI u.1 ∧ YC u.2.1 ∧ progOK (u.2.1 4) (u.2.1 5) (u.1 9).toInt.toNat ∧ u.1 0 = v 0 ∧ u.1 1 = v 1 ∧ u.1 2 = v 2 ∧ u.1 3 = v 3 ∧ u.1 4 = v 4 ∧ u.1 5 = v 5 ∧ u.1 8 = v 8 ∧ u.1 9 = v 9 ∧ u.1 10 = v 10 ∧ u.1 13 = v 13 ∧ u.1 14 = v 14 ∧ u.1 15 = v 15 ∧ u.1 17 = v 17 ∧ u.1 18 = v 18 ∧ u.1 24 = v 24 ∧ u.1 25 = v 25 ∧ u.1 35 = v 35 ∧ u.1 36 = v 36 ∧ u.1 38 = v 38 ∧ u.1 39 = v 39) (fun u => YW cy y0 r u.1 u.2.1 u.2.2.1 u.2.2.2) := by
  refine ctV_of (by decide) (Nat.le_of_ble_eq_true rfl) (fun p e s m below meth c A ls Q hx hb hml hts hown hnm hE hP hD hA hl ret => ?_)
  have hUv : (v 35).toInt + (v 36).toInt ≤ 40 := hIv.2
  have hM_v : KV [] v v := fun _ _ => rfl
  have hA_f : KF [7, 8, 24, 28] f f := fun _ _ => rfl
  have hown : s.vm.findClass RX11 = some m.cls := hown
  have hS : va_S A s.heap s.heap [] := va_S.rf
  have hl : lv_has ls 3 [(0, .ref y0)] := hl
  refine lv_aload_n hx hb dX11_layIlls_0 rfl (lv_at hl 0 rfl) ?_
  refine cbVv (n := 0) (rest := []) hx hb hml hown hts hE hP hD hS hA (sY_X11_fill_1 l dC dI cy y0 r  v f w g hIv hCf hRf ) k_1739 k_1741 k_71 k_114 k_1742 (by decide +kernel) ⟨Nat.le_of_ble_eq_true rfl, Nat.le_of_ble_eq_true rfl⟩ 0 11 rfl rfl (rfl) hl.1 rfl (Nat.le_of_ble_eq_true rfl) dX11_layIlls_1 (fun u H locs hw hP hD hS => ?_)
  obtain ⟨v1, f2, w3, g4⟩ := u
  obtain ⟨kV_v1, kF_f2, hIv1, hCf2, hRf2, hk0_v1, hk1_v1, hk2_v1, hk3_v1, hk4_v1, hk5_v1, hk8_v1, hk9_v1, hk10_v1, hk13_v1, hk14_v1, hk15_v1, hk17_v1, hk18_v1, hk24_v1, hk25_v1, hk35_v1, hk36_v1, hk38_v1, hk39_v1⟩ := hw
  have hM_v1 : KV [] v1 v := KV.tr kV_v1 hM_v rfl
  have hA_f2 : KF [7, 8, 24, 28] f2 f := KF.tr kF_f2 hA_f rfl
  have hP : va_P (dC, dI) vwCl (YW cy y0 r v1 f2 w3 g4) H := hP
  have hD : va_D A (YW cy y0 r v1 f2 w3 g4) := hD
  have hUv1 : (v1 35).toInt + (v1 36).toInt ≤ 40 := hIv1.2
  have hq0_v1 : v1 0 = (v 0) := hk0_v1
  have hq1_v1 : v1 1 = (v 1) := hk1_v1
  have hq2_v1 : v1 2 = (v 2) := hk2_v1
  have hq3_v1 : v1 3 = (v 3) := hk3_v1
  have hq4_v1 : v1 4 = (v 4) := hk4_v1
  have hq5_v1 : v1 5 = (v 5) := hk5_v1
  have hq8_v1 : v1 8 = (v 8) := hk8_v1
  have hq9_v1 : v1 9 = (v 9) := hk9_v1
  have zq9_v1 := congrArg Int32.toInt hq9_v1
  have hq10_v1 : v1 10 = (v 10) := hk10_v1
  have hq13_v1 : v1 13 = (v 13) := hk13_v1
  have hq14_v1 : v1 14 = (v 14) := hk14_v1
  have hq15_v1 : v1 15 = (v 15) := hk15_v1
  have hq17_v1 : v1 17 = (v 17) := hk17_v1
  have hq18_v1 : v1 18 = (v 18) := hk18_v1
  have hq24_v1 : v1 24 = (v 24) := hk24_v1
  have hq25_v1 : v1 25 = (v 25) := hk25_v1
  have hq35_v1 : v1 35 = (v 35) := hk35_v1
  have hq36_v1 : v1 36 = (v 36) := hk36_v1
  have hq38_v1 : v1 38 = (v 38) := hk38_v1
  have hq39_v1 : v1 39 = (v 39) := hk39_v1
  refine lv_iconst (v := 0) hx hb dX11_layIlls_4 rfl ?_
  refine lv_istore_n (lv' := [(1, .int 0), (0, .ref y0)]) hx hb dX11_layIlls_5 rfl hl (Nat.le_of_ble_eq_true rfl) rfl (fun ls hl => ?_)
  have lp5 : ∀ (n5 : Nat) (l1_5 : Int32) (v5 : Nat → Int32) (f5 : Nat → Nat → Int32) (w5 : Int64) (g5 : Nat → Int64), YI v5 → YC f5 → progOK (f5 4) (f5 5) (v5 9).toInt.toNat → v5 0 = (v 0) → v5 1 = (v 1) → v5 2 = (v 2) → v5 3 = (v 3) → v5 4 = (v 4) → v5 5 = (v 5) → v5 8 = (v 8) → v5 9 = (v 9) → v5 10 = (v 10) → v5 13 = (v 13) → v5 14 = (v 14) → v5 15 = (v 15) → v5 17 = (v 17) → v5 18 = (v 18) → v5 24 = (v 24) → v5 25 = (v 25) → v5 35 = (v 35) → v5 36 = (v 36) → v5 38 = (v 38) → v5 39 = (v 39) → ((0 : Int) ≤ l1_5.toInt ∧ l1_5.toInt ≤ 2147483647) → KV [] v5 v → KF [7, 8, 24, 28] f5 f → (2147483647 - l1_5.toInt).toNat < n5 → ∀ (H : Heap) (locs : List Loc) (ls : Array Slot), va_P (dC, dI) vwCl (YW cy y0 r v5 f5 w5 g5) H → va_D A (YW cy y0 r v5 f5 w5 g5) → va_S A s.heap H locs → lv_has ls 3 [(1, .int l1_5), (0, .ref y0)] → W p l e { frames := 4, cells := 0, slots := 0, locals := 126 } s m ([.ref y0] : List Value).toArray below meth c H locs 0 0 Q (F0 m 6 ls []) := by
    intro n5
    induction n5 with
    | zero => intro l1_5 v5 f5 w5 g5 hIv5 hCf5 hRf5 hq0_v5 hq1_v5 hq2_v5 hq3_v5 hq4_v5 hq5_v5 hq8_v5 hq9_v5 hq10_v5 hq13_v5 hq14_v5 hq15_v5 hq17_v5 hq18_v5 hq24_v5 hq25_v5 hq35_v5 hq36_v5 hq38_v5 hq39_v5 hr1_5 hM_v5 hA_f5 hm; exact absurd hm (Nat.not_lt_zero _)
    | succ n5 ih5 =>
      intro l1_5 v5 f5 w5 g5 hIv5 hCf5 hRf5 hq0_v5 hq1_v5 hq2_v5 hq3_v5 hq4_v5 hq5_v5 hq8_v5 hq9_v5 hq10_v5 hq13_v5 hq14_v5 hq15_v5 hq17_v5 hq18_v5 hq24_v5 hq25_v5 hq35_v5 hq36_v5 hq38_v5 hq39_v5 hr1_5 hM_v5 hA_f5 hm5 H locs ls hP hD hS hl
      have hUv5 : (v5 35).toInt + (v5 36).toInt ≤ 40 := hIv5.2
      have zq9_v5 := congrArg Int32.toInt hq9_v5
      refine lv_iload_n hx hb dX11_layIlls_6 rfl (lv_at hl 0 rfl) ?_
      refine lv_aload_n hx hb dX11_layIlls_7 rfl (lv_at hl 1 rfl) ?_
      refine va_get (D := (dC, dI)) (ci := 11) (v := .int (v5 24)) (C := RX11) (T := TX11) (N := 79) hx hb hts inB_11 hown hE.1 hP 0 rfl rfl 48 (Nat.le_of_ble_eq_true rfl) (hts _ k_1368) (fun _ h9 => h9) rfl dX11_layIlls_8 ?_
      refine tI (y := (v 24)) hq24_v5 ?_
      have b24_v : 0 ≤ (v 24).toInt ∧ (v 24).toInt ≤ 6 := YIb.b hIv.1 24 (by decide)
      refine lv_icmp_ge (tgt := 53) hx hb dX11_layIlls_11 rfl (fun c6 => ?_) (fun c6 => ?_)
      · skip
        have zc6 : (v 24).toInt ≤ l1_5.toInt := by rw [fa_le] at c6; exact c6
        have rg7 := fb_rng l1_5
        have rg8 := fb_rng (v 24)
        exact ret (v5, f5, w5, g5) _ _ _ _ _ _ ⟨hM_v5, hA_f5, hIv5, hCf5, hRf5, hq0_v5, hq1_v5, hq2_v5, hq3_v5, hq4_v5, hq5_v5, hq8_v5, hq9_v5, hq10_v5, hq13_v5, hq14_v5, hq15_v5, hq17_v5, hq18_v5, hq24_v5, hq25_v5, hq35_v5, hq36_v5, hq38_v5, hq39_v5⟩ hP hD hS dX11_layIlls_53 (Nat.le_refl _) (Nat.le_refl _)
      · skip
        have zc6 : ¬ ((v 24).toInt ≤ l1_5.toInt) := by rw [fa_le] at c6; exact c6
        have rg9 := fb_rng l1_5
        have rg10 := fb_rng (v 24)
        refine lv_iconst (v := 0) hx hb dX11_layIlls_14 rfl ?_
        refine lv_istore_n (lv' := [(2, .int 0), (1, .int l1_5), (0, .ref y0)]) hx hb dX11_layIlls_15 rfl hl (Nat.le_of_ble_eq_true rfl) rfl (fun ls hl => ?_)
        have lp11 : ∀ (n11 : Nat) (l2_11 : Int32) (v11 : Nat → Int32) (f11 : Nat → Nat → Int32) (w11 : Int64) (g11 : Nat → Int64), YI v11 → YC f11 → progOK (f11 4) (f11 5) (v11 9).toInt.toNat → v11 0 = (v 0) → v11 1 = (v 1) → v11 2 = (v 2) → v11 3 = (v 3) → v11 4 = (v 4) → v11 5 = (v 5) → v11 8 = (v 8) → v11 9 = (v 9) → v11 10 = (v 10) → v11 13 = (v 13) → v11 14 = (v 14) → v11 15 = (v 15) → v11 17 = (v 17) → v11 18 = (v 18) → v11 24 = (v 24) → v11 25 = (v 25) → v11 35 = (v 35) → v11 36 = (v 36) → v11 38 = (v 38) → v11 39 = (v 39) → ((0 : Int) ≤ l2_11.toInt ∧ l2_11.toInt ≤ 2147483647) → KV [] v11 v → KF [7, 8, 24, 28] f11 f → (2147483647 - l2_11.toInt).toNat < n11 → ∀ (H : Heap) (locs : List Loc) (ls : Array Slot), va_P (dC, dI) vwCl (YW cy y0 r v11 f11 w11 g11) H → va_D A (YW cy y0 r v11 f11 w11 g11) → va_S A s.heap H locs → lv_has ls 3 [(2, .int l2_11), (1, .int l1_5), (0, .ref y0)] → W p l e { frames := 4, cells := 0, slots := 0, locals := 126 } s m ([.ref y0] : List Value).toArray below meth c H locs 0 0 Q (F0 m 16 ls []) := by
          intro n11
          induction n11 with
          | zero => intro l2_11 v11 f11 w11 g11 hIv11 hCf11 hRf11 hq0_v11 hq1_v11 hq2_v11 hq3_v11 hq4_v11 hq5_v11 hq8_v11 hq9_v11 hq10_v11 hq13_v11 hq14_v11 hq15_v11 hq17_v11 hq18_v11 hq24_v11 hq25_v11 hq35_v11 hq36_v11 hq38_v11 hq39_v11 hr2_11 hM_v11 hA_f11 hm; exact absurd hm (Nat.not_lt_zero _)
          | succ n11 ih11 =>
            intro l2_11 v11 f11 w11 g11 hIv11 hCf11 hRf11 hq0_v11 hq1_v11 hq2_v11 hq3_v11 hq4_v11 hq5_v11 hq8_v11 hq9_v11 hq10_v11 hq13_v11 hq14_v11 hq15_v11 hq17_v11 hq18_v11 hq24_v11 hq25_v11 hq35_v11 hq36_v11 hq38_v11 hq39_v11 hr2_11 hM_v11 hA_f11 hm11 H locs ls hP hD hS hl
            have hUv11 : (v11 35).toInt + (v11 36).toInt ≤ 40 := hIv11.2
            have zq9_v11 := congrArg Int32.toInt hq9_v11
            refine lv_iload_n hx hb dX11_layIlls_16 rfl (lv_at hl 0 rfl) ?_
            refine lv_aload_n hx hb dX11_layIlls_17 rfl (lv_at hl 2 rfl) ?_
            refine va_get (D := (dC, dI)) (ci := 11) (v := .int (v11 25)) (C := RX11) (T := TX11) (N := 79) hx hb hts inB_11 hown hE.1 hP 0 rfl rfl 49 (Nat.le_of_ble_eq_true rfl) (hts _ k_1369) (fun _ h9 => h9) rfl dX11_layIlls_18 ?_
            refine tI (y := (v 25)) hq25_v11 ?_
            have b25_v : 0 ≤ (v 25).toInt ∧ (v 25).toInt ≤ 6 := YIb.b hIv.1 25 (by decide)
            refine lv_icmp_ge (tgt := 47) hx hb dX11_layIlls_21 rfl (fun c12 => ?_) (fun c12 => ?_)
            · skip
              have zc12 : (v 25).toInt ≤ l2_11.toInt := by rw [fa_le] at c12; exact c12
              have rg13 := fb_rng l2_11
              have rg14 := fb_rng (v 25)
              obtain ⟨t15, et15⟩ : ∃ y : Int32, y = l1_5 + 1 := ⟨_, rfl⟩
              have zt15 : t15.toInt = l1_5.toInt + 1 := by rw [et15]; exact add_i rfl (by decide) (by omega) (by omega)
              refine lv_iinc (v := t15) (lv' := [(1, .int t15), (2, .int l2_11), (0, .ref y0)]) hx hb dX11_layIlls_47 hl (k := 1) rfl (by rw [et15]; rfl) (by decide) rfl (fun ls hl => ?_)
              refine lv_goto (tgt := 6) hx hb dX11_layIlls_50 rfl ?_
              have rg16 := fb_rng t15
              exact ih5 t15 v11 f11 w11 g11 hIv11 hCf11 hRf11 hq0_v11 hq1_v11 hq2_v11 hq3_v11 hq4_v11 hq5_v11 hq8_v11 hq9_v11 hq10_v11 hq13_v11 hq14_v11 hq15_v11 hq17_v11 hq18_v11 hq24_v11 hq25_v11 hq35_v11 hq36_v11 hq38_v11 hq39_v11 ⟨show (0 : Int) ≤ t15.toInt by omega, show t15.toInt ≤ (2147483647 : Int) by omega⟩ hM_v11 hA_f11 (by show (2147483647 - t15.toInt).toNat < n5; omega) _ _ _ hP hD hS (lv_sub hl [0, 2] rfl)
            · skip
              have zc12 : ¬ ((v 25).toInt ≤ l2_11.toInt) := by rw [fa_le] at c12; exact c12
              have rg17 := fb_rng l2_11
              have rg18 := fb_rng (v 25)
              refine lv_aload_n hx hb dX11_layIlls_24 rfl (lv_at hl 2 rfl) ?_
              refine va_get (D := (dC, dI)) (ci := 11) (v := .ref (r 66)) (C := RX11) (T := TX11) (N := 79) hx hb hts inB_11 hown hE.1 hP 0 rfl rfl 66 (Nat.le_of_ble_eq_true rfl) (hts _ k_1386) (fun _ h9 => h9) rfl dX11_layIlls_25 ?_
              refine lv_bipush (v := 6) hx hb dX11_layIlls_28 rfl ?_
              refine lv_iload_n hx hb dX11_layIlls_30 rfl (lv_at hl 1 rfl) ?_
              refine lv_imul hx hb dX11_layIlls_31 ?_
              refine lv_topi (fun t19 et19 => ?_)
              have zt19 : t19.toInt = 6 * l1_5.toInt := by rw [et19]; exact mul_i (by decide) rfl (by omega) (by omega)
              refine lv_iload_n hx hb dX11_layIlls_32 rfl (lv_at hl 0 rfl) ?_
              refine lv_iadd hx hb dX11_layIlls_33 ?_
              refine lv_topi (fun t20 et20 => ?_)
              have rg21 := fb_rng t19
              have zt20 : t20.toInt = t19.toInt + l2_11.toInt := by rw [et20]; exact add_i rfl rfl (by omega) (by omega)
              refine lv_aload_n hx hb dX11_layIlls_34 rfl (lv_at hl 2 rfl) ?_
              refine lv_iload_n hx hb dX11_layIlls_35 rfl (lv_at hl 1 rfl) ?_
              refine lv_iload_n hx hb dX11_layIlls_36 rfl (lv_at hl 0 rfl) ?_
              refine cbVi (n := 2) (rest := [.int t20, .ref (r 66)]) hx hb hml hown hts hE hP hD hS hA (sY_X11_misfitOf_1 l dC dI cy y0 r l1_5 l2_11 v11 f11 w11 g11 hIv11 hCf11 hRf11 ⟨show (0 : Int) ≤ l1_5.toInt by omega, show l1_5.toInt ≤ (5 : Int) by omega⟩ ⟨show (0 : Int) ≤ l2_11.toInt by omega, show l2_11.toInt ≤ (5 : Int) by omega⟩) k_1751 k_1753 k_74 k_114 k_1754 (by decide +kernel) ⟨Nat.le_of_ble_eq_true rfl, Nat.le_of_ble_eq_true rfl⟩ 0 11 rfl rfl (rfl) hl.1 rfl (Nat.le_of_ble_eq_true rfl) dX11_layIlls_37 (fun r22 u H locs hw hP hD hS => ?_)
              obtain ⟨v23, f24, w25, g26⟩ := u
              obtain ⟨kV_v23, kF_f24, hIv23, hCf24, hRf24, hk0_v23, hk1_v23, hk2_v23, hk3_v23, hk4_v23, hk5_v23, hk8_v23, hk9_v23, hk10_v23, hk13_v23, hk14_v23, hk15_v23, hk17_v23, hk18_v23, hk24_v23, hk25_v23, hk35_v23, hk36_v23, hk38_v23, hk39_v23⟩ := hw
              have hM_v23 : KV [] v23 v := KV.tr kV_v23 hM_v11 rfl
              have hA_f24 : KF [7, 8, 24, 28] f24 f := KF.tr kF_f24 hA_f11 rfl
              have hP : va_P (dC, dI) vwCl (YW cy y0 r v23 f24 w25 g26) H := hP
              have hD : va_D A (YW cy y0 r v23 f24 w25 g26) := hD
              have hUv23 : (v23 35).toInt + (v23 36).toInt ≤ 40 := hIv23.2
              have hq0_v23 : v23 0 = (v 0) := hk0_v23.trans hq0_v11
              have hq1_v23 : v23 1 = (v 1) := hk1_v23.trans hq1_v11
              have hq2_v23 : v23 2 = (v 2) := hk2_v23.trans hq2_v11
              have hq3_v23 : v23 3 = (v 3) := hk3_v23.trans hq3_v11
              have hq4_v23 : v23 4 = (v 4) := hk4_v23.trans hq4_v11
              have hq5_v23 : v23 5 = (v 5) := hk5_v23.trans hq5_v11
              have hq8_v23 : v23 8 = (v 8) := hk8_v23.trans hq8_v11
              have hq9_v23 : v23 9 = (v 9) := hk9_v23.trans hq9_v11
              have zq9_v23 := congrArg Int32.toInt hq9_v23
              have hq10_v23 : v23 10 = (v 10) := hk10_v23.trans hq10_v11
              have hq13_v23 : v23 13 = (v 13) := hk13_v23.trans hq13_v11
              have hq14_v23 : v23 14 = (v 14) := hk14_v23.trans hq14_v11
              have hq15_v23 : v23 15 = (v 15) := hk15_v23.trans hq15_v11
              have hq17_v23 : v23 17 = (v 17) := hk17_v23.trans hq17_v11
              have hq18_v23 : v23 18 = (v 18) := hk18_v23.trans hq18_v11
              have hq24_v23 : v23 24 = (v 24) := hk24_v23.trans hq24_v11
              have hq25_v23 : v23 25 = (v 25) := hk25_v23.trans hq25_v11
              have hq35_v23 : v23 35 = (v 35) := hk35_v23.trans hq35_v11
              have hq36_v23 : v23 36 = (v 36) := hk36_v23.trans hq36_v11
              have hq38_v23 : v23 38 = (v 38) := hk38_v23.trans hq38_v11
              have hq39_v23 : v23 39 = (v 39) := hk39_v23.trans hq39_v11
              refine stI hx hb hE hP hD hS 29 rfl (vp_in_iff.mpr ⟨by omega, by omega⟩) rfl dX11_layIlls_40 (fun H locs hP hD hS => ?_)
              obtain ⟨f27, ef27, hP, hD⟩ : ∃ fz9, fz9 = upd2 f24 28 (upd (f24 28) t20.toNatClampNeg r22) ∧ va_P (dC, dI) vwCl (YW cy y0 r v23 fz9 w25 g26) H ∧ va_D A (YW cy y0 r v23 fz9 w25 g26) := ⟨_, rfl, hP, hD⟩
              have hCf27 : YC f27 := by rw [ef27]; exact hCf24
              have hRf27 : progOK (f27 4) (f27 5) (v23 9).toInt.toNat := by rw [ef27]; exact hRf24
              have hA_f27 : KF [7, 8, 24, 28] f27 f := by rw [ef27]; exact KF.up hA_f24 rfl
              obtain ⟨t28, et28⟩ : ∃ y : Int32, y = l2_11 + 1 := ⟨_, rfl⟩
              have zt28 : t28.toInt = l2_11.toInt + 1 := by rw [et28]; exact add_i rfl (by decide) (by omega) (by omega)
              refine lv_iinc (v := t28) (lv' := [(2, .int t28), (1, .int l1_5), (0, .ref y0)]) hx hb dX11_layIlls_41 hl (k := 0) rfl (by rw [et28]; rfl) (by decide) rfl (fun ls hl => ?_)
              refine lv_goto (tgt := 16) hx hb dX11_layIlls_44 rfl ?_
              have rg29 := fb_rng t28
              exact ih11 t28 v23 f27 w25 g26 hIv23 hCf27 hRf27 hq0_v23 hq1_v23 hq2_v23 hq3_v23 hq4_v23 hq5_v23 hq8_v23 hq9_v23 hq10_v23 hq13_v23 hq14_v23 hq15_v23 hq17_v23 hq18_v23 hq24_v23 hq25_v23 hq35_v23 hq36_v23 hq38_v23 hq39_v23 ⟨show (0 : Int) ≤ t28.toInt by omega, show t28.toInt ≤ (2147483647 : Int) by omega⟩ hM_v23 hA_f27 (by show (2147483647 - t28.toInt).toNat < n11; omega) _ _ _ hP hD hS (lv_sub hl [0, 1, 2] rfl)
        exact lp11 _ 0 v5 f5 w5 g5 hIv5 hCf5 hRf5 hq0_v5 hq1_v5 hq2_v5 hq3_v5 hq4_v5 hq5_v5 hq8_v5 hq9_v5 hq10_v5 hq13_v5 hq14_v5 hq15_v5 hq17_v5 hq18_v5 hq24_v5 hq25_v5 hq35_v5 hq36_v5 hq38_v5 hq39_v5 ⟨by decide, by decide⟩ hM_v5 hA_f5 (Nat.lt_succ_self _) _ _ _ hP hD hS (lv_sub hl [0, 1, 2] rfl)
  exact lp5 _ 0 v1 f2 w3 g4 hIv1 hCf2 hRf2 hq0_v1 hq1_v1 hq2_v1 hq3_v1 hq4_v1 hq5_v1 hq8_v1 hq9_v1 hq10_v1 hq13_v1 hq14_v1 hq15_v1 hq17_v1 hq18_v1 hq24_v1 hq25_v1 hq35_v1 hq36_v1 hq38_v1 hq39_v1 ⟨by decide, by decide⟩ hM_v1 hA_f2 (Nat.lt_succ_self _) _ _ _ hP hD hS (lv_sub hl [0, 1] rfl)
set_option maxHeartbeats 4000000 in
set_option maxRecDepth 100000 in
theorem sY_X11_layDress_1 (l : Launch) (dC : Nat → ClassId) (dI : Nat → Nat → Nat) (cy : Nat → ClassId) (y0 : Nat) (r : Nat → Nat) (p1 : Int32) (v : Nat → Int32) (f : Nat → Nat → Int32) (w : Int64) (g : Nat → Int64) (hIv : YI v) (hCf : YC f) (hRf : progOK (f 4) (f 5) (v 9).toInt.toNat) (hp1 : (0 : Int) ≤ p1.toInt ∧ p1.toInt ≤ 2147483647) : ctI l (dC, dI) cy yX11_layDress cX11_layDress 7 .int 1 60 0 0 ((Nat → Int32) × (Nat → Nat → Int32) × (Int64) × (Nat → Int64)) [.ref y0, .int p1] (YW cy y0 r v f w g) (fun r u => KV [] u.1 v ∧ KF [27] u.2.1 f ∧ YI u.1 ∧ YC u.2.1 ∧ progOK (u.2.1 4) (u.2.1 5) (u.1 9).toInt.toNat ∧ u.1 0 = v 0 ∧ u.1 1 = v 1 ∧ u.1 2 = v 2 ∧ u.1 3 = v 3 ∧ u.1 4 = v 4 ∧ u.1 5 = v 5 ∧ u.1 8 = v 8 ∧ u.1 9 = v 9 ∧ u.1 10 = v 10 ∧ u.1 13 = v 13 ∧ u.1 14 = v 14 ∧ u.1 15 = v 15 ∧ u.1 17 = v 17 ∧ u.1 18 = v 18 ∧ u.1 24 = v 24 ∧ u.1 25 = v 25 ∧ u.1 35 = v 35 ∧ u.1 36 = v 36 ∧ u.1 38 = v 38 ∧ u.1 39 = v 39) (fun u => YW cy y0 r u.1 u.2.1 u.2.2.1 u.2.2.2) := by
  refine ctI_of (by decide) (Nat.le_of_ble_eq_true rfl) (fun p e s m below meth c A ls Q hx hb hml hts hown hE hP hD hA hl ret => ?_)
  have hUv : (v 35).toInt + (v 36).toInt ≤ 40 := hIv.2
  have hM_v : KV [] v v := fun _ _ => rfl
  have hA_f : KF [27] f f := fun _ _ => rfl
  have hown : s.vm.findClass RX11 = some m.cls := hown
  have hS : va_S A s.heap s.heap [] := va_S.rf
  have hl : lv_has ls 7 [(0, .ref y0), (1, .int p1)] := hl
  refine lv_iload_n hx hb dX11_layDress_0 rfl (lv_at hl 1 rfl) ?_
  refine lv_istore_n (lv' := [(2, .int p1), (0, .ref y0), (1, .int p1)]) hx hb dX11_layDress_1 rfl hl (Nat.le_of_ble_eq_true rfl) rfl (fun ls hl => ?_)
  refine lv_iconst (v := 0) hx hb dX11_layDress_2 rfl ?_
  refine lv_istore_n (lv' := [(3, .int 0), (2, .int p1), (0, .ref y0), (1, .int p1)]) hx hb dX11_layDress_3 rfl hl (Nat.le_of_ble_eq_true rfl) rfl (fun ls hl => ?_)
  refine lv_iconst (v := 0) hx hb dX11_layDress_4 rfl ?_
  refine lv_istore (lv' := [(4, .int 0), (3, .int 0), (2, .int p1), (0, .ref y0), (1, .int p1)]) hx hb dX11_layDress_5 hl (Nat.le_of_ble_eq_true rfl) rfl (fun ls hl => ?_)
  refine lv_aload_n hx hb dX11_layDress_7 rfl (lv_at hl 3 rfl) ?_
  refine va_get (D := (dC, dI)) (ci := 11) (v := .int (v 24)) (C := RX11) (T := TX11) (N := 79) hx hb hts inB_11 hown hE.1 hP 0 rfl rfl 48 (Nat.le_of_ble_eq_true rfl) (hts _ k_1368) (fun _ h9 => h9) rfl dX11_layDress_8 ?_
  have b24_v : 0 ≤ (v 24).toInt ∧ (v 24).toInt ≤ 6 := YIb.b hIv.1 24 (by decide)
  refine lv_iconst (v := 1) hx hb dX11_layDress_11 rfl ?_
  refine lv_isub hx hb dX11_layDress_12 ?_
  refine lv_topi (fun t1 et1 => ?_)
  have rg2 := fb_rng (v 24)
  have zt1 : t1.toInt = (v 24).toInt - 1 := by rw [et1]; exact sub_i rfl (by decide) (by omega) (by omega)
  refine lv_istore (lv' := [(5, .int t1), (4, .int 0), (3, .int 0), (2, .int p1), (0, .ref y0), (1, .int p1)]) hx hb dX11_layDress_13 hl (Nat.le_of_ble_eq_true rfl) rfl (fun ls hl => ?_)
  have lp3 : ∀ (n3 : Nat) (l2_3 : Int32) (l3_3 : Int32) (l4_3 : Int32) (l5_3 : Int32) (v3 : Nat → Int32) (f3 : Nat → Nat → Int32) (w3 : Int64) (g3 : Nat → Int64), YI v3 → YC f3 → progOK (f3 4) (f3 5) (v3 9).toInt.toNat → v3 0 = (v 0) → v3 1 = (v 1) → v3 2 = (v 2) → v3 3 = (v 3) → v3 4 = (v 4) → v3 5 = (v 5) → v3 8 = (v 8) → v3 9 = (v 9) → v3 10 = (v 10) → v3 13 = (v 13) → v3 14 = (v 14) → v3 15 = (v 15) → v3 17 = (v 17) → v3 18 = (v 18) → v3 24 = (v 24) → v3 25 = (v 25) → v3 35 = (v 35) → v3 36 = (v 36) → v3 38 = (v 38) → v3 39 = (v 39) → ((0 : Int) ≤ l2_3.toInt ∧ l2_3.toInt ≤ 2147483647) → ((-2147483648 : Int) ≤ l5_3.toInt ∧ l5_3.toInt ≤ 5) → KV [] v3 v → KF [27] f3 f → (l5_3.toInt + 2147483648).toNat < n3 → ∀ (H : Heap) (locs : List Loc) (ls : Array Slot), va_P (dC, dI) vwCl (YW cy y0 r v3 f3 w3 g3) H → va_D A (YW cy y0 r v3 f3 w3 g3) → va_S A s.heap H locs → lv_has ls 7 [(5, .int l5_3), (4, .int l4_3), (3, .int l3_3), (2, .int l2_3), (0, .ref y0), (1, .int p1)] → W p l e { frames := 1, cells := 0, slots := 0, locals := 60 } s m ([.ref y0, .int p1] : List Value).toArray below meth c H locs 0 0 Q (F0 m 15 ls []) := by
    intro n3
    induction n3 with
    | zero => intro l2_3 l3_3 l4_3 l5_3 v3 f3 w3 g3 hIv3 hCf3 hRf3 hq0_v3 hq1_v3 hq2_v3 hq3_v3 hq4_v3 hq5_v3 hq8_v3 hq9_v3 hq10_v3 hq13_v3 hq14_v3 hq15_v3 hq17_v3 hq18_v3 hq24_v3 hq25_v3 hq35_v3 hq36_v3 hq38_v3 hq39_v3 hr2_3 hr5_3 hM_v3 hA_f3 hm; exact absurd hm (Nat.not_lt_zero _)
    | succ n3 ih3 =>
      intro l2_3 l3_3 l4_3 l5_3 v3 f3 w3 g3 hIv3 hCf3 hRf3 hq0_v3 hq1_v3 hq2_v3 hq3_v3 hq4_v3 hq5_v3 hq8_v3 hq9_v3 hq10_v3 hq13_v3 hq14_v3 hq15_v3 hq17_v3 hq18_v3 hq24_v3 hq25_v3 hq35_v3 hq36_v3 hq38_v3 hq39_v3 hr2_3 hr5_3 hM_v3 hA_f3 hm3 H locs ls hP hD hS hl
      have hUv3 : (v3 35).toInt + (v3 36).toInt ≤ 40 := hIv3.2
      have zq9_v3 := congrArg Int32.toInt hq9_v3
      refine lv_iload hx hb dX11_layDress_15 (lv_at hl 0 rfl) ?_
      refine lv_if_lt (tgt := 121) hx hb dX11_layDress_17 rfl (fun c4 => ?_) (fun c4 => ?_)
      · skip
        have zc4 : l5_3.toInt < 0 := by rw [fa_lt, show (0 : Int32).toInt = 0 from by decide] at c4; exact c4
        refine lv_iload hx hb dX11_layDress_121 (lv_at hl 1 rfl) ?_
        exact ret l4_3 (v3, f3, w3, g3) _ _ _ _ _ _ rfl ⟨hM_v3, hA_f3, hIv3, hCf3, hRf3, (show v3 0 = v 0 from hq0_v3), (show v3 1 = v 1 from hq1_v3), (show v3 2 = v 2 from hq2_v3), (show v3 3 = v 3 from hq3_v3), (show v3 4 = v 4 from hq4_v3), (show v3 5 = v 5 from hq5_v3), (show v3 8 = v 8 from hq8_v3), (show v3 9 = v 9 from hq9_v3), (show v3 10 = v 10 from hq10_v3), (show v3 13 = v 13 from hq13_v3), (show v3 14 = v 14 from hq14_v3), (show v3 15 = v 15 from hq15_v3), (show v3 17 = v 17 from hq17_v3), (show v3 18 = v 18 from hq18_v3), (show v3 24 = v 24 from hq24_v3), (show v3 25 = v 25 from hq25_v3), (show v3 35 = v 35 from hq35_v3), (show v3 36 = v 36 from hq36_v3), (show v3 38 = v 38 from hq38_v3), (show v3 39 = v 39 from hq39_v3)⟩ hP hD hS dX11_layDress_123 (Nat.le_refl _) (Nat.le_refl _)
      · skip
        have zc4 : ¬ (l5_3.toInt < 0) := by rw [fa_lt, show (0 : Int32).toInt = 0 from by decide] at c4; exact c4
        refine lv_iload_n hx hb dX11_layDress_20 rfl (lv_at hl 3 rfl) ?_
        refine lv_aload_n hx hb dX11_layDress_21 rfl (lv_at hl 4 rfl) ?_
        refine va_get (D := (dC, dI)) (ci := 11) (v := .int (v3 25)) (C := RX11) (T := TX11) (N := 79) hx hb hts inB_11 hown hE.1 hP 0 rfl rfl 49 (Nat.le_of_ble_eq_true rfl) (hts _ k_1369) (fun _ h9 => h9) rfl dX11_layDress_22 ?_
        refine tI (y := (v 25)) hq25_v3 ?_
        have b25_v : 0 ≤ (v 25).toInt ∧ (v 25).toInt ≤ 6 := YIb.b hIv.1 25 (by decide)
        refine lv_iconst (v := 1) hx hb dX11_layDress_25 rfl ?_
        refine lv_iadd hx hb dX11_layDress_26 ?_
        refine lv_topi (fun t5 et5 => ?_)
        have rg6 := fb_rng (v 25)
        have zt5 : t5.toInt = (v 25).toInt + 1 := by rw [et5]; exact add_i rfl (by decide) (by omega) (by omega)
        refine lv_irem hx hb dX11_layDress_27 (ne0 (by omega)) ?_
        refine lv_topi (fun t7 et7 => ?_)
        have zt7 : 0 ≤ t7.toInt ∧ t7.toInt < t5.toInt := by rw [et7]; exact rem_rng (zx := l2_3.toInt) (zy := t5.toInt) rfl rfl (by omega) (by omega)
        refine lv_istore (lv' := [(6, .int t7), (5, .int l5_3), (4, .int l4_3), (3, .int l3_3), (2, .int l2_3), (0, .ref y0), (1, .int p1)]) hx hb dX11_layDress_28 hl (Nat.le_of_ble_eq_true rfl) rfl (fun ls hl => ?_)
        refine lv_iload_n hx hb dX11_layDress_30 rfl (lv_at hl 4 rfl) ?_
        refine lv_aload_n hx hb dX11_layDress_31 rfl (lv_at hl 5 rfl) ?_
        refine va_get (D := (dC, dI)) (ci := 11) (v := .int (v3 25)) (C := RX11) (T := TX11) (N := 79) hx hb hts inB_11 hown hE.1 hP 0 rfl rfl 49 (Nat.le_of_ble_eq_true rfl) (hts _ k_1369) (fun _ h9 => h9) rfl dX11_layDress_32 ?_
        refine tI (y := (v 25)) hq25_v3 ?_
        refine lv_iconst (v := 1) hx hb dX11_layDress_35 rfl ?_
        refine lv_iadd hx hb dX11_layDress_36 ?_
        refine tI (y := t5) et5.symm ?_
        refine lv_idiv hx hb dX11_layDress_37 (ne0 (by omega)) ?_
        refine lv_topi (fun t8 et8 => ?_)
        have zt8 : 0 ≤ t8.toInt ∧ t8.toInt ≤ l2_3.toInt := by rw [et8]; exact div_rng (zx := l2_3.toInt) (zy := t5.toInt) rfl rfl (by omega) (by omega)
        refine lv_istore_n (lv' := [(2, .int t8), (6, .int t7), (5, .int l5_3), (4, .int l4_3), (3, .int l3_3), (0, .ref y0), (1, .int p1)]) hx hb dX11_layDress_38 rfl hl (Nat.le_of_ble_eq_true rfl) rfl (fun ls hl => ?_)
        refine lv_aload_n hx hb dX11_layDress_39 rfl (lv_at hl 5 rfl) ?_
        refine va_get (D := (dC, dI)) (ci := 11) (v := .ref (r 65)) (C := RX11) (T := TX11) (N := 79) hx hb hts inB_11 hown hE.1 hP 0 rfl rfl 65 (Nat.le_of_ble_eq_true rfl) (hts _ k_1385) (fun _ h9 => h9) rfl dX11_layDress_40 ?_
        refine lv_iload hx hb dX11_layDress_43 (lv_at hl 2 rfl) ?_
        refine lv_iload hx hb dX11_layDress_45 (lv_at hl 1 rfl) ?_
        refine lv_aload_n hx hb dX11_layDress_47 rfl (lv_at hl 5 rfl) ?_
        refine va_get (D := (dC, dI)) (ci := 11) (v := .int (v3 25)) (C := RX11) (T := TX11) (N := 79) hx hb hts inB_11 hown hE.1 hP 0 rfl rfl 49 (Nat.le_of_ble_eq_true rfl) (hts _ k_1369) (fun _ h9 => h9) rfl dX11_layDress_48 ?_
        refine tI (y := (v 25)) hq25_v3 ?_
        refine lv_icmp_ne (tgt := 58) hx hb dX11_layDress_51 rfl (fun c9 => ?_) (fun c9 => ?_)
        · skip
          have zc9 : ¬ (t7.toInt = (v 25).toInt) := by rw [fa_eq] at c9; exact c9
          have rg10 := fb_rng t7
          refine lv_iload hx hb dX11_layDress_58 (lv_at hl 1 rfl) ?_
          refine stI hx hb hE hP hD hS 28 rfl (vp_in_iff.mpr ⟨by omega, by omega⟩) rfl dX11_layDress_60 (fun H locs hP hD hS => ?_)
          obtain ⟨f11, ef11, hP, hD⟩ : ∃ fz9, fz9 = upd2 f3 27 (upd (f3 27) l5_3.toNatClampNeg t7) ∧ va_P (dC, dI) vwCl (YW cy y0 r v3 fz9 w3 g3) H ∧ va_D A (YW cy y0 r v3 fz9 w3 g3) := ⟨_, rfl, hP, hD⟩
          have hCf11 : YC f11 := by rw [ef11]; exact ⟨hCf3.1, hCf3.2.1, hCf3.2.2.1, (rng_st hCf3.2.2.2.1 (by show -1 ≤ t7.toInt ∧ t7.toInt ≤ 5; omega)), hCf3.2.2.2.2.1, hCf3.2.2.2.2.2⟩
          have hRf11 : progOK (f11 4) (f11 5) (v3 9).toInt.toNat := by rw [ef11]; exact hRf3
          have hA_f11 : KF [27] f11 f := by rw [ef11]; exact KF.up hA_f3 rfl
          refine lv_iload hx hb dX11_layDress_61 (lv_at hl 1 rfl) ?_
          refine lv_aload_n hx hb dX11_layDress_63 rfl (lv_at hl 5 rfl) ?_
          refine va_get (D := (dC, dI)) (ci := 11) (v := .int (v3 25)) (C := RX11) (T := TX11) (N := 79) hx hb hts inB_11 hown hE.1 hP 0 rfl rfl 49 (Nat.le_of_ble_eq_true rfl) (hts _ k_1369) (fun _ h9 => h9) rfl dX11_layDress_64 ?_
          refine tI (y := (v 25)) hq25_v3 ?_
          refine lv_icmp_ne (tgt := 73) hx hb dX11_layDress_67 rfl (fun c12 => ?_) (fun c12 => ?_)
          · skip
            have zc12 : ¬ (t7.toInt = (v 25).toInt) := by rw [fa_eq] at c12; exact c12
            refine lv_iload_n hx hb dX11_layDress_73 rfl (lv_at hl 4 rfl) ?_
            refine lv_iload hx hb dX11_layDress_74 (lv_at hl 1 rfl) ?_
            refine lv_ishr hx hb dX11_layDress_76 ?_
            refine lv_topi (fun t13 et13 => ?_)
            refine lv_iconst (v := 1) hx hb dX11_layDress_77 rfl ?_
            refine lv_iand hx hb dX11_layDress_78 ?_
            refine lv_topi (fun t14 et14 => ?_)
            have zt14 : 0 ≤ t14.toInt ∧ t14.toInt < 2 := by rw [et14]; exact and_rng _ (k := 1) (by decide) (by decide)
            refine lv_iconst (v := 1) hx hb dX11_layDress_79 rfl ?_
            refine lv_icmp_eq (tgt := 103) hx hb dX11_layDress_80 rfl (fun c15 => ?_) (fun c15 => ?_)
            · skip
              have zc15 : t14.toInt = 1 := by rw [fa_eq, show (1 : Int32).toInt = 1 from by decide] at c15; exact c15
              refine lv_iconst (v := (-1)) hx hb dX11_layDress_103 rfl ?_
              exact ret (-1) (v3, f11, w3, g3) _ _ _ _ _ _ rfl ⟨hM_v3, hA_f11, hIv3, hCf11, hRf11, (show v3 0 = v 0 from hq0_v3), (show v3 1 = v 1 from hq1_v3), (show v3 2 = v 2 from hq2_v3), (show v3 3 = v 3 from hq3_v3), (show v3 4 = v 4 from hq4_v3), (show v3 5 = v 5 from hq5_v3), (show v3 8 = v 8 from hq8_v3), (show v3 9 = v 9 from hq9_v3), (show v3 10 = v 10 from hq10_v3), (show v3 13 = v 13 from hq13_v3), (show v3 14 = v 14 from hq14_v3), (show v3 15 = v 15 from hq15_v3), (show v3 17 = v 17 from hq17_v3), (show v3 18 = v 18 from hq18_v3), (show v3 24 = v 24 from hq24_v3), (show v3 25 = v 25 from hq25_v3), (show v3 35 = v 35 from hq35_v3), (show v3 36 = v 36 from hq36_v3), (show v3 38 = v 38 from hq38_v3), (show v3 39 = v 39 from hq39_v3)⟩ hP hD hS dX11_layDress_104 (Nat.le_refl _) (Nat.le_refl _)
            · skip
              have zc15 : ¬ (t14.toInt = 1) := by rw [fa_eq, show (1 : Int32).toInt = 1 from by decide] at c15; exact c15
              refine lv_aload_n hx hb dX11_layDress_83 rfl (lv_at hl 5 rfl) ?_
              refine va_get (D := (dC, dI)) (ci := 11) (v := .ref (r 66)) (C := RX11) (T := TX11) (N := 79) hx hb hts inB_11 hown hE.1 hP 0 rfl rfl 66 (Nat.le_of_ble_eq_true rfl) (hts _ k_1386) (fun _ h9 => h9) rfl dX11_layDress_84 ?_
              refine lv_bipush (v := 6) hx hb dX11_layDress_87 rfl ?_
              refine lv_iload hx hb dX11_layDress_89 (lv_at hl 2 rfl) ?_
              refine lv_imul hx hb dX11_layDress_91 ?_
              refine lv_topi (fun t16 et16 => ?_)
              have rg17 := fb_rng l5_3
              have zt16 : t16.toInt = 6 * l5_3.toInt := by rw [et16]; exact mul_i (by decide) rfl (by omega) (by omega)
              refine lv_iload hx hb dX11_layDress_92 (lv_at hl 1 rfl) ?_
              refine lv_iadd hx hb dX11_layDress_94 ?_
              refine lv_topi (fun t18 et18 => ?_)
              have rg19 := fb_rng t16
              have zt18 : t18.toInt = t16.toInt + t7.toInt := by rw [et18]; exact add_i rfl rfl (by omega) (by omega)
              refine ldI hx hb hE hP 29 rfl (vp_in_iff.mpr ⟨by omega, by omega⟩) rfl rfl dX11_layDress_95 ?_
              refine lv_topi (fun t20 et20 => ?_)
              refine lv_aload_n hx hb dX11_layDress_96 rfl (lv_at hl 5 rfl) ?_
              refine va_get (D := (dC, dI)) (ci := 11) (v := .int (v3 26)) (C := RX11) (T := TX11) (N := 79) hx hb hts inB_11 hown hE.1 hP 0 rfl rfl 50 (Nat.le_of_ble_eq_true rfl) (hts _ k_1370) (fun _ h9 => h9) rfl dX11_layDress_97 ?_
              refine lv_icmp_le (tgt := 105) hx hb dX11_layDress_100 rfl (fun c21 => ?_) (fun c21 => ?_)
              · skip
                have zc21 : t20.toInt ≤ (v3 26).toInt := by rw [fa_le] at c21; exact c21
                have rg22 := fb_rng t20
                have rg23 := fb_rng (v3 26)
                refine lv_iload_n hx hb dX11_layDress_105 rfl (lv_at hl 4 rfl) ?_
                refine lv_iconst (v := 1) hx hb dX11_layDress_106 rfl ?_
                refine lv_iload hx hb dX11_layDress_107 (lv_at hl 1 rfl) ?_
                refine lv_ishl hx hb dX11_layDress_109 ?_
                refine lv_topi (fun t24 et24 => ?_)
                have zt24 : 1 ≤ t24.toInt ∧ t24.toInt ≤ 64 := by rw [et24]; exact shl1_rng6 (by omega) (by omega)
                refine lv_ior hx hb dX11_layDress_110 ?_
                refine lv_topi (fun t25 et25 => ?_)
                refine lv_istore_n (lv' := [(3, .int t25), (2, .int t8), (6, .int t7), (5, .int l5_3), (4, .int l4_3), (0, .ref y0), (1, .int p1)]) hx hb dX11_layDress_111 rfl hl (Nat.le_of_ble_eq_true rfl) rfl (fun ls hl => ?_)
                obtain ⟨t26, et26⟩ : ∃ y : Int32, y = l4_3 + 1 := ⟨_, rfl⟩
                refine lv_iinc (v := t26) (lv' := [(4, .int t26), (3, .int t25), (2, .int t8), (6, .int t7), (5, .int l5_3), (0, .ref y0), (1, .int p1)]) hx hb dX11_layDress_112 hl (k := 4) rfl (by rw [et26]; rfl) (by decide) rfl (fun ls hl => ?_)
                obtain ⟨t27, et27⟩ : ∃ y : Int32, y = l5_3 + (-1) := ⟨_, rfl⟩
                have zt27 : t27.toInt = l5_3.toInt + (-1) := by rw [et27]; exact add_i rfl (by decide) (by omega) (by omega)
                refine lv_iinc (v := t27) (lv' := [(5, .int t27), (4, .int t26), (3, .int t25), (2, .int t8), (6, .int t7), (0, .ref y0), (1, .int p1)]) hx hb dX11_layDress_115 hl (k := 4) rfl (by rw [et27]; rfl) (by decide) rfl (fun ls hl => ?_)
                refine lv_goto (tgt := 15) hx hb dX11_layDress_118 rfl ?_
                have rg28 := fb_rng t8
                have rg29 := fb_rng t27
                exact ih3 t8 t25 t26 t27 v3 f11 w3 g3 hIv3 hCf11 hRf11 hq0_v3 hq1_v3 hq2_v3 hq3_v3 hq4_v3 hq5_v3 hq8_v3 hq9_v3 hq10_v3 hq13_v3 hq14_v3 hq15_v3 hq17_v3 hq18_v3 hq24_v3 hq25_v3 hq35_v3 hq36_v3 hq38_v3 hq39_v3 ⟨show (0 : Int) ≤ t8.toInt by omega, show t8.toInt ≤ (2147483647 : Int) by omega⟩ ⟨show (-2147483648 : Int) ≤ t27.toInt by omega, show t27.toInt ≤ (5 : Int) by omega⟩ hM_v3 hA_f11 (by show (t27.toInt + 2147483648).toNat < n3; omega) _ _ _ hP hD hS (lv_sub hl [0, 1, 2, 3, 5, 6] rfl)
              · skip
                have zc21 : ¬ (t20.toInt ≤ (v3 26).toInt) := by rw [fa_le] at c21; exact c21
                have rg30 := fb_rng t20
                have rg31 := fb_rng (v3 26)
                refine lv_iconst (v := (-1)) hx hb dX11_layDress_103 rfl ?_
                exact ret (-1) (v3, f11, w3, g3) _ _ _ _ _ _ rfl ⟨hM_v3, hA_f11, hIv3, hCf11, hRf11, (show v3 0 = v 0 from hq0_v3), (show v3 1 = v 1 from hq1_v3), (show v3 2 = v 2 from hq2_v3), (show v3 3 = v 3 from hq3_v3), (show v3 4 = v 4 from hq4_v3), (show v3 5 = v 5 from hq5_v3), (show v3 8 = v 8 from hq8_v3), (show v3 9 = v 9 from hq9_v3), (show v3 10 = v 10 from hq10_v3), (show v3 13 = v 13 from hq13_v3), (show v3 14 = v 14 from hq14_v3), (show v3 15 = v 15 from hq15_v3), (show v3 17 = v 17 from hq17_v3), (show v3 18 = v 18 from hq18_v3), (show v3 24 = v 24 from hq24_v3), (show v3 25 = v 25 from hq25_v3), (show v3 35 = v 35 from hq35_v3), (show v3 36 = v 36 from hq36_v3), (show v3 38 = v 38 from hq38_v3), (show v3 39 = v 39 from hq39_v3)⟩ hP hD hS dX11_layDress_104 (Nat.le_refl _) (Nat.le_refl _)
          · skip
            have zc12 : t7.toInt = (v 25).toInt := by rw [fa_eq] at c12; exact c12
            refine lv_goto (tgt := 115) hx hb dX11_layDress_70 rfl ?_
            obtain ⟨t32, et32⟩ : ∃ y : Int32, y = l5_3 + (-1) := ⟨_, rfl⟩
            have rg33 := fb_rng l5_3
            have zt32 : t32.toInt = l5_3.toInt + (-1) := by rw [et32]; exact add_i rfl (by decide) (by omega) (by omega)
            refine lv_iinc (v := t32) (lv' := [(5, .int t32), (2, .int t8), (6, .int t7), (4, .int l4_3), (3, .int l3_3), (0, .ref y0), (1, .int p1)]) hx hb dX11_layDress_115 hl (k := 2) rfl (by rw [et32]; rfl) (by decide) rfl (fun ls hl => ?_)
            refine lv_goto (tgt := 15) hx hb dX11_layDress_118 rfl ?_
            have rg34 := fb_rng t8
            have rg35 := fb_rng t32
            exact ih3 t8 l3_3 l4_3 t32 v3 f11 w3 g3 hIv3 hCf11 hRf11 hq0_v3 hq1_v3 hq2_v3 hq3_v3 hq4_v3 hq5_v3 hq8_v3 hq9_v3 hq10_v3 hq13_v3 hq14_v3 hq15_v3 hq17_v3 hq18_v3 hq24_v3 hq25_v3 hq35_v3 hq36_v3 hq38_v3 hq39_v3 ⟨show (0 : Int) ≤ t8.toInt by omega, show t8.toInt ≤ (2147483647 : Int) by omega⟩ ⟨show (-2147483648 : Int) ≤ t32.toInt by omega, show t32.toInt ≤ (5 : Int) by omega⟩ hM_v3 hA_f11 (by show (t32.toInt + 2147483648).toNat < n3; omega) _ _ _ hP hD hS (lv_sub hl [0, 3, 4, 1, 5, 6] rfl)
        · skip
          have zc9 : t7.toInt = (v 25).toInt := by rw [fa_eq] at c9; exact c9
          have rg36 := fb_rng t7
          refine lv_iconst (v := (-1)) hx hb dX11_layDress_54 rfl ?_
          refine lv_goto (tgt := 60) hx hb dX11_layDress_55 rfl ?_
          refine stI hx hb hE hP hD hS 28 rfl (vp_in_iff.mpr ⟨by omega, by omega⟩) rfl dX11_layDress_60 (fun H locs hP hD hS => ?_)
          obtain ⟨f37, ef37, hP, hD⟩ : ∃ fz9, fz9 = upd2 f3 27 (upd (f3 27) l5_3.toNatClampNeg (-1)) ∧ va_P (dC, dI) vwCl (YW cy y0 r v3 fz9 w3 g3) H ∧ va_D A (YW cy y0 r v3 fz9 w3 g3) := ⟨_, rfl, hP, hD⟩
          have hCf37 : YC f37 := by rw [ef37]; exact ⟨hCf3.1, hCf3.2.1, hCf3.2.2.1, (rng_st hCf3.2.2.2.1 (by have q9 : ((-1) : Int32).toInt = -1 := (by decide); show -1 ≤ ((-1) : Int32).toInt ∧ ((-1) : Int32).toInt ≤ 5; omega)), hCf3.2.2.2.2.1, hCf3.2.2.2.2.2⟩
          have hRf37 : progOK (f37 4) (f37 5) (v3 9).toInt.toNat := by rw [ef37]; exact hRf3
          have hA_f37 : KF [27] f37 f := by rw [ef37]; exact KF.up hA_f3 rfl
          refine lv_iload hx hb dX11_layDress_61 (lv_at hl 1 rfl) ?_
          refine lv_aload_n hx hb dX11_layDress_63 rfl (lv_at hl 5 rfl) ?_
          refine va_get (D := (dC, dI)) (ci := 11) (v := .int (v3 25)) (C := RX11) (T := TX11) (N := 79) hx hb hts inB_11 hown hE.1 hP 0 rfl rfl 49 (Nat.le_of_ble_eq_true rfl) (hts _ k_1369) (fun _ h9 => h9) rfl dX11_layDress_64 ?_
          refine tI (y := (v 25)) hq25_v3 ?_
          refine lv_icmp_ne (tgt := 73) hx hb dX11_layDress_67 rfl (fun c38 => ?_) (fun c38 => ?_)
          · skip
            have zc38 : ¬ (t7.toInt = (v 25).toInt) := by rw [fa_eq] at c38; exact c38
            refine lv_iload_n hx hb dX11_layDress_73 rfl (lv_at hl 4 rfl) ?_
            refine lv_iload hx hb dX11_layDress_74 (lv_at hl 1 rfl) ?_
            refine lv_ishr hx hb dX11_layDress_76 ?_
            refine lv_topi (fun t39 et39 => ?_)
            refine lv_iconst (v := 1) hx hb dX11_layDress_77 rfl ?_
            refine lv_iand hx hb dX11_layDress_78 ?_
            refine lv_topi (fun t40 et40 => ?_)
            have zt40 : 0 ≤ t40.toInt ∧ t40.toInt < 2 := by rw [et40]; exact and_rng _ (k := 1) (by decide) (by decide)
            refine lv_iconst (v := 1) hx hb dX11_layDress_79 rfl ?_
            refine lv_icmp_eq (tgt := 103) hx hb dX11_layDress_80 rfl (fun c41 => ?_) (fun c41 => ?_)
            · skip
              have zc41 : t40.toInt = 1 := by rw [fa_eq, show (1 : Int32).toInt = 1 from by decide] at c41; exact c41
              refine lv_iconst (v := (-1)) hx hb dX11_layDress_103 rfl ?_
              exact ret (-1) (v3, f37, w3, g3) _ _ _ _ _ _ rfl ⟨hM_v3, hA_f37, hIv3, hCf37, hRf37, (show v3 0 = v 0 from hq0_v3), (show v3 1 = v 1 from hq1_v3), (show v3 2 = v 2 from hq2_v3), (show v3 3 = v 3 from hq3_v3), (show v3 4 = v 4 from hq4_v3), (show v3 5 = v 5 from hq5_v3), (show v3 8 = v 8 from hq8_v3), (show v3 9 = v 9 from hq9_v3), (show v3 10 = v 10 from hq10_v3), (show v3 13 = v 13 from hq13_v3), (show v3 14 = v 14 from hq14_v3), (show v3 15 = v 15 from hq15_v3), (show v3 17 = v 17 from hq17_v3), (show v3 18 = v 18 from hq18_v3), (show v3 24 = v 24 from hq24_v3), (show v3 25 = v 25 from hq25_v3), (show v3 35 = v 35 from hq35_v3), (show v3 36 = v 36 from hq36_v3), (show v3 38 = v 38 from hq38_v3), (show v3 39 = v 39 from hq39_v3)⟩ hP hD hS dX11_layDress_104 (Nat.le_refl _) (Nat.le_refl _)
            · skip
              have zc41 : ¬ (t40.toInt = 1) := by rw [fa_eq, show (1 : Int32).toInt = 1 from by decide] at c41; exact c41
              refine lv_aload_n hx hb dX11_layDress_83 rfl (lv_at hl 5 rfl) ?_
              refine va_get (D := (dC, dI)) (ci := 11) (v := .ref (r 66)) (C := RX11) (T := TX11) (N := 79) hx hb hts inB_11 hown hE.1 hP 0 rfl rfl 66 (Nat.le_of_ble_eq_true rfl) (hts _ k_1386) (fun _ h9 => h9) rfl dX11_layDress_84 ?_
              refine lv_bipush (v := 6) hx hb dX11_layDress_87 rfl ?_
              refine lv_iload hx hb dX11_layDress_89 (lv_at hl 2 rfl) ?_
              refine lv_imul hx hb dX11_layDress_91 ?_
              refine lv_topi (fun t42 et42 => ?_)
              have rg43 := fb_rng l5_3
              have zt42 : t42.toInt = 6 * l5_3.toInt := by rw [et42]; exact mul_i (by decide) rfl (by omega) (by omega)
              refine lv_iload hx hb dX11_layDress_92 (lv_at hl 1 rfl) ?_
              refine lv_iadd hx hb dX11_layDress_94 ?_
              refine lv_topi (fun t44 et44 => ?_)
              have rg45 := fb_rng t42
              have zt44 : t44.toInt = t42.toInt + t7.toInt := by rw [et44]; exact add_i rfl rfl (by omega) (by omega)
              refine ldI hx hb hE hP 29 rfl (vp_in_iff.mpr ⟨by omega, by omega⟩) rfl rfl dX11_layDress_95 ?_
              refine lv_topi (fun t46 et46 => ?_)
              refine lv_aload_n hx hb dX11_layDress_96 rfl (lv_at hl 5 rfl) ?_
              refine va_get (D := (dC, dI)) (ci := 11) (v := .int (v3 26)) (C := RX11) (T := TX11) (N := 79) hx hb hts inB_11 hown hE.1 hP 0 rfl rfl 50 (Nat.le_of_ble_eq_true rfl) (hts _ k_1370) (fun _ h9 => h9) rfl dX11_layDress_97 ?_
              refine lv_icmp_le (tgt := 105) hx hb dX11_layDress_100 rfl (fun c47 => ?_) (fun c47 => ?_)
              · skip
                have zc47 : t46.toInt ≤ (v3 26).toInt := by rw [fa_le] at c47; exact c47
                have rg48 := fb_rng t46
                have rg49 := fb_rng (v3 26)
                refine lv_iload_n hx hb dX11_layDress_105 rfl (lv_at hl 4 rfl) ?_
                refine lv_iconst (v := 1) hx hb dX11_layDress_106 rfl ?_
                refine lv_iload hx hb dX11_layDress_107 (lv_at hl 1 rfl) ?_
                refine lv_ishl hx hb dX11_layDress_109 ?_
                refine lv_topi (fun t50 et50 => ?_)
                have zt50 : 1 ≤ t50.toInt ∧ t50.toInt ≤ 64 := by rw [et50]; exact shl1_rng6 (by omega) (by omega)
                refine lv_ior hx hb dX11_layDress_110 ?_
                refine lv_topi (fun t51 et51 => ?_)
                refine lv_istore_n (lv' := [(3, .int t51), (2, .int t8), (6, .int t7), (5, .int l5_3), (4, .int l4_3), (0, .ref y0), (1, .int p1)]) hx hb dX11_layDress_111 rfl hl (Nat.le_of_ble_eq_true rfl) rfl (fun ls hl => ?_)
                obtain ⟨t52, et52⟩ : ∃ y : Int32, y = l4_3 + 1 := ⟨_, rfl⟩
                refine lv_iinc (v := t52) (lv' := [(4, .int t52), (3, .int t51), (2, .int t8), (6, .int t7), (5, .int l5_3), (0, .ref y0), (1, .int p1)]) hx hb dX11_layDress_112 hl (k := 4) rfl (by rw [et52]; rfl) (by decide) rfl (fun ls hl => ?_)
                obtain ⟨t53, et53⟩ : ∃ y : Int32, y = l5_3 + (-1) := ⟨_, rfl⟩
                have zt53 : t53.toInt = l5_3.toInt + (-1) := by rw [et53]; exact add_i rfl (by decide) (by omega) (by omega)
                refine lv_iinc (v := t53) (lv' := [(5, .int t53), (4, .int t52), (3, .int t51), (2, .int t8), (6, .int t7), (0, .ref y0), (1, .int p1)]) hx hb dX11_layDress_115 hl (k := 4) rfl (by rw [et53]; rfl) (by decide) rfl (fun ls hl => ?_)
                refine lv_goto (tgt := 15) hx hb dX11_layDress_118 rfl ?_
                have rg54 := fb_rng t8
                have rg55 := fb_rng t53
                exact ih3 t8 t51 t52 t53 v3 f37 w3 g3 hIv3 hCf37 hRf37 hq0_v3 hq1_v3 hq2_v3 hq3_v3 hq4_v3 hq5_v3 hq8_v3 hq9_v3 hq10_v3 hq13_v3 hq14_v3 hq15_v3 hq17_v3 hq18_v3 hq24_v3 hq25_v3 hq35_v3 hq36_v3 hq38_v3 hq39_v3 ⟨show (0 : Int) ≤ t8.toInt by omega, show t8.toInt ≤ (2147483647 : Int) by omega⟩ ⟨show (-2147483648 : Int) ≤ t53.toInt by omega, show t53.toInt ≤ (5 : Int) by omega⟩ hM_v3 hA_f37 (by show (t53.toInt + 2147483648).toNat < n3; omega) _ _ _ hP hD hS (lv_sub hl [0, 1, 2, 3, 5, 6] rfl)
              · skip
                have zc47 : ¬ (t46.toInt ≤ (v3 26).toInt) := by rw [fa_le] at c47; exact c47
                have rg56 := fb_rng t46
                have rg57 := fb_rng (v3 26)
                refine lv_iconst (v := (-1)) hx hb dX11_layDress_103 rfl ?_
                exact ret (-1) (v3, f37, w3, g3) _ _ _ _ _ _ rfl ⟨hM_v3, hA_f37, hIv3, hCf37, hRf37, (show v3 0 = v 0 from hq0_v3), (show v3 1 = v 1 from hq1_v3), (show v3 2 = v 2 from hq2_v3), (show v3 3 = v 3 from hq3_v3), (show v3 4 = v 4 from hq4_v3), (show v3 5 = v 5 from hq5_v3), (show v3 8 = v 8 from hq8_v3), (show v3 9 = v 9 from hq9_v3), (show v3 10 = v 10 from hq10_v3), (show v3 13 = v 13 from hq13_v3), (show v3 14 = v 14 from hq14_v3), (show v3 15 = v 15 from hq15_v3), (show v3 17 = v 17 from hq17_v3), (show v3 18 = v 18 from hq18_v3), (show v3 24 = v 24 from hq24_v3), (show v3 25 = v 25 from hq25_v3), (show v3 35 = v 35 from hq35_v3), (show v3 36 = v 36 from hq36_v3), (show v3 38 = v 38 from hq38_v3), (show v3 39 = v 39 from hq39_v3)⟩ hP hD hS dX11_layDress_104 (Nat.le_refl _) (Nat.le_refl _)
          · skip
            have zc38 : t7.toInt = (v 25).toInt := by rw [fa_eq] at c38; exact c38
            refine lv_goto (tgt := 115) hx hb dX11_layDress_70 rfl ?_
            obtain ⟨t58, et58⟩ : ∃ y : Int32, y = l5_3 + (-1) := ⟨_, rfl⟩
            have rg59 := fb_rng l5_3
            have zt58 : t58.toInt = l5_3.toInt + (-1) := by rw [et58]; exact add_i rfl (by decide) (by omega) (by omega)
            refine lv_iinc (v := t58) (lv' := [(5, .int t58), (2, .int t8), (6, .int t7), (4, .int l4_3), (3, .int l3_3), (0, .ref y0), (1, .int p1)]) hx hb dX11_layDress_115 hl (k := 2) rfl (by rw [et58]; rfl) (by decide) rfl (fun ls hl => ?_)
            refine lv_goto (tgt := 15) hx hb dX11_layDress_118 rfl ?_
            have rg60 := fb_rng t8
            have rg61 := fb_rng t58
            exact ih3 t8 l3_3 l4_3 t58 v3 f37 w3 g3 hIv3 hCf37 hRf37 hq0_v3 hq1_v3 hq2_v3 hq3_v3 hq4_v3 hq5_v3 hq8_v3 hq9_v3 hq10_v3 hq13_v3 hq14_v3 hq15_v3 hq17_v3 hq18_v3 hq24_v3 hq25_v3 hq35_v3 hq36_v3 hq38_v3 hq39_v3 ⟨show (0 : Int) ≤ t8.toInt by omega, show t8.toInt ≤ (2147483647 : Int) by omega⟩ ⟨show (-2147483648 : Int) ≤ t58.toInt by omega, show t58.toInt ≤ (5 : Int) by omega⟩ hM_v3 hA_f37 (by show (t58.toInt + 2147483648).toNat < n3; omega) _ _ _ hP hD hS (lv_sub hl [0, 3, 4, 1, 5, 6] rfl)
  have rg62 := fb_rng p1
  have rg63 := fb_rng t1
  exact lp3 _ p1 0 0 t1 v f w g hIv hCf hRf rfl rfl rfl rfl rfl rfl rfl rfl rfl rfl rfl rfl rfl rfl rfl rfl rfl rfl rfl rfl ⟨show (0 : Int) ≤ p1.toInt by omega, show p1.toInt ≤ (2147483647 : Int) by omega⟩ ⟨show (-2147483648 : Int) ≤ t1.toInt by omega, show t1.toInt ≤ (5 : Int) by omega⟩ hM_v hA_f (Nat.lt_succ_self _) _ _ _ hP hD hS (lv_sub hl [0, 1, 2, 3, 4, 5] rfl)
set_option maxHeartbeats 4000000 in
set_option maxRecDepth 100000 in
theorem sY_X11_illOfRow_1 (l : Launch) (dC : Nat → ClassId) (dI : Nat → Nat → Nat) (cy : Nat → ClassId) (y0 : Nat) (r : Nat → Nat)  (v : Nat → Int32) (f : Nat → Nat → Int32) (w : Int64) (g : Nat → Int64) (hIv : YI v) (hCf : YC f) (hRf : progOK (f 4) (f 5) (v 9).toInt.toNat)  : ctI l (dC, dI) cy yX11_illOfRow cX11_illOfRow 3 .int 1 60 0 0 Unit [.ref y0] (YW cy y0 r v f w g) (fun r u => True) (fun u => YW cy y0 r v f w g) := by
  refine ctI_of (by decide) (Nat.le_of_ble_eq_true rfl) (fun p e s m below meth c A ls Q hx hb hml hts hown hE hP hD hA hl ret => ?_)
  have hUv : (v 35).toInt + (v 36).toInt ≤ 40 := hIv.2
  have hown : s.vm.findClass RX11 = some m.cls := hown
  have hS : va_S A s.heap s.heap [] := va_S.rf
  have hl : lv_has ls 3 [(0, .ref y0)] := hl
  refine lv_iconst (v := 0) hx hb dX11_illOfRow_0 rfl ?_
  refine lv_istore_n (lv' := [(1, .int 0), (0, .ref y0)]) hx hb dX11_illOfRow_1 rfl hl (Nat.le_of_ble_eq_true rfl) rfl (fun ls hl => ?_)
  refine lv_iconst (v := 0) hx hb dX11_illOfRow_2 rfl ?_
  refine lv_istore_n (lv' := [(2, .int 0), (1, .int 0), (0, .ref y0)]) hx hb dX11_illOfRow_3 rfl hl (Nat.le_of_ble_eq_true rfl) rfl (fun ls hl => ?_)
  have lp1 : ∀ (n1 : Nat) (l1_1 : Int32) (l2_1 : Int32), ((0 : Int) ≤ l2_1.toInt ∧ l2_1.toInt ≤ 2147483647) → (2147483647 - l2_1.toInt).toNat < n1 → ∀ (H : Heap) (locs : List Loc) (ls : Array Slot), va_P (dC, dI) vwCl (YW cy y0 r v f w g) H → va_D A (YW cy y0 r v f w g) → va_S A s.heap H locs → lv_has ls 3 [(2, .int l2_1), (1, .int l1_1), (0, .ref y0)] → W p l e { frames := 1, cells := 0, slots := 0, locals := 60 } s m ([.ref y0] : List Value).toArray below meth c H locs 0 0 Q (F0 m 4 ls []) := by
    intro n1
    induction n1 with
    | zero => intro l1_1 l2_1 hr2_1 hm; exact absurd hm (Nat.not_lt_zero _)
    | succ n1 ih1 =>
      intro l1_1 l2_1 hr2_1 hm1 H locs ls hP hD hS hl
      refine lv_iload_n hx hb dX11_illOfRow_4 rfl (lv_at hl 0 rfl) ?_
      refine lv_aload_n hx hb dX11_illOfRow_5 rfl (lv_at hl 2 rfl) ?_
      refine va_get (D := (dC, dI)) (ci := 11) (v := .int (v 24)) (C := RX11) (T := TX11) (N := 79) hx hb hts inB_11 hown hE.1 hP 0 rfl rfl 48 (Nat.le_of_ble_eq_true rfl) (hts _ k_1368) (fun _ h9 => h9) rfl dX11_illOfRow_6 ?_
      have b24_v : 0 ≤ (v 24).toInt ∧ (v 24).toInt ≤ 6 := YIb.b hIv.1 24 (by decide)
      refine lv_icmp_ge (tgt := 50) hx hb dX11_illOfRow_9 rfl (fun c2 => ?_) (fun c2 => ?_)
      · skip
        have zc2 : (v 24).toInt ≤ l2_1.toInt := by rw [fa_le] at c2; exact c2
        have rg3 := fb_rng l2_1
        have rg4 := fb_rng (v 24)
        refine lv_iload_n hx hb dX11_illOfRow_50 rfl (lv_at hl 1 rfl) ?_
        exact ret l1_1 () _ _ _ _ _ _ rfl trivial hP hD hS dX11_illOfRow_51 (Nat.le_refl _) (Nat.le_refl _)
      · skip
        have zc2 : ¬ ((v 24).toInt ≤ l2_1.toInt) := by rw [fa_le] at c2; exact c2
        have rg5 := fb_rng l2_1
        have rg6 := fb_rng (v 24)
        refine lv_iload_n hx hb dX11_illOfRow_12 rfl (lv_at hl 1 rfl) ?_
        refine lv_aload_n hx hb dX11_illOfRow_13 rfl (lv_at hl 2 rfl) ?_
        refine va_get (D := (dC, dI)) (ci := 11) (v := .ref (r 65)) (C := RX11) (T := TX11) (N := 79) hx hb hts inB_11 hown hE.1 hP 0 rfl rfl 65 (Nat.le_of_ble_eq_true rfl) (hts _ k_1385) (fun _ h9 => h9) rfl dX11_illOfRow_14 ?_
        refine lv_iload_n hx hb dX11_illOfRow_17 rfl (lv_at hl 0 rfl) ?_
        refine ldI hx hb hE hP 28 rfl (vp_in_iff.mpr ⟨by omega, by omega⟩) rfl rfl dX11_illOfRow_18 ?_
        refine lv_topi (fun t7 et7 => ?_)
        have zt7 : -1 ≤ t7.toInt ∧ t7.toInt ≤ 5 := by rw [et7]; exact hCf.2.2.2.1 l2_1.toInt.toNat (show l2_1.toInt.toNat < 6 by omega)
        refine lv_if_ge (tgt := 26) hx hb dX11_illOfRow_19 rfl (fun c8 => ?_) (fun c8 => ?_)
        · skip
          have zc8 : 0 ≤ t7.toInt := by rw [fa_le, show (0 : Int32).toInt = 0 from by decide] at c8; exact c8
          refine lv_aload_n hx hb dX11_illOfRow_26 rfl (lv_at hl 2 rfl) ?_
          refine va_get (D := (dC, dI)) (ci := 11) (v := .ref (r 66)) (C := RX11) (T := TX11) (N := 79) hx hb hts inB_11 hown hE.1 hP 0 rfl rfl 66 (Nat.le_of_ble_eq_true rfl) (hts _ k_1386) (fun _ h9 => h9) rfl dX11_illOfRow_27 ?_
          refine lv_bipush (v := 6) hx hb dX11_illOfRow_30 rfl ?_
          refine lv_iload_n hx hb dX11_illOfRow_32 rfl (lv_at hl 0 rfl) ?_
          refine lv_imul hx hb dX11_illOfRow_33 ?_
          refine lv_topi (fun t9 et9 => ?_)
          have zt9 : t9.toInt = 6 * l2_1.toInt := by rw [et9]; exact mul_i (by decide) rfl (by omega) (by omega)
          refine lv_aload_n hx hb dX11_illOfRow_34 rfl (lv_at hl 2 rfl) ?_
          refine va_get (D := (dC, dI)) (ci := 11) (v := .ref (r 65)) (C := RX11) (T := TX11) (N := 79) hx hb hts inB_11 hown hE.1 hP 0 rfl rfl 65 (Nat.le_of_ble_eq_true rfl) (hts _ k_1385) (fun _ h9 => h9) rfl dX11_illOfRow_35 ?_
          refine lv_iload_n hx hb dX11_illOfRow_38 rfl (lv_at hl 0 rfl) ?_
          refine ldI hx hb hE hP 28 rfl (vp_in_iff.mpr ⟨by omega, by omega⟩) rfl rfl dX11_illOfRow_39 ?_
          refine tI (y := t7) et7.symm ?_
          refine lv_iadd hx hb dX11_illOfRow_40 ?_
          refine lv_topi (fun t10 et10 => ?_)
          have rg11 := fb_rng t9
          have rg12 := fb_rng t7
          have zt10 : t10.toInt = t9.toInt + t7.toInt := by rw [et10]; exact add_i rfl rfl (by omega) (by omega)
          refine ldI hx hb hE hP 29 rfl (vp_in_iff.mpr ⟨by omega, by omega⟩) rfl rfl dX11_illOfRow_41 ?_
          refine lv_topi (fun t13 et13 => ?_)
          refine lv_iadd hx hb dX11_illOfRow_42 ?_
          refine lv_topi (fun t14 et14 => ?_)
          refine lv_istore_n (lv' := [(1, .int t14), (2, .int l2_1), (0, .ref y0)]) hx hb dX11_illOfRow_43 rfl hl (Nat.le_of_ble_eq_true rfl) rfl (fun ls hl => ?_)
          obtain ⟨t15, et15⟩ : ∃ y : Int32, y = l2_1 + 1 := ⟨_, rfl⟩
          have zt15 : t15.toInt = l2_1.toInt + 1 := by rw [et15]; exact add_i rfl (by decide) (by omega) (by omega)
          refine lv_iinc (v := t15) (lv' := [(2, .int t15), (1, .int t14), (0, .ref y0)]) hx hb dX11_illOfRow_44 hl (k := 1) rfl (by rw [et15]; rfl) (by decide) rfl (fun ls hl => ?_)
          refine lv_goto (tgt := 4) hx hb dX11_illOfRow_47 rfl ?_
          have rg16 := fb_rng t15
          exact ih1 t14 t15 ⟨show (0 : Int) ≤ t15.toInt by omega, show t15.toInt ≤ (2147483647 : Int) by omega⟩ (by show (2147483647 - t15.toInt).toNat < n1; omega) _ _ _ hP hD hS (lv_sub hl [0, 1, 2] rfl)
        · skip
          have zc8 : ¬ (0 ≤ t7.toInt) := by rw [fa_le, show (0 : Int32).toInt = 0 from by decide] at c8; exact c8
          refine lv_iconst (v := 0) hx hb dX11_illOfRow_22 rfl ?_
          refine lv_goto (tgt := 42) hx hb dX11_illOfRow_23 rfl ?_
          refine lv_iadd hx hb dX11_illOfRow_42 ?_
          refine lv_topi (fun t17 et17 => ?_)
          have rg18 := fb_rng l1_1
          have zt17 : t17.toInt = l1_1.toInt + 0 := by rw [et17]; exact add_i rfl (by decide) (by omega) (by omega)
          refine lv_istore_n (lv' := [(1, .int t17), (2, .int l2_1), (0, .ref y0)]) hx hb dX11_illOfRow_43 rfl hl (Nat.le_of_ble_eq_true rfl) rfl (fun ls hl => ?_)
          obtain ⟨t19, et19⟩ : ∃ y : Int32, y = l2_1 + 1 := ⟨_, rfl⟩
          have zt19 : t19.toInt = l2_1.toInt + 1 := by rw [et19]; exact add_i rfl (by decide) (by omega) (by omega)
          refine lv_iinc (v := t19) (lv' := [(2, .int t19), (1, .int t17), (0, .ref y0)]) hx hb dX11_illOfRow_44 hl (k := 1) rfl (by rw [et19]; rfl) (by decide) rfl (fun ls hl => ?_)
          refine lv_goto (tgt := 4) hx hb dX11_illOfRow_47 rfl ?_
          have rg20 := fb_rng t19
          exact ih1 t17 t19 ⟨show (0 : Int) ≤ t19.toInt by omega, show t19.toInt ≤ (2147483647 : Int) by omega⟩ (by show (2147483647 - t19.toInt).toNat < n1; omega) _ _ _ hP hD hS (lv_sub hl [0, 1, 2] rfl)
  exact lp1 _ 0 0 ⟨by decide, by decide⟩ (Nat.lt_succ_self _) _ _ _ hP hD hS (lv_sub hl [0, 1, 2] rfl)
set_option maxHeartbeats 4000000 in
set_option maxRecDepth 100000 in
theorem sY_X11_dress_1 (l : Launch) (dC : Nat → ClassId) (dI : Nat → Nat → Nat) (cy : Nat → ClassId) (y0 : Nat) (r : Nat → Nat) (p1 : Int32) (v : Nat → Int32) (f : Nat → Nat → Int32) (w : Int64) (g : Nat → Int64) (hIv : YI v) (hCf : YC f) (hRf : progOK (f 4) (f 5) (v 9).toInt.toNat)  : ctI l (dC, dI) cy yX11_dress cX11_dress 7 .int 5 148 0 0 ((Nat → Int32) × (Nat → Nat → Int32) × (Int64) × (Nat → Int64)) [.ref y0, .int p1] (YW cy y0 r v f w g) (fun r u => KV [37] u.1 v ∧ KF [7, 8, 24, 26, 27, 28] u.2.1 f ∧ YI u.1 ∧ YC u.2.1 ∧ progOK (u.2.1 4) (u.2.1 5) (u.1 9).toInt.toNat ∧ u.1 0 = v 0 ∧ u.1 1 = v 1 ∧ u.1 2 = v 2 ∧ u.1 3 = v 3 ∧ u.1 4 = v 4 ∧ u.1 5 = v 5 ∧ u.1 8 = v 8 ∧ u.1 9 = v 9 ∧ u.1 10 = v 10 ∧ u.1 13 = v 13 ∧ u.1 14 = v 14 ∧ u.1 15 = v 15 ∧ u.1 17 = v 17 ∧ u.1 18 = v 18 ∧ u.1 24 = v 24 ∧ u.1 25 = v 25 ∧ u.1 35 = v 35 ∧ u.1 36 = v 36 ∧ u.1 38 = v 38 ∧ u.1 39 = v 39) (fun u => YW cy y0 r u.1 u.2.1 u.2.2.1 u.2.2.2) := by
  refine ctI_of (by decide) (Nat.le_of_ble_eq_true rfl) (fun p e s m below meth c A ls Q hx hb hml hts hown hE hP hD hA hl ret => ?_)
  have hUv : (v 35).toInt + (v 36).toInt ≤ 40 := hIv.2
  have hM_v : KV [37] v v := fun _ _ => rfl
  have hA_f : KF [7, 8, 24, 26, 27, 28] f f := fun _ _ => rfl
  have hown : s.vm.findClass RX11 = some m.cls := hown
  have hS : va_S A s.heap s.heap [] := va_S.rf
  have hl : lv_has ls 7 [(0, .ref y0), (1, .int p1)] := hl
  refine lv_iload_n hx hb dX11_dress_0 rfl (lv_at hl 1 rfl) ?_
  refine lv_iconst (v := 0) hx hb dX11_dress_1 rfl ?_
  refine lv_iconst (v := 1) hx hb dX11_dress_2 rfl ?_
  have lt1 : (0 : Int32).toInt = 0 := by decide
  have lt2 : (1 : Int32).toInt = 1 := by decide
  refine cbSi (n := 3) (rest := []) hx hb hml hown hts hE hP hD hS hA (sY_X11_isIn_1 0 l dC dI cy y0 r p1 0 1 v f w g hIv hCf hRf ) k_1736 k_1737 k_114 k_1738 (by decide +kernel) ⟨Nat.le_of_ble_eq_true rfl, Nat.le_of_ble_eq_true rfl⟩ (rfl) hl.1 rfl (Nat.le_of_ble_eq_true rfl) dX11_dress_3 (fun r3 u H locs hw hP hD hS => ?_)
  obtain ⟨hG4, hw⟩ := hw
  rcases hw with ⟨g5, g5_0, g5_1⟩ | ⟨g5⟩
  · skip
    subst g5
    refine lv_if_ne (tgt := 11) hx hb dX11_dress_6 rfl (fun _ => ?_) (fun c0 => absurd c0 (by decide))
    refine lv_aload_n hx hb dX11_dress_11 rfl (lv_at hl 0 rfl) ?_
    refine cbVv (n := 0) (rest := []) hx hb hml hown hts hE hP hD hS hA (sY_X11_layIlls_1 l dC dI cy y0 r  v f w g hIv hCf hRf ) k_1873 k_1875 k_84 k_114 k_1876 (by decide +kernel) ⟨Nat.le_of_ble_eq_true rfl, Nat.le_of_ble_eq_true rfl⟩ 0 11 rfl rfl (rfl) hl.1 rfl (Nat.le_of_ble_eq_true rfl) dX11_dress_12 (fun u H locs hw hP hD hS => ?_)
    obtain ⟨v6, f7, w8, g9⟩ := u
    obtain ⟨kV_v6, kF_f7, hIv6, hCf7, hRf7, hk0_v6, hk1_v6, hk2_v6, hk3_v6, hk4_v6, hk5_v6, hk8_v6, hk9_v6, hk10_v6, hk13_v6, hk14_v6, hk15_v6, hk17_v6, hk18_v6, hk24_v6, hk25_v6, hk35_v6, hk36_v6, hk38_v6, hk39_v6⟩ := hw
    have hM_v6 : KV [37] v6 v := KV.tr kV_v6 hM_v rfl
    have hA_f7 : KF [7, 8, 24, 26, 27, 28] f7 f := KF.tr kF_f7 hA_f rfl
    have hP : va_P (dC, dI) vwCl (YW cy y0 r v6 f7 w8 g9) H := hP
    have hD : va_D A (YW cy y0 r v6 f7 w8 g9) := hD
    have hUv6 : (v6 35).toInt + (v6 36).toInt ≤ 40 := hIv6.2
    have hq0_v6 : v6 0 = (v 0) := hk0_v6
    have hq1_v6 : v6 1 = (v 1) := hk1_v6
    have hq2_v6 : v6 2 = (v 2) := hk2_v6
    have hq3_v6 : v6 3 = (v 3) := hk3_v6
    have hq4_v6 : v6 4 = (v 4) := hk4_v6
    have hq5_v6 : v6 5 = (v 5) := hk5_v6
    have hq8_v6 : v6 8 = (v 8) := hk8_v6
    have hq9_v6 : v6 9 = (v 9) := hk9_v6
    have zq9_v6 := congrArg Int32.toInt hq9_v6
    have hq10_v6 : v6 10 = (v 10) := hk10_v6
    have hq13_v6 : v6 13 = (v 13) := hk13_v6
    have hq14_v6 : v6 14 = (v 14) := hk14_v6
    have hq15_v6 : v6 15 = (v 15) := hk15_v6
    have hq17_v6 : v6 17 = (v 17) := hk17_v6
    have hq18_v6 : v6 18 = (v 18) := hk18_v6
    have hq24_v6 : v6 24 = (v 24) := hk24_v6
    have hq25_v6 : v6 25 = (v 25) := hk25_v6
    have hq35_v6 : v6 35 = (v 35) := hk35_v6
    have hq36_v6 : v6 36 = (v 36) := hk36_v6
    have hq38_v6 : v6 38 = (v 38) := hk38_v6
    have hq39_v6 : v6 39 = (v 39) := hk39_v6
    refine lv_iconst (v := (-1)) hx hb dX11_dress_15 rfl ?_
    refine lv_istore_n (lv' := [(2, .int (-1)), (0, .ref y0), (1, .int p1)]) hx hb dX11_dress_16 rfl hl (Nat.le_of_ble_eq_true rfl) rfl (fun ls hl => ?_)
    refine lv_iconst (v := 0) hx hb dX11_dress_17 rfl ?_
    refine lv_istore_n (lv' := [(3, .int 0), (2, .int (-1)), (0, .ref y0), (1, .int p1)]) hx hb dX11_dress_18 rfl hl (Nat.le_of_ble_eq_true rfl) rfl (fun ls hl => ?_)
    refine lv_iconst (v := 0) hx hb dX11_dress_19 rfl ?_
    refine lv_istore (lv' := [(4, .int 0), (3, .int 0), (2, .int (-1)), (0, .ref y0), (1, .int p1)]) hx hb dX11_dress_20 hl (Nat.le_of_ble_eq_true rfl) rfl (fun ls hl => ?_)
    have lp10 : ∀ (n10 : Nat) (l2_10 : Int32) (l3_10 : Int32) (l4_10 : Int32) (v10 : Nat → Int32) (f10 : Nat → Nat → Int32) (w10 : Int64) (g10 : Nat → Int64), YI v10 → YC f10 → progOK (f10 4) (f10 5) (v10 9).toInt.toNat → v10 0 = (v 0) → v10 1 = (v 1) → v10 2 = (v 2) → v10 3 = (v 3) → v10 4 = (v 4) → v10 5 = (v 5) → v10 8 = (v 8) → v10 9 = (v 9) → v10 10 = (v 10) → v10 13 = (v 13) → v10 14 = (v 14) → v10 15 = (v 15) → v10 17 = (v 17) → v10 18 = (v 18) → v10 24 = (v 24) → v10 25 = (v 25) → v10 35 = (v 35) → v10 36 = (v 36) → v10 38 = (v 38) → v10 39 = (v 39) → ((0 : Int) ≤ l4_10.toInt ∧ l4_10.toInt ≤ 2147483647) → KV [37] v10 v → KF [7, 8, 24, 26, 27, 28] f10 f → (2147483647 - l4_10.toInt).toNat < n10 → ∀ (H : Heap) (locs : List Loc) (ls : Array Slot), va_P (dC, dI) vwCl (YW cy y0 r v10 f10 w10 g10) H → va_D A (YW cy y0 r v10 f10 w10 g10) → va_S A s.heap H locs → lv_has ls 7 [(4, .int l4_10), (3, .int l3_10), (2, .int l2_10), (0, .ref y0), (1, .int p1)] → W p l e { frames := 5, cells := 0, slots := 0, locals := 148 } s m ([.ref y0, .int p1] : List Value).toArray below meth c H locs 0 0 Q (F0 m 22 ls []) := by
      intro n10
      induction n10 with
      | zero => intro l2_10 l3_10 l4_10 v10 f10 w10 g10 hIv10 hCf10 hRf10 hq0_v10 hq1_v10 hq2_v10 hq3_v10 hq4_v10 hq5_v10 hq8_v10 hq9_v10 hq10_v10 hq13_v10 hq14_v10 hq15_v10 hq17_v10 hq18_v10 hq24_v10 hq25_v10 hq35_v10 hq36_v10 hq38_v10 hq39_v10 hr4_10 hM_v10 hA_f10 hm; exact absurd hm (Nat.not_lt_zero _)
      | succ n10 ih10 =>
        intro l2_10 l3_10 l4_10 v10 f10 w10 g10 hIv10 hCf10 hRf10 hq0_v10 hq1_v10 hq2_v10 hq3_v10 hq4_v10 hq5_v10 hq8_v10 hq9_v10 hq10_v10 hq13_v10 hq14_v10 hq15_v10 hq17_v10 hq18_v10 hq24_v10 hq25_v10 hq35_v10 hq36_v10 hq38_v10 hq39_v10 hr4_10 hM_v10 hA_f10 hm10 H locs ls hP hD hS hl
        have hUv10 : (v10 35).toInt + (v10 36).toInt ≤ 40 := hIv10.2
        have zq9_v10 := congrArg Int32.toInt hq9_v10
        refine lv_iload hx hb dX11_dress_22 (lv_at hl 0 rfl) ?_
        refine lv_aload_n hx hb dX11_dress_24 rfl (lv_at hl 3 rfl) ?_
        refine va_get (D := (dC, dI)) (ci := 11) (v := .int (v10 25)) (C := RX11) (T := TX11) (N := 79) hx hb hts inB_11 hown hE.1 hP 0 rfl rfl 49 (Nat.le_of_ble_eq_true rfl) (hts _ k_1369) (fun _ h9 => h9) rfl dX11_dress_25 ?_
        refine tI (y := (v 25)) hq25_v10 ?_
        have b25_v : 0 ≤ (v 25).toInt ∧ (v 25).toInt ≤ 6 := YIb.b hIv.1 25 (by decide)
        refine lv_iconst (v := 1) hx hb dX11_dress_28 rfl ?_
        refine lv_iadd hx hb dX11_dress_29 ?_
        refine lv_topi (fun t11 et11 => ?_)
        have rg12 := fb_rng (v 25)
        have zt11 : t11.toInt = (v 25).toInt + 1 := by rw [et11]; exact add_i rfl (by decide) (by omega) (by omega)
        refine lv_aload_n hx hb dX11_dress_30 rfl (lv_at hl 3 rfl) ?_
        refine va_get (D := (dC, dI)) (ci := 11) (v := .int (v10 24)) (C := RX11) (T := TX11) (N := 79) hx hb hts inB_11 hown hE.1 hP 0 rfl rfl 48 (Nat.le_of_ble_eq_true rfl) (hts _ k_1368) (fun _ h9 => h9) rfl dX11_dress_31 ?_
        refine tI (y := (v 24)) hq24_v10 ?_
        have b24_v : 0 ≤ (v 24).toInt ∧ (v 24).toInt ≤ 6 := YIb.b hIv.1 24 (by decide)
        refine cbSi (n := 2) (rest := [.int l4_10]) hx hb hml hown hts hE hP hD hS hA (sY_X11_power_1 0 l dC dI cy y0 r t11 (v 24) v10 f10 w10 g10 hIv10 hCf10 hRf10 ) k_1877 k_1878 k_114 k_1879 (by decide +kernel) ⟨Nat.le_of_ble_eq_true rfl, Nat.le_of_ble_eq_true rfl⟩ (rfl) hl.1 rfl (Nat.le_of_ble_eq_true rfl) dX11_dress_34 (fun r13 u H locs hw hP hD hS => ?_)
        have hG14 := hw
        refine lv_icmp_ge (tgt := 122) hx hb dX11_dress_37 rfl (fun c15 => ?_) (fun c15 => ?_)
        · skip
          have zc15 : r13.toInt ≤ l4_10.toInt := by rw [fa_le] at c15; exact c15
          have rg16 := fb_rng l4_10
          have rg17 := fb_rng r13
          refine lv_aload_n hx hb dX11_dress_122 rfl (lv_at hl 3 rfl) ?_
          refine lv_aload_n hx hb dX11_dress_123 rfl (lv_at hl 3 rfl) ?_
          refine va_get (D := (dC, dI)) (ci := 11) (v := .int (v10 24)) (C := RX11) (T := TX11) (N := 79) hx hb hts inB_11 hown hE.1 hP 0 rfl rfl 48 (Nat.le_of_ble_eq_true rfl) (hts _ k_1368) (fun _ h9 => h9) rfl dX11_dress_124 ?_
          refine tI (y := (v 24)) hq24_v10 ?_
          refine va_put (D := (dC, dI)) (ci := 11) (v := .int (v 24)) (ty := tyX11 67) (C := RX11) (T := TX11) (N := 79) hx hb hts inB_11 tyX11 tyX11_ok nmX11 hown hE.1 hP hD hS 0 rfl rfl 67 (Nat.le_of_ble_eq_true rfl) (hts _ k_1387) (fun _ h9 => h9) rfl (tyX11_ok 67 (by decide)) rfl rfl (Nat.le_of_ble_eq_true rfl) dX11_dress_127 (fun H locs hP hD hS => ?_)
          have hP : va_P (dC, dI) vwCl (YW cy y0 r (upd v10 37 (v 24)) f10 w10 g10) H := hP
          have hD : va_D A (YW cy y0 r (upd v10 37 (v 24)) f10 w10 g10) := hD
          refine lv_iload_n hx hb dX11_dress_130 rfl (lv_at hl 4 rfl) ?_
          refine lv_if_ne (tgt := 138) hx hb dX11_dress_131 rfl (fun c18 => ?_) (fun c18 => ?_)
          · skip
            have zc18 : ¬ (p1.toInt = 0) := by rw [fa_eq, show (0 : Int32).toInt = 0 from by decide] at c18; exact c18
            refine lv_iload_n hx hb dX11_dress_138 rfl (lv_at hl 1 rfl) ?_
            exact ret l3_10 ((upd v10 37 (v 24)), f10, w10, g10) _ _ _ _ _ _ rfl ⟨(KV.up (j := 37) (x := (v 24)) hM_v10 rfl), hA_f10, ⟨(YIb.upd (j := 37) (x := (v 24)) hIv10.1 (show (0 : Int) ≤ (v 24).toInt by omega) (show (v 24).toInt ≤ (6 : Int) by omega)), hIv10.2⟩, hCf10, hRf10, hq0_v10, hq1_v10, hq2_v10, hq3_v10, hq4_v10, hq5_v10, hq8_v10, hq9_v10, hq10_v10, hq13_v10, hq14_v10, hq15_v10, hq17_v10, hq18_v10, hq24_v10, hq25_v10, hq35_v10, hq36_v10, hq38_v10, hq39_v10⟩ hP hD hS dX11_dress_139 (Nat.le_refl _) (Nat.le_refl _)
          · skip
            have zc18 : p1.toInt = 0 := by rw [fa_eq, show (0 : Int32).toInt = 0 from by decide] at c18; exact c18
            refine lv_iload_n hx hb dX11_dress_134 rfl (lv_at hl 2 rfl) ?_
            refine lv_goto (tgt := 139) hx hb dX11_dress_135 rfl ?_
            exact ret l2_10 ((upd v10 37 (v 24)), f10, w10, g10) _ _ _ _ _ _ rfl ⟨(KV.up (j := 37) (x := (v 24)) hM_v10 rfl), hA_f10, ⟨(YIb.upd (j := 37) (x := (v 24)) hIv10.1 (show (0 : Int) ≤ (v 24).toInt by omega) (show (v 24).toInt ≤ (6 : Int) by omega)), hIv10.2⟩, hCf10, hRf10, hq0_v10, hq1_v10, hq2_v10, hq3_v10, hq4_v10, hq5_v10, hq8_v10, hq9_v10, hq10_v10, hq13_v10, hq14_v10, hq15_v10, hq17_v10, hq18_v10, hq24_v10, hq25_v10, hq35_v10, hq36_v10, hq38_v10, hq39_v10⟩ hP hD hS dX11_dress_139 (Nat.le_refl _) (Nat.le_refl _)
        · skip
          have zc15 : ¬ (r13.toInt ≤ l4_10.toInt) := by rw [fa_le] at c15; exact c15
          have rg19 := fb_rng l4_10
          have rg20 := fb_rng r13
          refine lv_aload_n hx hb dX11_dress_40 rfl (lv_at hl 3 rfl) ?_
          refine lv_iload hx hb dX11_dress_41 (lv_at hl 0 rfl) ?_
          refine cbVi (n := 1) (rest := []) hx hb hml hown hts hE hP hD hS hA (sY_X11_layDress_1 l dC dI cy y0 r l4_10 v10 f10 w10 g10 hIv10 hCf10 hRf10 ⟨show (0 : Int) ≤ l4_10.toInt by omega, show l4_10.toInt ≤ (2147483647 : Int) by omega⟩) k_1880 k_1882 k_85 k_114 k_1883 (by decide +kernel) ⟨Nat.le_of_ble_eq_true rfl, Nat.le_of_ble_eq_true rfl⟩ 0 11 rfl rfl (rfl) hl.1 rfl (Nat.le_of_ble_eq_true rfl) dX11_dress_43 (fun r21 u H locs hw hP hD hS => ?_)
          obtain ⟨v22, f23, w24, g25⟩ := u
          obtain ⟨kV_v22, kF_f23, hIv22, hCf23, hRf23, hk0_v22, hk1_v22, hk2_v22, hk3_v22, hk4_v22, hk5_v22, hk8_v22, hk9_v22, hk10_v22, hk13_v22, hk14_v22, hk15_v22, hk17_v22, hk18_v22, hk24_v22, hk25_v22, hk35_v22, hk36_v22, hk38_v22, hk39_v22⟩ := hw
          have hM_v22 : KV [37] v22 v := KV.tr kV_v22 hM_v10 rfl
          have hA_f23 : KF [7, 8, 24, 26, 27, 28] f23 f := KF.tr kF_f23 hA_f10 rfl
          have hP : va_P (dC, dI) vwCl (YW cy y0 r v22 f23 w24 g25) H := hP
          have hD : va_D A (YW cy y0 r v22 f23 w24 g25) := hD
          have hUv22 : (v22 35).toInt + (v22 36).toInt ≤ 40 := hIv22.2
          have hq0_v22 : v22 0 = (v 0) := hk0_v22.trans hq0_v10
          have hq1_v22 : v22 1 = (v 1) := hk1_v22.trans hq1_v10
          have hq2_v22 : v22 2 = (v 2) := hk2_v22.trans hq2_v10
          have hq3_v22 : v22 3 = (v 3) := hk3_v22.trans hq3_v10
          have hq4_v22 : v22 4 = (v 4) := hk4_v22.trans hq4_v10
          have hq5_v22 : v22 5 = (v 5) := hk5_v22.trans hq5_v10
          have hq8_v22 : v22 8 = (v 8) := hk8_v22.trans hq8_v10
          have hq9_v22 : v22 9 = (v 9) := hk9_v22.trans hq9_v10
          have zq9_v22 := congrArg Int32.toInt hq9_v22
          have hq10_v22 : v22 10 = (v 10) := hk10_v22.trans hq10_v10
          have hq13_v22 : v22 13 = (v 13) := hk13_v22.trans hq13_v10
          have hq14_v22 : v22 14 = (v 14) := hk14_v22.trans hq14_v10
          have hq15_v22 : v22 15 = (v 15) := hk15_v22.trans hq15_v10
          have hq17_v22 : v22 17 = (v 17) := hk17_v22.trans hq17_v10
          have hq18_v22 : v22 18 = (v 18) := hk18_v22.trans hq18_v10
          have hq24_v22 : v22 24 = (v 24) := hk24_v22.trans hq24_v10
          have hq25_v22 : v22 25 = (v 25) := hk25_v22.trans hq25_v10
          have hq35_v22 : v22 35 = (v 35) := hk35_v22.trans hq35_v10
          have hq36_v22 : v22 36 = (v 36) := hk36_v22.trans hq36_v10
          have hq38_v22 : v22 38 = (v 38) := hk38_v22.trans hq38_v10
          have hq39_v22 : v22 39 = (v 39) := hk39_v22.trans hq39_v10
          refine lv_istore (lv' := [(5, .int r21), (4, .int l4_10), (3, .int l3_10), (2, .int l2_10), (0, .ref y0), (1, .int p1)]) hx hb dX11_dress_46 hl (Nat.le_of_ble_eq_true rfl) rfl (fun ls hl => ?_)
          refine lv_iload hx hb dX11_dress_48 (lv_at hl 0 rfl) ?_
          refine lv_if_lt (tgt := 116) hx hb dX11_dress_50 rfl (fun c26 => ?_) (fun c26 => ?_)
          · skip
            have zc26 : r21.toInt < 0 := by rw [fa_lt, show (0 : Int32).toInt = 0 from by decide] at c26; exact c26
            obtain ⟨t27, et27⟩ : ∃ y : Int32, y = l4_10 + 1 := ⟨_, rfl⟩
            have zt27 : t27.toInt = l4_10.toInt + 1 := by rw [et27]; exact add_i rfl (by decide) (by omega) (by omega)
            refine lv_iinc (v := t27) (lv' := [(4, .int t27), (5, .int r21), (3, .int l3_10), (2, .int l2_10), (0, .ref y0), (1, .int p1)]) hx hb dX11_dress_116 hl (k := 1) rfl (by rw [et27]; rfl) (by decide) rfl (fun ls hl => ?_)
            refine lv_goto (tgt := 22) hx hb dX11_dress_119 rfl ?_
            have rg28 := fb_rng t27
            exact ih10 l2_10 l3_10 t27 v22 f23 w24 g25 hIv22 hCf23 hRf23 hq0_v22 hq1_v22 hq2_v22 hq3_v22 hq4_v22 hq5_v22 hq8_v22 hq9_v22 hq10_v22 hq13_v22 hq14_v22 hq15_v22 hq17_v22 hq18_v22 hq24_v22 hq25_v22 hq35_v22 hq36_v22 hq38_v22 hq39_v22 ⟨show (0 : Int) ≤ t27.toInt by omega, show t27.toInt ≤ (2147483647 : Int) by omega⟩ hM_v22 hA_f23 (by show (2147483647 - t27.toInt).toNat < n10; omega) _ _ _ hP hD hS (lv_sub hl [0, 2, 3, 4, 5] rfl)
          · skip
            have zc26 : ¬ (r21.toInt < 0) := by rw [fa_lt, show (0 : Int32).toInt = 0 from by decide] at c26; exact c26
            refine lv_iload hx hb dX11_dress_53 (lv_at hl 0 rfl) ?_
            refine lv_iload_n hx hb dX11_dress_55 rfl (lv_at hl 3 rfl) ?_
            refine lv_icmp_lt (tgt := 116) hx hb dX11_dress_56 rfl (fun c29 => ?_) (fun c29 => ?_)
            · skip
              have zc29 : r21.toInt < l2_10.toInt := by rw [fa_lt] at c29; exact c29
              have rg30 := fb_rng r21
              have rg31 := fb_rng l2_10
              obtain ⟨t32, et32⟩ : ∃ y : Int32, y = l4_10 + 1 := ⟨_, rfl⟩
              have zt32 : t32.toInt = l4_10.toInt + 1 := by rw [et32]; exact add_i rfl (by decide) (by omega) (by omega)
              refine lv_iinc (v := t32) (lv' := [(4, .int t32), (5, .int r21), (3, .int l3_10), (2, .int l2_10), (0, .ref y0), (1, .int p1)]) hx hb dX11_dress_116 hl (k := 1) rfl (by rw [et32]; rfl) (by decide) rfl (fun ls hl => ?_)
              refine lv_goto (tgt := 22) hx hb dX11_dress_119 rfl ?_
              have rg33 := fb_rng t32
              exact ih10 l2_10 l3_10 t32 v22 f23 w24 g25 hIv22 hCf23 hRf23 hq0_v22 hq1_v22 hq2_v22 hq3_v22 hq4_v22 hq5_v22 hq8_v22 hq9_v22 hq10_v22 hq13_v22 hq14_v22 hq15_v22 hq17_v22 hq18_v22 hq24_v22 hq25_v22 hq35_v22 hq36_v22 hq38_v22 hq39_v22 ⟨show (0 : Int) ≤ t32.toInt by omega, show t32.toInt ≤ (2147483647 : Int) by omega⟩ hM_v22 hA_f23 (by show (2147483647 - t32.toInt).toNat < n10; omega) _ _ _ hP hD hS (lv_sub hl [0, 2, 3, 4, 5] rfl)
            · skip
              have zc29 : ¬ (r21.toInt < l2_10.toInt) := by rw [fa_lt] at c29; exact c29
              have rg34 := fb_rng r21
              have rg35 := fb_rng l2_10
              refine lv_iload hx hb dX11_dress_59 (lv_at hl 0 rfl) ?_
              refine lv_iload_n hx hb dX11_dress_61 rfl (lv_at hl 3 rfl) ?_
              refine lv_icmp_ne (tgt := 76) hx hb dX11_dress_62 rfl (fun c36 => ?_) (fun c36 => ?_)
              · skip
                have zc36 : ¬ (r21.toInt = l2_10.toInt) := by rw [fa_eq] at c36; exact c36
                refine lv_iload hx hb dX11_dress_76 (lv_at hl 0 rfl) ?_
                refine lv_istore_n (lv' := [(2, .int r21), (5, .int r21), (4, .int l4_10), (3, .int l3_10), (0, .ref y0), (1, .int p1)]) hx hb dX11_dress_78 rfl hl (Nat.le_of_ble_eq_true rfl) rfl (fun ls hl => ?_)
                refine lv_aload_n hx hb dX11_dress_79 rfl (lv_at hl 4 rfl) ?_
                refine cbVi (n := 0) (rest := []) hx hb hml hown hts hE hP hD hS hA (sY_X11_illOfRow_1 l dC dI cy y0 r  v22 f23 w24 g25 hIv22 hCf23 hRf23 ) k_1884 k_1886 k_86 k_114 k_1887 (by decide +kernel) ⟨Nat.le_of_ble_eq_true rfl, Nat.le_of_ble_eq_true rfl⟩ 0 11 rfl rfl (rfl) hl.1 rfl (Nat.le_of_ble_eq_true rfl) dX11_dress_80 (fun r37 u H locs hw hP hD hS => ?_)
                refine lv_istore_n (lv' := [(3, .int r37), (2, .int r21), (5, .int r21), (4, .int l4_10), (0, .ref y0), (1, .int p1)]) hx hb dX11_dress_83 rfl hl (Nat.le_of_ble_eq_true rfl) rfl (fun ls hl => ?_)
                refine lv_iconst (v := 0) hx hb dX11_dress_84 rfl ?_
                refine lv_istore (lv' := [(6, .int 0), (3, .int r37), (2, .int r21), (5, .int r21), (4, .int l4_10), (0, .ref y0), (1, .int p1)]) hx hb dX11_dress_85 hl (Nat.le_of_ble_eq_true rfl) rfl (fun ls hl => ?_)
                have lp38 : ∀ (n38 : Nat) (l6_38 : Int32) (v38 : Nat → Int32) (f38 : Nat → Nat → Int32) (w38 : Int64) (g38 : Nat → Int64), YI v38 → YC f38 → progOK (f38 4) (f38 5) (v38 9).toInt.toNat → v38 0 = (v 0) → v38 1 = (v 1) → v38 2 = (v 2) → v38 3 = (v 3) → v38 4 = (v 4) → v38 5 = (v 5) → v38 8 = (v 8) → v38 9 = (v 9) → v38 10 = (v 10) → v38 13 = (v 13) → v38 14 = (v 14) → v38 15 = (v 15) → v38 17 = (v 17) → v38 18 = (v 18) → v38 24 = (v 24) → v38 25 = (v 25) → v38 35 = (v 35) → v38 36 = (v 36) → v38 38 = (v 38) → v38 39 = (v 39) → ((0 : Int) ≤ l6_38.toInt ∧ l6_38.toInt ≤ 2147483647) → KV [37] v38 v → KF [7, 8, 24, 26, 27, 28] f38 f → (2147483647 - l6_38.toInt).toNat < n38 → ∀ (H : Heap) (locs : List Loc) (ls : Array Slot), va_P (dC, dI) vwCl (YW cy y0 r v38 f38 w38 g38) H → va_D A (YW cy y0 r v38 f38 w38 g38) → va_S A s.heap H locs → lv_has ls 7 [(6, .int l6_38), (3, .int r37), (2, .int r21), (5, .int r21), (4, .int l4_10), (0, .ref y0), (1, .int p1)] → W p l e { frames := 5, cells := 0, slots := 0, locals := 148 } s m ([.ref y0, .int p1] : List Value).toArray below meth c H locs 0 0 Q (F0 m 87 ls []) := by
                  intro n38
                  induction n38 with
                  | zero => intro l6_38 v38 f38 w38 g38 hIv38 hCf38 hRf38 hq0_v38 hq1_v38 hq2_v38 hq3_v38 hq4_v38 hq5_v38 hq8_v38 hq9_v38 hq10_v38 hq13_v38 hq14_v38 hq15_v38 hq17_v38 hq18_v38 hq24_v38 hq25_v38 hq35_v38 hq36_v38 hq38_v38 hq39_v38 hr6_38 hM_v38 hA_f38 hm; exact absurd hm (Nat.not_lt_zero _)
                  | succ n38 ih38 =>
                    intro l6_38 v38 f38 w38 g38 hIv38 hCf38 hRf38 hq0_v38 hq1_v38 hq2_v38 hq3_v38 hq4_v38 hq5_v38 hq8_v38 hq9_v38 hq10_v38 hq13_v38 hq14_v38 hq15_v38 hq17_v38 hq18_v38 hq24_v38 hq25_v38 hq35_v38 hq36_v38 hq38_v38 hq39_v38 hr6_38 hM_v38 hA_f38 hm38 H locs ls hP hD hS hl
                    have hUv38 : (v38 35).toInt + (v38 36).toInt ≤ 40 := hIv38.2
                    have zq9_v38 := congrArg Int32.toInt hq9_v38
                    refine lv_iload hx hb dX11_dress_87 (lv_at hl 0 rfl) ?_
                    refine lv_aload_n hx hb dX11_dress_89 rfl (lv_at hl 5 rfl) ?_
                    refine va_get (D := (dC, dI)) (ci := 11) (v := .int (v38 24)) (C := RX11) (T := TX11) (N := 79) hx hb hts inB_11 hown hE.1 hP 0 rfl rfl 48 (Nat.le_of_ble_eq_true rfl) (hts _ k_1368) (fun _ h9 => h9) rfl dX11_dress_90 ?_
                    refine tI (y := (v 24)) hq24_v38 ?_
                    have b24_v : 0 ≤ (v 24).toInt ∧ (v 24).toInt ≤ 6 := YIb.b hIv.1 24 (by decide)
                    refine lv_icmp_ge (tgt := 116) hx hb dX11_dress_93 rfl (fun c39 => ?_) (fun c39 => ?_)
                    · skip
                      have zc39 : (v 24).toInt ≤ l6_38.toInt := by rw [fa_le] at c39; exact c39
                      have rg40 := fb_rng l6_38
                      have rg41 := fb_rng (v 24)
                      obtain ⟨t42, et42⟩ : ∃ y : Int32, y = l4_10 + 1 := ⟨_, rfl⟩
                      have zt42 : t42.toInt = l4_10.toInt + 1 := by rw [et42]; exact add_i rfl (by decide) (by omega) (by omega)
                      refine lv_iinc (v := t42) (lv' := [(4, .int t42), (6, .int l6_38), (3, .int r37), (2, .int r21), (5, .int r21), (0, .ref y0), (1, .int p1)]) hx hb dX11_dress_116 hl (k := 4) rfl (by rw [et42]; rfl) (by decide) rfl (fun ls hl => ?_)
                      refine lv_goto (tgt := 22) hx hb dX11_dress_119 rfl ?_
                      have rg43 := fb_rng t42
                      exact ih10 r21 r37 t42 v38 f38 w38 g38 hIv38 hCf38 hRf38 hq0_v38 hq1_v38 hq2_v38 hq3_v38 hq4_v38 hq5_v38 hq8_v38 hq9_v38 hq10_v38 hq13_v38 hq14_v38 hq15_v38 hq17_v38 hq18_v38 hq24_v38 hq25_v38 hq35_v38 hq36_v38 hq38_v38 hq39_v38 ⟨show (0 : Int) ≤ t42.toInt by omega, show t42.toInt ≤ (2147483647 : Int) by omega⟩ hM_v38 hA_f38 (by show (2147483647 - t42.toInt).toNat < n10; omega) _ _ _ hP hD hS (lv_sub hl [0, 2, 3, 5, 6] rfl)
                    · skip
                      have zc39 : ¬ ((v 24).toInt ≤ l6_38.toInt) := by rw [fa_le] at c39; exact c39
                      have rg44 := fb_rng l6_38
                      have rg45 := fb_rng (v 24)
                      refine lv_aload_n hx hb dX11_dress_96 rfl (lv_at hl 5 rfl) ?_
                      refine va_get (D := (dC, dI)) (ci := 11) (v := .ref (r 64)) (C := RX11) (T := TX11) (N := 79) hx hb hts inB_11 hown hE.1 hP 0 rfl rfl 64 (Nat.le_of_ble_eq_true rfl) (hts _ k_1384) (fun _ h9 => h9) rfl dX11_dress_97 ?_
                      refine lv_iload hx hb dX11_dress_100 (lv_at hl 0 rfl) ?_
                      refine lv_aload_n hx hb dX11_dress_102 rfl (lv_at hl 5 rfl) ?_
                      refine va_get (D := (dC, dI)) (ci := 11) (v := .ref (r 65)) (C := RX11) (T := TX11) (N := 79) hx hb hts inB_11 hown hE.1 hP 0 rfl rfl 65 (Nat.le_of_ble_eq_true rfl) (hts _ k_1385) (fun _ h9 => h9) rfl dX11_dress_103 ?_
                      refine lv_iload hx hb dX11_dress_106 (lv_at hl 0 rfl) ?_
                      refine ldI hx hb hE hP 28 rfl (vp_in_iff.mpr ⟨by omega, by omega⟩) rfl rfl dX11_dress_108 ?_
                      refine lv_topi (fun t46 et46 => ?_)
                      have zt46 : -1 ≤ t46.toInt ∧ t46.toInt ≤ 5 := by rw [et46]; exact hCf38.2.2.2.1 l6_38.toInt.toNat (show l6_38.toInt.toNat < 6 by omega)
                      refine stI hx hb hE hP hD hS 27 rfl (vp_in_iff.mpr ⟨by omega, by omega⟩) rfl dX11_dress_109 (fun H locs hP hD hS => ?_)
                      obtain ⟨f47, ef47, hP, hD⟩ : ∃ fz9, fz9 = upd2 f38 26 (upd (f38 26) l6_38.toNatClampNeg t46) ∧ va_P (dC, dI) vwCl (YW cy y0 r v38 fz9 w38 g38) H ∧ va_D A (YW cy y0 r v38 fz9 w38 g38) := ⟨_, rfl, hP, hD⟩
                      have hCf47 : YC f47 := by rw [ef47]; exact hCf38
                      have hRf47 : progOK (f47 4) (f47 5) (v38 9).toInt.toNat := by rw [ef47]; exact hRf38
                      have hA_f47 : KF [7, 8, 24, 26, 27, 28] f47 f := by rw [ef47]; exact KF.up hA_f38 rfl
                      obtain ⟨t48, et48⟩ : ∃ y : Int32, y = l6_38 + 1 := ⟨_, rfl⟩
                      have zt48 : t48.toInt = l6_38.toInt + 1 := by rw [et48]; exact add_i rfl (by decide) (by omega) (by omega)
                      refine lv_iinc (v := t48) (lv' := [(6, .int t48), (3, .int r37), (2, .int r21), (5, .int r21), (4, .int l4_10), (0, .ref y0), (1, .int p1)]) hx hb dX11_dress_110 hl (k := 0) rfl (by rw [et48]; rfl) (by decide) rfl (fun ls hl => ?_)
                      refine lv_goto (tgt := 87) hx hb dX11_dress_113 rfl ?_
                      have rg49 := fb_rng t48
                      exact ih38 t48 v38 f47 w38 g38 hIv38 hCf47 hRf47 hq0_v38 hq1_v38 hq2_v38 hq3_v38 hq4_v38 hq5_v38 hq8_v38 hq9_v38 hq10_v38 hq13_v38 hq14_v38 hq15_v38 hq17_v38 hq18_v38 hq24_v38 hq25_v38 hq35_v38 hq36_v38 hq38_v38 hq39_v38 ⟨show (0 : Int) ≤ t48.toInt by omega, show t48.toInt ≤ (2147483647 : Int) by omega⟩ hM_v38 hA_f47 (by show (2147483647 - t48.toInt).toNat < n38; omega) _ _ _ hP hD hS (lv_sub hl [0, 1, 2, 3, 4, 5, 6] rfl)
                exact lp38 _ 0 v22 f23 w24 g25 hIv22 hCf23 hRf23 hq0_v22 hq1_v22 hq2_v22 hq3_v22 hq4_v22 hq5_v22 hq8_v22 hq9_v22 hq10_v22 hq13_v22 hq14_v22 hq15_v22 hq17_v22 hq18_v22 hq24_v22 hq25_v22 hq35_v22 hq36_v22 hq38_v22 hq39_v22 ⟨by decide, by decide⟩ hM_v22 hA_f23 (Nat.lt_succ_self _) _ _ _ hP hD hS (lv_sub hl [0, 1, 2, 3, 4, 5, 6] rfl)
              · skip
                have zc36 : r21.toInt = l2_10.toInt := by rw [fa_eq] at c36; exact c36
                refine lv_aload_n hx hb dX11_dress_65 rfl (lv_at hl 4 rfl) ?_
                refine cbVi (n := 0) (rest := []) hx hb hml hown hts hE hP hD hS hA (sY_X11_illOfRow_1 l dC dI cy y0 r  v22 f23 w24 g25 hIv22 hCf23 hRf23 ) k_1884 k_1886 k_86 k_114 k_1887 (by decide +kernel) ⟨Nat.le_of_ble_eq_true rfl, Nat.le_of_ble_eq_true rfl⟩ 0 11 rfl rfl (rfl) hl.1 rfl (Nat.le_of_ble_eq_true rfl) dX11_dress_66 (fun r50 u H locs hw hP hD hS => ?_)
                refine lv_iload_n hx hb dX11_dress_69 rfl (lv_at hl 2 rfl) ?_
                refine lv_icmp_lt (tgt := 76) hx hb dX11_dress_70 rfl (fun c51 => ?_) (fun c51 => ?_)
                · skip
                  have zc51 : r50.toInt < l3_10.toInt := by rw [fa_lt] at c51; exact c51
                  have rg52 := fb_rng r50
                  have rg53 := fb_rng l3_10
                  refine lv_iload hx hb dX11_dress_76 (lv_at hl 0 rfl) ?_
                  refine lv_istore_n (lv' := [(2, .int r21), (5, .int r21), (4, .int l4_10), (3, .int l3_10), (0, .ref y0), (1, .int p1)]) hx hb dX11_dress_78 rfl hl (Nat.le_of_ble_eq_true rfl) rfl (fun ls hl => ?_)
                  refine lv_aload_n hx hb dX11_dress_79 rfl (lv_at hl 4 rfl) ?_
                  refine cbVi (n := 0) (rest := []) hx hb hml hown hts hE hP hD hS hA (sY_X11_illOfRow_1 l dC dI cy y0 r  v22 f23 w24 g25 hIv22 hCf23 hRf23 ) k_1884 k_1886 k_86 k_114 k_1887 (by decide +kernel) ⟨Nat.le_of_ble_eq_true rfl, Nat.le_of_ble_eq_true rfl⟩ 0 11 rfl rfl (rfl) hl.1 rfl (Nat.le_of_ble_eq_true rfl) dX11_dress_80 (fun r54 u H locs hw hP hD hS => ?_)
                  refine lv_istore_n (lv' := [(3, .int r54), (2, .int r21), (5, .int r21), (4, .int l4_10), (0, .ref y0), (1, .int p1)]) hx hb dX11_dress_83 rfl hl (Nat.le_of_ble_eq_true rfl) rfl (fun ls hl => ?_)
                  refine lv_iconst (v := 0) hx hb dX11_dress_84 rfl ?_
                  refine lv_istore (lv' := [(6, .int 0), (3, .int r54), (2, .int r21), (5, .int r21), (4, .int l4_10), (0, .ref y0), (1, .int p1)]) hx hb dX11_dress_85 hl (Nat.le_of_ble_eq_true rfl) rfl (fun ls hl => ?_)
                  have lp55 : ∀ (n55 : Nat) (l6_55 : Int32) (v55 : Nat → Int32) (f55 : Nat → Nat → Int32) (w55 : Int64) (g55 : Nat → Int64), YI v55 → YC f55 → progOK (f55 4) (f55 5) (v55 9).toInt.toNat → v55 0 = (v 0) → v55 1 = (v 1) → v55 2 = (v 2) → v55 3 = (v 3) → v55 4 = (v 4) → v55 5 = (v 5) → v55 8 = (v 8) → v55 9 = (v 9) → v55 10 = (v 10) → v55 13 = (v 13) → v55 14 = (v 14) → v55 15 = (v 15) → v55 17 = (v 17) → v55 18 = (v 18) → v55 24 = (v 24) → v55 25 = (v 25) → v55 35 = (v 35) → v55 36 = (v 36) → v55 38 = (v 38) → v55 39 = (v 39) → ((0 : Int) ≤ l6_55.toInt ∧ l6_55.toInt ≤ 2147483647) → KV [37] v55 v → KF [7, 8, 24, 26, 27, 28] f55 f → (2147483647 - l6_55.toInt).toNat < n55 → ∀ (H : Heap) (locs : List Loc) (ls : Array Slot), va_P (dC, dI) vwCl (YW cy y0 r v55 f55 w55 g55) H → va_D A (YW cy y0 r v55 f55 w55 g55) → va_S A s.heap H locs → lv_has ls 7 [(6, .int l6_55), (3, .int r54), (2, .int r21), (5, .int r21), (4, .int l4_10), (0, .ref y0), (1, .int p1)] → W p l e { frames := 5, cells := 0, slots := 0, locals := 148 } s m ([.ref y0, .int p1] : List Value).toArray below meth c H locs 0 0 Q (F0 m 87 ls []) := by
                    intro n55
                    induction n55 with
                    | zero => intro l6_55 v55 f55 w55 g55 hIv55 hCf55 hRf55 hq0_v55 hq1_v55 hq2_v55 hq3_v55 hq4_v55 hq5_v55 hq8_v55 hq9_v55 hq10_v55 hq13_v55 hq14_v55 hq15_v55 hq17_v55 hq18_v55 hq24_v55 hq25_v55 hq35_v55 hq36_v55 hq38_v55 hq39_v55 hr6_55 hM_v55 hA_f55 hm; exact absurd hm (Nat.not_lt_zero _)
                    | succ n55 ih55 =>
                      intro l6_55 v55 f55 w55 g55 hIv55 hCf55 hRf55 hq0_v55 hq1_v55 hq2_v55 hq3_v55 hq4_v55 hq5_v55 hq8_v55 hq9_v55 hq10_v55 hq13_v55 hq14_v55 hq15_v55 hq17_v55 hq18_v55 hq24_v55 hq25_v55 hq35_v55 hq36_v55 hq38_v55 hq39_v55 hr6_55 hM_v55 hA_f55 hm55 H locs ls hP hD hS hl
                      have hUv55 : (v55 35).toInt + (v55 36).toInt ≤ 40 := hIv55.2
                      have zq9_v55 := congrArg Int32.toInt hq9_v55
                      refine lv_iload hx hb dX11_dress_87 (lv_at hl 0 rfl) ?_
                      refine lv_aload_n hx hb dX11_dress_89 rfl (lv_at hl 5 rfl) ?_
                      refine va_get (D := (dC, dI)) (ci := 11) (v := .int (v55 24)) (C := RX11) (T := TX11) (N := 79) hx hb hts inB_11 hown hE.1 hP 0 rfl rfl 48 (Nat.le_of_ble_eq_true rfl) (hts _ k_1368) (fun _ h9 => h9) rfl dX11_dress_90 ?_
                      refine tI (y := (v 24)) hq24_v55 ?_
                      have b24_v : 0 ≤ (v 24).toInt ∧ (v 24).toInt ≤ 6 := YIb.b hIv.1 24 (by decide)
                      refine lv_icmp_ge (tgt := 116) hx hb dX11_dress_93 rfl (fun c56 => ?_) (fun c56 => ?_)
                      · skip
                        have zc56 : (v 24).toInt ≤ l6_55.toInt := by rw [fa_le] at c56; exact c56
                        have rg57 := fb_rng l6_55
                        have rg58 := fb_rng (v 24)
                        obtain ⟨t59, et59⟩ : ∃ y : Int32, y = l4_10 + 1 := ⟨_, rfl⟩
                        have zt59 : t59.toInt = l4_10.toInt + 1 := by rw [et59]; exact add_i rfl (by decide) (by omega) (by omega)
                        refine lv_iinc (v := t59) (lv' := [(4, .int t59), (6, .int l6_55), (3, .int r54), (2, .int r21), (5, .int r21), (0, .ref y0), (1, .int p1)]) hx hb dX11_dress_116 hl (k := 4) rfl (by rw [et59]; rfl) (by decide) rfl (fun ls hl => ?_)
                        refine lv_goto (tgt := 22) hx hb dX11_dress_119 rfl ?_
                        have rg60 := fb_rng t59
                        exact ih10 r21 r54 t59 v55 f55 w55 g55 hIv55 hCf55 hRf55 hq0_v55 hq1_v55 hq2_v55 hq3_v55 hq4_v55 hq5_v55 hq8_v55 hq9_v55 hq10_v55 hq13_v55 hq14_v55 hq15_v55 hq17_v55 hq18_v55 hq24_v55 hq25_v55 hq35_v55 hq36_v55 hq38_v55 hq39_v55 ⟨show (0 : Int) ≤ t59.toInt by omega, show t59.toInt ≤ (2147483647 : Int) by omega⟩ hM_v55 hA_f55 (by show (2147483647 - t59.toInt).toNat < n10; omega) _ _ _ hP hD hS (lv_sub hl [0, 2, 3, 5, 6] rfl)
                      · skip
                        have zc56 : ¬ ((v 24).toInt ≤ l6_55.toInt) := by rw [fa_le] at c56; exact c56
                        have rg61 := fb_rng l6_55
                        have rg62 := fb_rng (v 24)
                        refine lv_aload_n hx hb dX11_dress_96 rfl (lv_at hl 5 rfl) ?_
                        refine va_get (D := (dC, dI)) (ci := 11) (v := .ref (r 64)) (C := RX11) (T := TX11) (N := 79) hx hb hts inB_11 hown hE.1 hP 0 rfl rfl 64 (Nat.le_of_ble_eq_true rfl) (hts _ k_1384) (fun _ h9 => h9) rfl dX11_dress_97 ?_
                        refine lv_iload hx hb dX11_dress_100 (lv_at hl 0 rfl) ?_
                        refine lv_aload_n hx hb dX11_dress_102 rfl (lv_at hl 5 rfl) ?_
                        refine va_get (D := (dC, dI)) (ci := 11) (v := .ref (r 65)) (C := RX11) (T := TX11) (N := 79) hx hb hts inB_11 hown hE.1 hP 0 rfl rfl 65 (Nat.le_of_ble_eq_true rfl) (hts _ k_1385) (fun _ h9 => h9) rfl dX11_dress_103 ?_
                        refine lv_iload hx hb dX11_dress_106 (lv_at hl 0 rfl) ?_
                        refine ldI hx hb hE hP 28 rfl (vp_in_iff.mpr ⟨by omega, by omega⟩) rfl rfl dX11_dress_108 ?_
                        refine lv_topi (fun t63 et63 => ?_)
                        have zt63 : -1 ≤ t63.toInt ∧ t63.toInt ≤ 5 := by rw [et63]; exact hCf55.2.2.2.1 l6_55.toInt.toNat (show l6_55.toInt.toNat < 6 by omega)
                        refine stI hx hb hE hP hD hS 27 rfl (vp_in_iff.mpr ⟨by omega, by omega⟩) rfl dX11_dress_109 (fun H locs hP hD hS => ?_)
                        obtain ⟨f64, ef64, hP, hD⟩ : ∃ fz9, fz9 = upd2 f55 26 (upd (f55 26) l6_55.toNatClampNeg t63) ∧ va_P (dC, dI) vwCl (YW cy y0 r v55 fz9 w55 g55) H ∧ va_D A (YW cy y0 r v55 fz9 w55 g55) := ⟨_, rfl, hP, hD⟩
                        have hCf64 : YC f64 := by rw [ef64]; exact hCf55
                        have hRf64 : progOK (f64 4) (f64 5) (v55 9).toInt.toNat := by rw [ef64]; exact hRf55
                        have hA_f64 : KF [7, 8, 24, 26, 27, 28] f64 f := by rw [ef64]; exact KF.up hA_f55 rfl
                        obtain ⟨t65, et65⟩ : ∃ y : Int32, y = l6_55 + 1 := ⟨_, rfl⟩
                        have zt65 : t65.toInt = l6_55.toInt + 1 := by rw [et65]; exact add_i rfl (by decide) (by omega) (by omega)
                        refine lv_iinc (v := t65) (lv' := [(6, .int t65), (3, .int r54), (2, .int r21), (5, .int r21), (4, .int l4_10), (0, .ref y0), (1, .int p1)]) hx hb dX11_dress_110 hl (k := 0) rfl (by rw [et65]; rfl) (by decide) rfl (fun ls hl => ?_)
                        refine lv_goto (tgt := 87) hx hb dX11_dress_113 rfl ?_
                        have rg66 := fb_rng t65
                        exact ih55 t65 v55 f64 w55 g55 hIv55 hCf64 hRf64 hq0_v55 hq1_v55 hq2_v55 hq3_v55 hq4_v55 hq5_v55 hq8_v55 hq9_v55 hq10_v55 hq13_v55 hq14_v55 hq15_v55 hq17_v55 hq18_v55 hq24_v55 hq25_v55 hq35_v55 hq36_v55 hq38_v55 hq39_v55 ⟨show (0 : Int) ≤ t65.toInt by omega, show t65.toInt ≤ (2147483647 : Int) by omega⟩ hM_v55 hA_f64 (by show (2147483647 - t65.toInt).toNat < n55; omega) _ _ _ hP hD hS (lv_sub hl [0, 1, 2, 3, 4, 5, 6] rfl)
                  exact lp55 _ 0 v22 f23 w24 g25 hIv22 hCf23 hRf23 hq0_v22 hq1_v22 hq2_v22 hq3_v22 hq4_v22 hq5_v22 hq8_v22 hq9_v22 hq10_v22 hq13_v22 hq14_v22 hq15_v22 hq17_v22 hq18_v22 hq24_v22 hq25_v22 hq35_v22 hq36_v22 hq38_v22 hq39_v22 ⟨by decide, by decide⟩ hM_v22 hA_f23 (Nat.lt_succ_self _) _ _ _ hP hD hS (lv_sub hl [0, 1, 2, 3, 4, 5, 6] rfl)
                · skip
                  have zc51 : ¬ (r50.toInt < l3_10.toInt) := by rw [fa_lt] at c51; exact c51
                  have rg67 := fb_rng r50
                  have rg68 := fb_rng l3_10
                  refine lv_goto (tgt := 116) hx hb dX11_dress_73 rfl ?_
                  obtain ⟨t69, et69⟩ : ∃ y : Int32, y = l4_10 + 1 := ⟨_, rfl⟩
                  have zt69 : t69.toInt = l4_10.toInt + 1 := by rw [et69]; exact add_i rfl (by decide) (by omega) (by omega)
                  refine lv_iinc (v := t69) (lv' := [(4, .int t69), (5, .int r21), (3, .int l3_10), (2, .int l2_10), (0, .ref y0), (1, .int p1)]) hx hb dX11_dress_116 hl (k := 1) rfl (by rw [et69]; rfl) (by decide) rfl (fun ls hl => ?_)
                  refine lv_goto (tgt := 22) hx hb dX11_dress_119 rfl ?_
                  have rg70 := fb_rng t69
                  exact ih10 l2_10 l3_10 t69 v22 f23 w24 g25 hIv22 hCf23 hRf23 hq0_v22 hq1_v22 hq2_v22 hq3_v22 hq4_v22 hq5_v22 hq8_v22 hq9_v22 hq10_v22 hq13_v22 hq14_v22 hq15_v22 hq17_v22 hq18_v22 hq24_v22 hq25_v22 hq35_v22 hq36_v22 hq38_v22 hq39_v22 ⟨show (0 : Int) ≤ t69.toInt by omega, show t69.toInt ≤ (2147483647 : Int) by omega⟩ hM_v22 hA_f23 (by show (2147483647 - t69.toInt).toNat < n10; omega) _ _ _ hP hD hS (lv_sub hl [0, 2, 3, 4, 5] rfl)
    exact lp10 _ (-1) 0 0 v6 f7 w8 g9 hIv6 hCf7 hRf7 hq0_v6 hq1_v6 hq2_v6 hq3_v6 hq4_v6 hq5_v6 hq8_v6 hq9_v6 hq10_v6 hq13_v6 hq14_v6 hq15_v6 hq17_v6 hq18_v6 hq24_v6 hq25_v6 hq35_v6 hq36_v6 hq38_v6 hq39_v6 ⟨by decide, by decide⟩ hM_v6 hA_f7 (Nat.lt_succ_self _) _ _ _ hP hD hS (lv_sub hl [0, 1, 2, 3, 4] rfl)
  · skip
    subst g5
    refine lv_if_ne (tgt := 11) hx hb dX11_dress_6 rfl (fun c0 => absurd (by decide) c0) (fun _ => ?_)
    refine lv_iconst (v := (-1)) hx hb dX11_dress_9 rfl ?_
    exact ret (-1) (v, f, w, g) _ _ _ _ _ _ rfl ⟨hM_v, hA_f, hIv, hCf, hRf, rfl, rfl, rfl, rfl, rfl, rfl, rfl, rfl, rfl, rfl, rfl, rfl, rfl, rfl, rfl, rfl, rfl, rfl, rfl, rfl⟩ hP hD hS dX11_dress_10 (Nat.le_refl _) (Nat.le_refl _)
set_option maxHeartbeats 4000000 in
set_option maxRecDepth 100000 in
theorem sY_X11_isSewn_1 (l : Launch) (dC : Nat → ClassId) (dI : Nat → Nat → Nat) (cy : Nat → ClassId) (y0 : Nat) (r : Nat → Nat) (p1 : Int32) (p2 : Int32) (p3 : Int32) (p4 : Int32) (v : Nat → Int32) (f : Nat → Nat → Int32) (w : Int64) (g : Nat → Int64) (hIv : YI v) (hCf : YC f) (hRf : progOK (f 4) (f 5) (v 9).toInt.toNat) (hp1 : (0 : Int) ≤ p1.toInt ∧ p1.toInt ≤ 5) (hp2 : (0 : Int) ≤ p2.toInt ∧ p2.toInt ≤ 5) : ctI l (dC, dI) cy yX11_isSewn cX11_isSewn 5 .boolean 4 126 0 0 ((Nat → Int32) × (Nat → Nat → Int32) × (Int64) × (Nat → Int64)) [.ref y0, .int p1, .int p2, .int p3, .int p4] (YW cy y0 r v f w g) (fun r u => KV [] u.1 v ∧ KF [7, 8, 24] u.2.1 f ∧ YI u.1 ∧ YC u.2.1 ∧ progOK (u.2.1 4) (u.2.1 5) (u.1 9).toInt.toNat ∧ u.1 0 = v 0 ∧ u.1 1 = v 1 ∧ u.1 2 = v 2 ∧ u.1 3 = v 3 ∧ u.1 4 = v 4 ∧ u.1 5 = v 5 ∧ u.1 8 = v 8 ∧ u.1 9 = v 9 ∧ u.1 10 = v 10 ∧ u.1 13 = v 13 ∧ u.1 14 = v 14 ∧ u.1 15 = v 15 ∧ u.1 17 = v 17 ∧ u.1 18 = v 18 ∧ u.1 24 = v 24 ∧ u.1 25 = v 25 ∧ u.1 35 = v 35 ∧ u.1 36 = v 36 ∧ u.1 38 = v 38 ∧ u.1 39 = v 39 ∧ ((r = 1) ∨ (r = 0))) (fun u => YW cy y0 r u.1 u.2.1 u.2.2.1 u.2.2.2) := by
  refine ctI_of (by decide) (Nat.le_of_ble_eq_true rfl) (fun p e s m below meth c A ls Q hx hb hml hts hown hE hP hD hA hl ret => ?_)
  have hUv : (v 35).toInt + (v 36).toInt ≤ 40 := hIv.2
  have hM_v : KV [] v v := fun _ _ => rfl
  have hA_f : KF [7, 8, 24] f f := fun _ _ => rfl
  have hown : s.vm.findClass RX11 = some m.cls := hown
  have hS : va_S A s.heap s.heap [] := va_S.rf
  have hl : lv_has ls 5 [(0, .ref y0), (1, .int p1), (2, .int p2), (3, .int p3), (4, .int p4)] := hl
  refine lv_aload_n hx hb dX11_isSewn_0 rfl (lv_at hl 0 rfl) ?_
  refine cbVv (n := 0) (rest := []) hx hb hml hown hts hE hP hD hS hA (sY_X11_fill_1 l dC dI cy y0 r  v f w g hIv hCf hRf ) k_1739 k_1741 k_71 k_114 k_1742 (by decide +kernel) ⟨Nat.le_of_ble_eq_true rfl, Nat.le_of_ble_eq_true rfl⟩ 0 11 rfl rfl (rfl) hl.1 rfl (Nat.le_of_ble_eq_true rfl) dX11_isSewn_1 (fun u H locs hw hP hD hS => ?_)
  obtain ⟨v1, f2, w3, g4⟩ := u
  obtain ⟨kV_v1, kF_f2, hIv1, hCf2, hRf2, hk0_v1, hk1_v1, hk2_v1, hk3_v1, hk4_v1, hk5_v1, hk8_v1, hk9_v1, hk10_v1, hk13_v1, hk14_v1, hk15_v1, hk17_v1, hk18_v1, hk24_v1, hk25_v1, hk35_v1, hk36_v1, hk38_v1, hk39_v1⟩ := hw
  have hM_v1 : KV [] v1 v := KV.tr kV_v1 hM_v rfl
  have hA_f2 : KF [7, 8, 24] f2 f := KF.tr kF_f2 hA_f rfl
  have hP : va_P (dC, dI) vwCl (YW cy y0 r v1 f2 w3 g4) H := hP
  have hD : va_D A (YW cy y0 r v1 f2 w3 g4) := hD
  have hUv1 : (v1 35).toInt + (v1 36).toInt ≤ 40 := hIv1.2
  have hq9_v1 : v1 9 = (v 9) := hk9_v1
  have zq9_v1 := congrArg Int32.toInt hq9_v1
  refine lv_aload_n hx hb dX11_isSewn_4 rfl (lv_at hl 0 rfl) ?_
  refine va_get (D := (dC, dI)) (ci := 11) (v := .ref (r 60)) (C := RX11) (T := TX11) (N := 79) hx hb hts inB_11 hown hE.1 hP 0 rfl rfl 60 (Nat.le_of_ble_eq_true rfl) (hts _ k_1380) (fun _ h9 => h9) rfl dX11_isSewn_5 ?_
  refine lv_bipush (v := 12) hx hb dX11_isSewn_8 rfl ?_
  refine lv_iload_n hx hb dX11_isSewn_10 rfl (lv_at hl 1 rfl) ?_
  refine lv_iadd hx hb dX11_isSewn_11 ?_
  refine lv_topi (fun t5 et5 => ?_)
  have rg6 := fb_rng p1
  have zt5 : t5.toInt = 12 + p1.toInt := by rw [et5]; exact add_i (by decide) rfl (by omega) (by omega)
  refine lv_dup2_11 hx hb dX11_isSewn_12 rfl rfl ?_
  refine ldI hx hb hE hP 25 rfl (vp_in_iff.mpr ⟨by omega, by omega⟩) rfl rfl dX11_isSewn_13 ?_
  refine lv_topi (fun t7 et7 => ?_)
  have zt7 : t5.toInt.toNat % 39 < 6 ∨ 12 ≤ t5.toInt.toNat % 39 ∨ (-1 ≤ t7.toInt ∧ t7.toInt ≤ 5) := by rw [et7]; exact wear_ld hCf2.2.1 (show t5.toInt.toNat < 39 by omega)
  refine lv_iload_n hx hb dX11_isSewn_14 rfl (lv_at hl 3 rfl) ?_
  refine lv_isub hx hb dX11_isSewn_15 ?_
  refine lv_topi (fun t8 et8 => ?_)
  refine stI hx hb hE hP hD hS 25 rfl (vp_in_iff.mpr ⟨by omega, by omega⟩) rfl dX11_isSewn_16 (fun H locs hP hD hS => ?_)
  obtain ⟨f9, ef9, hP, hD⟩ : ∃ fz9, fz9 = upd2 f2 24 (upd (f2 24) t5.toNatClampNeg t8) ∧ va_P (dC, dI) vwCl (YW cy y0 r v1 fz9 w3 g4) H ∧ va_D A (YW cy y0 r v1 fz9 w3 g4) := ⟨_, rfl, hP, hD⟩
  have hCf9 : YC f9 := by rw [ef9]; exact ⟨hCf2.1, (wear_st hCf2.2.1 (by show t5.toInt.toNat % 39 < 6 ∨ 12 ≤ t5.toInt.toNat % 39 ∨ (-1 ≤ t8.toInt ∧ t8.toInt ≤ 5); omega)), hCf2.2.2.1, hCf2.2.2.2.1, hCf2.2.2.2.2.1, hCf2.2.2.2.2.2⟩
  have hRf9 : progOK (f9 4) (f9 5) (v1 9).toInt.toNat := by rw [ef9]; exact hRf2
  have hA_f9 : KF [7, 8, 24] f9 f := by rw [ef9]; exact KF.up hA_f2 rfl
  refine lv_aload_n hx hb dX11_isSewn_17 rfl (lv_at hl 0 rfl) ?_
  refine va_get (D := (dC, dI)) (ci := 11) (v := .ref (r 60)) (C := RX11) (T := TX11) (N := 79) hx hb hts inB_11 hown hE.1 hP 0 rfl rfl 60 (Nat.le_of_ble_eq_true rfl) (hts _ k_1380) (fun _ h9 => h9) rfl dX11_isSewn_18 ?_
  refine lv_bipush (v := 18) hx hb dX11_isSewn_21 rfl ?_
  refine lv_iload_n hx hb dX11_isSewn_23 rfl (lv_at hl 1 rfl) ?_
  refine lv_iadd hx hb dX11_isSewn_24 ?_
  refine lv_topi (fun t10 et10 => ?_)
  have zt10 : t10.toInt = 18 + p1.toInt := by rw [et10]; exact add_i (by decide) rfl (by omega) (by omega)
  refine lv_dup2_11 hx hb dX11_isSewn_25 rfl rfl ?_
  refine ldI hx hb hE hP 25 rfl (vp_in_iff.mpr ⟨by omega, by omega⟩) rfl rfl dX11_isSewn_26 ?_
  refine lv_topi (fun t11 et11 => ?_)
  have zt11 : t10.toInt.toNat % 39 < 6 ∨ 12 ≤ t10.toInt.toNat % 39 ∨ (-1 ≤ t11.toInt ∧ t11.toInt ≤ 5) := by rw [et11]; exact wear_ld hCf9.2.1 (show t10.toInt.toNat < 39 by omega)
  refine lv_iload hx hb dX11_isSewn_27 (lv_at hl 4 rfl) ?_
  refine lv_isub hx hb dX11_isSewn_29 ?_
  refine lv_topi (fun t12 et12 => ?_)
  refine stI hx hb hE hP hD hS 25 rfl (vp_in_iff.mpr ⟨by omega, by omega⟩) rfl dX11_isSewn_30 (fun H locs hP hD hS => ?_)
  obtain ⟨f13, ef13, hP, hD⟩ : ∃ fz9, fz9 = upd2 f9 24 (upd (f9 24) t10.toNatClampNeg t12) ∧ va_P (dC, dI) vwCl (YW cy y0 r v1 fz9 w3 g4) H ∧ va_D A (YW cy y0 r v1 fz9 w3 g4) := ⟨_, rfl, hP, hD⟩
  have hCf13 : YC f13 := by rw [ef13]; exact ⟨hCf9.1, (wear_st hCf9.2.1 (by show t10.toInt.toNat % 39 < 6 ∨ 12 ≤ t10.toInt.toNat % 39 ∨ (-1 ≤ t12.toInt ∧ t12.toInt ≤ 5); omega)), hCf9.2.2.1, hCf9.2.2.2.1, hCf9.2.2.2.2.1, hCf9.2.2.2.2.2⟩
  have hRf13 : progOK (f13 4) (f13 5) (v1 9).toInt.toNat := by rw [ef13]; exact hRf9
  have hA_f13 : KF [7, 8, 24] f13 f := by rw [ef13]; exact KF.up hA_f9 rfl
  refine lv_aload_n hx hb dX11_isSewn_31 rfl (lv_at hl 0 rfl) ?_
  refine lv_iload_n hx hb dX11_isSewn_32 rfl (lv_at hl 2 rfl) ?_
  refine lv_iload_n hx hb dX11_isSewn_33 rfl (lv_at hl 1 rfl) ?_
  refine cbVi (n := 2) (rest := []) hx hb hml hown hts hE hP hD hS hA (sY_X11_misfitOf_1 l dC dI cy y0 r p2 p1 v1 f13 w3 g4 hIv1 hCf13 hRf13 ⟨show (0 : Int) ≤ p2.toInt by omega, show p2.toInt ≤ (5 : Int) by omega⟩ ⟨show (0 : Int) ≤ p1.toInt by omega, show p1.toInt ≤ (5 : Int) by omega⟩) k_1751 k_1753 k_74 k_114 k_1754 (by decide +kernel) ⟨Nat.le_of_ble_eq_true rfl, Nat.le_of_ble_eq_true rfl⟩ 0 11 rfl rfl (rfl) hl.1 rfl (Nat.le_of_ble_eq_true rfl) dX11_isSewn_34 (fun r14 u H locs hw hP hD hS => ?_)
  obtain ⟨v15, f16, w17, g18⟩ := u
  obtain ⟨kV_v15, kF_f16, hIv15, hCf16, hRf16, hk0_v15, hk1_v15, hk2_v15, hk3_v15, hk4_v15, hk5_v15, hk8_v15, hk9_v15, hk10_v15, hk13_v15, hk14_v15, hk15_v15, hk17_v15, hk18_v15, hk24_v15, hk25_v15, hk35_v15, hk36_v15, hk38_v15, hk39_v15⟩ := hw
  have hM_v15 : KV [] v15 v := KV.tr kV_v15 hM_v1 rfl
  have hA_f16 : KF [7, 8, 24] f16 f := KF.tr kF_f16 hA_f13 rfl
  have hP : va_P (dC, dI) vwCl (YW cy y0 r v15 f16 w17 g18) H := hP
  have hD : va_D A (YW cy y0 r v15 f16 w17 g18) := hD
  have hUv15 : (v15 35).toInt + (v15 36).toInt ≤ 40 := hIv15.2
  have hq9_v15 : v15 9 = (v 9) := hk9_v15.trans hq9_v1
  have zq9_v15 := congrArg Int32.toInt hq9_v15
  refine lv_aload_n hx hb dX11_isSewn_37 rfl (lv_at hl 0 rfl) ?_
  refine va_get (D := (dC, dI)) (ci := 11) (v := .int (v15 26)) (C := RX11) (T := TX11) (N := 79) hx hb hts inB_11 hown hE.1 hP 0 rfl rfl 50 (Nat.le_of_ble_eq_true rfl) (hts _ k_1370) (fun _ h9 => h9) rfl dX11_isSewn_38 ?_
  refine lv_icmp_gt (tgt := 48) hx hb dX11_isSewn_41 rfl (fun c19 => ?_) (fun c19 => ?_)
  · skip
    have zc19 : (v15 26).toInt < r14.toInt := by rw [fa_lt] at c19; exact c19
    have rg20 := fb_rng r14
    have rg21 := fb_rng (v15 26)
    refine lv_iconst (v := 0) hx hb dX11_isSewn_48 rfl ?_
    exact ret 0 (v15, f16, w17, g18) _ _ _ _ _ _ rfl ⟨hM_v15, hA_f16, hIv15, hCf16, hRf16, (hk0_v15.trans hk0_v1), (hk1_v15.trans hk1_v1), (hk2_v15.trans hk2_v1), (hk3_v15.trans hk3_v1), (hk4_v15.trans hk4_v1), (hk5_v15.trans hk5_v1), (hk8_v15.trans hk8_v1), (hk9_v15.trans hk9_v1), (hk10_v15.trans hk10_v1), (hk13_v15.trans hk13_v1), (hk14_v15.trans hk14_v1), (hk15_v15.trans hk15_v1), (hk17_v15.trans hk17_v1), (hk18_v15.trans hk18_v1), (hk24_v15.trans hk24_v1), (hk25_v15.trans hk25_v1), (hk35_v15.trans hk35_v1), (hk36_v15.trans hk36_v1), (hk38_v15.trans hk38_v1), (hk39_v15.trans hk39_v1), (Or.inr rfl)⟩ hP hD hS dX11_isSewn_49 (Nat.le_refl _) (Nat.le_refl _)
  · skip
    have zc19 : ¬ ((v15 26).toInt < r14.toInt) := by rw [fa_lt] at c19; exact c19
    have rg22 := fb_rng r14
    have rg23 := fb_rng (v15 26)
    refine lv_iconst (v := 1) hx hb dX11_isSewn_44 rfl ?_
    refine lv_goto (tgt := 49) hx hb dX11_isSewn_45 rfl ?_
    exact ret 1 (v15, f16, w17, g18) _ _ _ _ _ _ rfl ⟨hM_v15, hA_f16, hIv15, hCf16, hRf16, (hk0_v15.trans hk0_v1), (hk1_v15.trans hk1_v1), (hk2_v15.trans hk2_v1), (hk3_v15.trans hk3_v1), (hk4_v15.trans hk4_v1), (hk5_v15.trans hk5_v1), (hk8_v15.trans hk8_v1), (hk9_v15.trans hk9_v1), (hk10_v15.trans hk10_v1), (hk13_v15.trans hk13_v1), (hk14_v15.trans hk14_v1), (hk15_v15.trans hk15_v1), (hk17_v15.trans hk17_v1), (hk18_v15.trans hk18_v1), (hk24_v15.trans hk24_v1), (hk25_v15.trans hk25_v1), (hk35_v15.trans hk35_v1), (hk36_v15.trans hk36_v1), (hk38_v15.trans hk38_v1), (hk39_v15.trans hk39_v1), (Or.inl rfl)⟩ hP hD hS dX11_isSewn_49 (Nat.le_refl _) (Nat.le_refl _)
set_option maxHeartbeats 4000000 in
set_option maxRecDepth 100000 in
theorem sY_X11_sewing_1 (l : Launch) (dC : Nat → ClassId) (dI : Nat → Nat → Nat) (cy : Nat → ClassId) (y0 : Nat) (r : Nat → Nat) (p1 : Int32) (p2 : Int32) (p3 : Int32) (v : Nat → Int32) (f : Nat → Nat → Int32) (w : Int64) (g : Nat → Int64) (hIv : YI v) (hCf : YC f) (hRf : progOK (f 4) (f 5) (v 9).toInt.toNat)  : ctI l (dC, dI) cy yX11_sewing cX11_sewing 10 .int 5 150 0 0 ((Nat → Int32) × (Nat → Nat → Int32) × (Int64) × (Nat → Int64)) [.ref y0, .int p1, .int p2, .int p3] (YW cy y0 r v f w g) (fun r u => KV [] u.1 v ∧ KF [7, 8, 24] u.2.1 f ∧ YI u.1 ∧ YC u.2.1 ∧ progOK (u.2.1 4) (u.2.1 5) (u.1 9).toInt.toNat ∧ u.1 0 = v 0 ∧ u.1 1 = v 1 ∧ u.1 2 = v 2 ∧ u.1 3 = v 3 ∧ u.1 4 = v 4 ∧ u.1 5 = v 5 ∧ u.1 8 = v 8 ∧ u.1 9 = v 9 ∧ u.1 10 = v 10 ∧ u.1 13 = v 13 ∧ u.1 14 = v 14 ∧ u.1 15 = v 15 ∧ u.1 17 = v 17 ∧ u.1 18 = v 18 ∧ u.1 24 = v 24 ∧ u.1 25 = v 25 ∧ u.1 35 = v 35 ∧ u.1 36 = v 36 ∧ u.1 38 = v 38 ∧ u.1 39 = v 39) (fun u => YW cy y0 r u.1 u.2.1 u.2.2.1 u.2.2.2) := by
  refine ctI_of (by decide) (Nat.le_of_ble_eq_true rfl) (fun p e s m below meth c A ls Q hx hb hml hts hown hE hP hD hA hl ret => ?_)
  have hUv : (v 35).toInt + (v 36).toInt ≤ 40 := hIv.2
  have hM_v : KV [] v v := fun _ _ => rfl
  have hA_f : KF [7, 8, 24] f f := fun _ _ => rfl
  have hown : s.vm.findClass RX11 = some m.cls := hown
  have hS : va_S A s.heap s.heap [] := va_S.rf
  have hl : lv_has ls 10 [(0, .ref y0), (1, .int p1), (2, .int p2), (3, .int p3)] := hl
  refine lv_aload_n hx hb dX11_sewing_0 rfl (lv_at hl 0 rfl) ?_
  refine lv_iload_n hx hb dX11_sewing_1 rfl (lv_at hl 1 rfl) ?_
  refine cbVi (n := 1) (rest := []) hx hb hml hown hts hE hP hD hS hA (sY_X11_isCoat_1 l dC dI cy y0 r p1 v f w g hIv hCf hRf ) k_1771 k_1773 k_75 k_114 k_1774 (by decide +kernel) ⟨Nat.le_of_ble_eq_true rfl, Nat.le_of_ble_eq_true rfl⟩ 0 11 rfl rfl (rfl) hl.1 rfl (Nat.le_of_ble_eq_true rfl) dX11_sewing_2 (fun r1 u H locs hw hP hD hS => ?_)
  rcases hw with ⟨g2, g2_0, g2_1, g2_2⟩ | ⟨g2⟩
  · skip
    subst g2
    refine lv_if_eq (tgt := 25) hx hb dX11_sewing_5 rfl (fun c0 => absurd c0 (by decide)) (fun _ => ?_)
    refine lv_aload_n hx hb dX11_sewing_8 rfl (lv_at hl 0 rfl) ?_
    refine lv_iload_n hx hb dX11_sewing_9 rfl (lv_at hl 2 rfl) ?_
    refine cbVi (n := 1) (rest := []) hx hb hml hown hts hE hP hD hS hA (sY_X11_isMan_1 l dC dI cy y0 r p2 v f w g hIv hCf hRf ) k_1732 k_1734 k_70 k_114 k_1735 (by decide +kernel) ⟨Nat.le_of_ble_eq_true rfl, Nat.le_of_ble_eq_true rfl⟩ 0 11 rfl rfl (rfl) hl.1 rfl (Nat.le_of_ble_eq_true rfl) dX11_sewing_10 (fun r3 u H locs hw hP hD hS => ?_)
    rcases hw with ⟨g4, g4_0, g4_1, g4_2⟩ | ⟨g4⟩
    · skip
      subst g4
      refine lv_if_eq (tgt := 25) hx hb dX11_sewing_13 rfl (fun c0 => absurd c0 (by decide)) (fun _ => ?_)
      refine lv_iload_n hx hb dX11_sewing_16 rfl (lv_at hl 3 rfl) ?_
      refine lv_iconst (v := 0) hx hb dX11_sewing_17 rfl ?_
      refine lv_iconst (v := 2) hx hb dX11_sewing_18 rfl ?_
      have lt5 : (0 : Int32).toInt = 0 := by decide
      have lt6 : (2 : Int32).toInt = 2 := by decide
      refine cbSi (n := 3) (rest := []) hx hb hml hown hts hE hP hD hS hA (sY_X11_isIn_1 0 l dC dI cy y0 r p3 0 2 v f w g hIv hCf hRf ) k_1736 k_1737 k_114 k_1738 (by decide +kernel) ⟨Nat.le_of_ble_eq_true rfl, Nat.le_of_ble_eq_true rfl⟩ (rfl) hl.1 rfl (Nat.le_of_ble_eq_true rfl) dX11_sewing_19 (fun r7 u H locs hw hP hD hS => ?_)
      obtain ⟨hG8, hw⟩ := hw
      rcases hw with ⟨g9, g9_0, g9_1⟩ | ⟨g9⟩
      · skip
        subst g9
        refine lv_if_ne (tgt := 28) hx hb dX11_sewing_22 rfl (fun _ => ?_) (fun c0 => absurd c0 (by decide))
        refine lv_bipush (v := 20) hx hb dX11_sewing_28 rfl ?_
        refine lv_aload_n hx hb dX11_sewing_30 rfl (lv_at hl 0 rfl) ?_
        refine va_get (D := (dC, dI)) (ci := 11) (v := .ref (r 59)) (C := RX11) (T := TX11) (N := 79) hx hb hts inB_11 hown hE.1 hP 0 rfl rfl 59 (Nat.le_of_ble_eq_true rfl) (hts _ k_1379) (fun _ h9 => h9) rfl dX11_sewing_31 ?_
        refine lv_bipush (v := 12) hx hb dX11_sewing_34 rfl ?_
        refine lv_iload_n hx hb dX11_sewing_36 rfl (lv_at hl 1 rfl) ?_
        refine lv_iadd hx hb dX11_sewing_37 ?_
        refine lv_topi (fun t10 et10 => ?_)
        have rg11 := fb_rng p1
        have zt10 : t10.toInt = 12 + p1.toInt := by rw [et10]; exact add_i (by decide) rfl (by omega) (by omega)
        refine ldI hx hb hE hP 24 rfl (vp_in_iff.mpr ⟨by omega, by omega⟩) rfl rfl dX11_sewing_38 ?_
        refine lv_topi (fun t12 et12 => ?_)
        have zt12 : t10.toInt.toNat % 39 < 6 ∨ 12 ≤ t10.toInt.toNat % 39 ∨ (-1 ≤ t12.toInt ∧ t12.toInt ≤ 5) := by rw [et12]; exact wear_ld hCf.1 (show t10.toInt.toNat < 39 by omega)
        have lt13 : (20 : Int32).toInt = 20 := by decide
        refine cbSi (n := 2) (rest := []) hx hb hml hown hts hE hP hD hS hA (sY_X11_lesser_1 l dC dI cy y0 r 20 t12 v f w g hIv hCf hRf ) k_1799 k_1800 k_114 k_1801 (by decide +kernel) ⟨Nat.le_of_ble_eq_true rfl, Nat.le_of_ble_eq_true rfl⟩ (rfl) hl.1 rfl (Nat.le_of_ble_eq_true rfl) dX11_sewing_39 (fun r14 u H locs hw hP hD hS => ?_)
        obtain ⟨pp15, pp16⟩ := hw
        have pp15 : r14.toInt ≤ (20 : Int32).toInt := pp15
        have pp16 : r14.toInt ≤ t12.toInt := pp16
        refine lv_istore (lv' := [(4, .int r14), (0, .ref y0), (1, .int p1), (2, .int p2), (3, .int p3)]) hx hb dX11_sewing_42 hl (Nat.le_of_ble_eq_true rfl) rfl (fun ls hl => ?_)
        refine lv_bipush (v := 20) hx hb dX11_sewing_44 rfl ?_
        refine lv_aload_n hx hb dX11_sewing_46 rfl (lv_at hl 1 rfl) ?_
        refine va_get (D := (dC, dI)) (ci := 11) (v := .ref (r 59)) (C := RX11) (T := TX11) (N := 79) hx hb hts inB_11 hown hE.1 hP 0 rfl rfl 59 (Nat.le_of_ble_eq_true rfl) (hts _ k_1379) (fun _ h9 => h9) rfl dX11_sewing_47 ?_
        refine lv_bipush (v := 18) hx hb dX11_sewing_50 rfl ?_
        refine lv_iload_n hx hb dX11_sewing_52 rfl (lv_at hl 2 rfl) ?_
        refine lv_iadd hx hb dX11_sewing_53 ?_
        refine lv_topi (fun t17 et17 => ?_)
        have zt17 : t17.toInt = 18 + p1.toInt := by rw [et17]; exact add_i (by decide) rfl (by omega) (by omega)
        refine ldI hx hb hE hP 24 rfl (vp_in_iff.mpr ⟨by omega, by omega⟩) rfl rfl dX11_sewing_54 ?_
        refine lv_topi (fun t18 et18 => ?_)
        have zt18 : t17.toInt.toNat % 39 < 6 ∨ 12 ≤ t17.toInt.toNat % 39 ∨ (-1 ≤ t18.toInt ∧ t18.toInt ≤ 5) := by rw [et18]; exact wear_ld hCf.1 (show t17.toInt.toNat < 39 by omega)
        refine cbSi (n := 2) (rest := []) hx hb hml hown hts hE hP hD hS hA (sY_X11_lesser_1 l dC dI cy y0 r 20 t18 v f w g hIv hCf hRf ) k_1799 k_1800 k_114 k_1801 (by decide +kernel) ⟨Nat.le_of_ble_eq_true rfl, Nat.le_of_ble_eq_true rfl⟩ (rfl) hl.1 rfl (Nat.le_of_ble_eq_true rfl) dX11_sewing_55 (fun r19 u H locs hw hP hD hS => ?_)
        obtain ⟨pp20, pp21⟩ := hw
        have pp20 : r19.toInt ≤ (20 : Int32).toInt := pp20
        have pp21 : r19.toInt ≤ t18.toInt := pp21
        refine lv_istore (lv' := [(5, .int r19), (4, .int r14), (0, .ref y0), (1, .int p1), (2, .int p2), (3, .int p3)]) hx hb dX11_sewing_58 hl (Nat.le_of_ble_eq_true rfl) rfl (fun ls hl => ?_)
        refine lv_bipush (v := 20) hx hb dX11_sewing_60 rfl ?_
        refine lv_aload_n hx hb dX11_sewing_62 rfl (lv_at hl 2 rfl) ?_
        refine va_get (D := (dC, dI)) (ci := 11) (v := .ref (r 59)) (C := RX11) (T := TX11) (N := 79) hx hb hts inB_11 hown hE.1 hP 0 rfl rfl 59 (Nat.le_of_ble_eq_true rfl) (hts _ k_1379) (fun _ h9 => h9) rfl dX11_sewing_63 ?_
        refine lv_bipush (v := 24) hx hb dX11_sewing_66 rfl ?_
        refine lv_iload_n hx hb dX11_sewing_68 rfl (lv_at hl 3 rfl) ?_
        refine lv_iadd hx hb dX11_sewing_69 ?_
        refine lv_topi (fun t22 et22 => ?_)
        have zt22 : t22.toInt = 24 + p1.toInt := by rw [et22]; exact add_i (by decide) rfl (by omega) (by omega)
        refine ldI hx hb hE hP 24 rfl (vp_in_iff.mpr ⟨by omega, by omega⟩) rfl rfl dX11_sewing_70 ?_
        refine lv_topi (fun t23 et23 => ?_)
        have zt23 : t22.toInt.toNat % 39 < 6 ∨ 12 ≤ t22.toInt.toNat % 39 ∨ (-1 ≤ t23.toInt ∧ t23.toInt ≤ 5) := by rw [et23]; exact wear_ld hCf.1 (show t22.toInt.toNat < 39 by omega)
        refine cbSi (n := 2) (rest := []) hx hb hml hown hts hE hP hD hS hA (sY_X11_lesser_1 l dC dI cy y0 r 20 t23 v f w g hIv hCf hRf ) k_1799 k_1800 k_114 k_1801 (by decide +kernel) ⟨Nat.le_of_ble_eq_true rfl, Nat.le_of_ble_eq_true rfl⟩ (rfl) hl.1 rfl (Nat.le_of_ble_eq_true rfl) dX11_sewing_71 (fun r24 u H locs hw hP hD hS => ?_)
        obtain ⟨pp25, pp26⟩ := hw
        have pp25 : r24.toInt ≤ (20 : Int32).toInt := pp25
        have pp26 : r24.toInt ≤ t23.toInt := pp26
        refine lv_bipush (v := 99) hx hb dX11_sewing_74 rfl ?_
        refine lv_aload_n hx hb dX11_sewing_76 rfl (lv_at hl 2 rfl) ?_
        refine va_get (D := (dC, dI)) (ci := 11) (v := .ref (r 59)) (C := RX11) (T := TX11) (N := 79) hx hb hts inB_11 hown hE.1 hP 0 rfl rfl 59 (Nat.le_of_ble_eq_true rfl) (hts _ k_1379) (fun _ h9 => h9) rfl dX11_sewing_77 ?_
        refine lv_bipush (v := 18) hx hb dX11_sewing_80 rfl ?_
        refine lv_iload_n hx hb dX11_sewing_82 rfl (lv_at hl 3 rfl) ?_
        refine lv_iadd hx hb dX11_sewing_83 ?_
        refine tI (y := t17) et17.symm ?_
        refine ldI hx hb hE hP 24 rfl (vp_in_iff.mpr ⟨by omega, by omega⟩) rfl rfl dX11_sewing_84 ?_
        refine tI (y := t18) et18.symm ?_
        refine lv_isub hx hb dX11_sewing_85 ?_
        refine lv_topi (fun t27 et27 => ?_)
        refine cbSi (n := 2) (rest := []) hx hb hml hown hts hE hP hD hS hA (sY_X11_lesser_1 l dC dI cy y0 r r24 t27 v f w g hIv hCf hRf ) k_1799 k_1800 k_114 k_1801 (by decide +kernel) ⟨Nat.le_of_ble_eq_true rfl, Nat.le_of_ble_eq_true rfl⟩ (rfl) hl.1 rfl (Nat.le_of_ble_eq_true rfl) dX11_sewing_86 (fun r28 u H locs hw hP hD hS => ?_)
        obtain ⟨pp29, pp30⟩ := hw
        have pp29 : r28.toInt ≤ r24.toInt := pp29
        have pp30 : r28.toInt ≤ t27.toInt := pp30
        refine lv_istore (lv' := [(6, .int r28), (5, .int r19), (4, .int r14), (0, .ref y0), (1, .int p1), (2, .int p2), (3, .int p3)]) hx hb dX11_sewing_89 hl (Nat.le_of_ble_eq_true rfl) rfl (fun ls hl => ?_)
        refine lv_iconst (v := 0) hx hb dX11_sewing_91 rfl ?_
        refine lv_istore (lv' := [(7, .int 0), (6, .int r28), (5, .int r19), (4, .int r14), (0, .ref y0), (1, .int p1), (2, .int p2), (3, .int p3)]) hx hb dX11_sewing_92 hl (Nat.le_of_ble_eq_true rfl) rfl (fun ls hl => ?_)
        have lp31 : ∀ (n31 : Nat) (l7_31 : Int32) (v31 : Nat → Int32) (f31 : Nat → Nat → Int32) (w31 : Int64) (g31 : Nat → Int64), YI v31 → YC f31 → progOK (f31 4) (f31 5) (v31 9).toInt.toNat → v31 0 = (v 0) → v31 1 = (v 1) → v31 2 = (v 2) → v31 3 = (v 3) → v31 4 = (v 4) → v31 5 = (v 5) → v31 8 = (v 8) → v31 9 = (v 9) → v31 10 = (v 10) → v31 13 = (v 13) → v31 14 = (v 14) → v31 15 = (v 15) → v31 17 = (v 17) → v31 18 = (v 18) → v31 24 = (v 24) → v31 25 = (v 25) → v31 35 = (v 35) → v31 36 = (v 36) → v31 38 = (v 38) → v31 39 = (v 39) → ((0 : Int) ≤ l7_31.toInt ∧ l7_31.toInt ≤ 2147483647) → KV [] v31 v → KF [7, 8, 24] f31 f → (2147483647 - l7_31.toInt).toNat < n31 → ∀ (H : Heap) (locs : List Loc) (ls : Array Slot), va_P (dC, dI) vwCl (YW cy y0 r v31 f31 w31 g31) H → va_D A (YW cy y0 r v31 f31 w31 g31) → va_S A s.heap H locs → lv_has ls 10 [(7, .int l7_31), (6, .int r28), (5, .int r19), (4, .int r14), (0, .ref y0), (1, .int p1), (2, .int p2), (3, .int p3)] → W p l e { frames := 5, cells := 0, slots := 0, locals := 150 } s m ([.ref y0, .int p1, .int p2, .int p3] : List Value).toArray below meth c H locs 0 0 Q (F0 m 94 ls []) := by
          intro n31
          induction n31 with
          | zero => intro l7_31 v31 f31 w31 g31 hIv31 hCf31 hRf31 hq0_v31 hq1_v31 hq2_v31 hq3_v31 hq4_v31 hq5_v31 hq8_v31 hq9_v31 hq10_v31 hq13_v31 hq14_v31 hq15_v31 hq17_v31 hq18_v31 hq24_v31 hq25_v31 hq35_v31 hq36_v31 hq38_v31 hq39_v31 hr7_31 hM_v31 hA_f31 hm; exact absurd hm (Nat.not_lt_zero _)
          | succ n31 ih31 =>
            intro l7_31 v31 f31 w31 g31 hIv31 hCf31 hRf31 hq0_v31 hq1_v31 hq2_v31 hq3_v31 hq4_v31 hq5_v31 hq8_v31 hq9_v31 hq10_v31 hq13_v31 hq14_v31 hq15_v31 hq17_v31 hq18_v31 hq24_v31 hq25_v31 hq35_v31 hq36_v31 hq38_v31 hq39_v31 hr7_31 hM_v31 hA_f31 hm31 H locs ls hP hD hS hl
            have hUv31 : (v31 35).toInt + (v31 36).toInt ≤ 40 := hIv31.2
            have zq9_v31 := congrArg Int32.toInt hq9_v31
            refine lv_iload hx hb dX11_sewing_94 (lv_at hl 0 rfl) ?_
            refine lv_bipush (v := 40) hx hb dX11_sewing_96 rfl ?_
            refine lv_icmp_gt (tgt := 226) hx hb dX11_sewing_98 rfl (fun c32 => ?_) (fun c32 => ?_)
            · skip
              have zc32 : 40 < l7_31.toInt := by rw [fa_lt, show (40 : Int32).toInt = 40 from by decide] at c32; exact c32
              refine lv_bipush (v := (-100)) hx hb dX11_sewing_226 rfl ?_
              exact ret (-100) (v31, f31, w31, g31) _ _ _ _ _ _ rfl ⟨hM_v31, hA_f31, hIv31, hCf31, hRf31, (show v31 0 = v 0 from hq0_v31), (show v31 1 = v 1 from hq1_v31), (show v31 2 = v 2 from hq2_v31), (show v31 3 = v 3 from hq3_v31), (show v31 4 = v 4 from hq4_v31), (show v31 5 = v 5 from hq5_v31), (show v31 8 = v 8 from hq8_v31), (show v31 9 = v 9 from hq9_v31), (show v31 10 = v 10 from hq10_v31), (show v31 13 = v 13 from hq13_v31), (show v31 14 = v 14 from hq14_v31), (show v31 15 = v 15 from hq15_v31), (show v31 17 = v 17 from hq17_v31), (show v31 18 = v 18 from hq18_v31), (show v31 24 = v 24 from hq24_v31), (show v31 25 = v 25 from hq25_v31), (show v31 35 = v 35 from hq35_v31), (show v31 36 = v 36 from hq36_v31), (show v31 38 = v 38 from hq38_v31), (show v31 39 = v 39 from hq39_v31)⟩ hP hD hS dX11_sewing_228 (Nat.le_refl _) (Nat.le_refl _)
            · skip
              have zc32 : ¬ (40 < l7_31.toInt) := by rw [fa_lt, show (40 : Int32).toInt = 40 from by decide] at c32; exact c32
              refine lv_iconst (v := 0) hx hb dX11_sewing_101 rfl ?_
              refine lv_istore (lv' := [(8, .int 0), (7, .int l7_31), (6, .int r28), (5, .int r19), (4, .int r14), (0, .ref y0), (1, .int p1), (2, .int p2), (3, .int p3)]) hx hb dX11_sewing_102 hl (Nat.le_of_ble_eq_true rfl) rfl (fun ls hl => ?_)
              have lp33 : ∀ (n33 : Nat) (l8_33 : Int32) (v33 : Nat → Int32) (f33 : Nat → Nat → Int32) (w33 : Int64) (g33 : Nat → Int64), YI v33 → YC f33 → progOK (f33 4) (f33 5) (v33 9).toInt.toNat → v33 0 = (v 0) → v33 1 = (v 1) → v33 2 = (v 2) → v33 3 = (v 3) → v33 4 = (v 4) → v33 5 = (v 5) → v33 8 = (v 8) → v33 9 = (v 9) → v33 10 = (v 10) → v33 13 = (v 13) → v33 14 = (v 14) → v33 15 = (v 15) → v33 17 = (v 17) → v33 18 = (v 18) → v33 24 = (v 24) → v33 25 = (v 25) → v33 35 = (v 35) → v33 36 = (v 36) → v33 38 = (v 38) → v33 39 = (v 39) → ((0 : Int) ≤ l8_33.toInt ∧ l8_33.toInt ≤ 2147483647) → KV [] v33 v → KF [7, 8, 24] f33 f → (2147483647 - l8_33.toInt).toNat < n33 → ∀ (H : Heap) (locs : List Loc) (ls : Array Slot), va_P (dC, dI) vwCl (YW cy y0 r v33 f33 w33 g33) H → va_D A (YW cy y0 r v33 f33 w33 g33) → va_S A s.heap H locs → lv_has ls 10 [(8, .int l8_33), (7, .int l7_31), (6, .int r28), (5, .int r19), (4, .int r14), (0, .ref y0), (1, .int p1), (2, .int p2), (3, .int p3)] → W p l e { frames := 5, cells := 0, slots := 0, locals := 150 } s m ([.ref y0, .int p1, .int p2, .int p3] : List Value).toArray below meth c H locs 0 0 Q (F0 m 104 ls []) := by
                intro n33
                induction n33 with
                | zero => intro l8_33 v33 f33 w33 g33 hIv33 hCf33 hRf33 hq0_v33 hq1_v33 hq2_v33 hq3_v33 hq4_v33 hq5_v33 hq8_v33 hq9_v33 hq10_v33 hq13_v33 hq14_v33 hq15_v33 hq17_v33 hq18_v33 hq24_v33 hq25_v33 hq35_v33 hq36_v33 hq38_v33 hq39_v33 hr8_33 hM_v33 hA_f33 hm; exact absurd hm (Nat.not_lt_zero _)
                | succ n33 ih33 =>
                  intro l8_33 v33 f33 w33 g33 hIv33 hCf33 hRf33 hq0_v33 hq1_v33 hq2_v33 hq3_v33 hq4_v33 hq5_v33 hq8_v33 hq9_v33 hq10_v33 hq13_v33 hq14_v33 hq15_v33 hq17_v33 hq18_v33 hq24_v33 hq25_v33 hq35_v33 hq36_v33 hq38_v33 hq39_v33 hr8_33 hM_v33 hA_f33 hm33 H locs ls hP hD hS hl
                  have hUv33 : (v33 35).toInt + (v33 36).toInt ≤ 40 := hIv33.2
                  have zq9_v33 := congrArg Int32.toInt hq9_v33
                  refine lv_iload hx hb dX11_sewing_104 (lv_at hl 0 rfl) ?_
                  refine lv_iload hx hb dX11_sewing_106 (lv_at hl 1 rfl) ?_
                  refine lv_iload hx hb dX11_sewing_108 (lv_at hl 4 rfl) ?_
                  refine cbSi (n := 2) (rest := [.int l8_33]) hx hb hml hown hts hE hP hD hS hA (sY_X11_lesser_1 l dC dI cy y0 r l7_31 r14 v33 f33 w33 g33 hIv33 hCf33 hRf33 ) k_1799 k_1800 k_114 k_1801 (by decide +kernel) ⟨Nat.le_of_ble_eq_true rfl, Nat.le_of_ble_eq_true rfl⟩ (rfl) hl.1 rfl (Nat.le_of_ble_eq_true rfl) dX11_sewing_110 (fun r34 u H locs hw hP hD hS => ?_)
                  obtain ⟨pp35, pp36⟩ := hw
                  have pp35 : r34.toInt ≤ l7_31.toInt := pp35
                  have pp36 : r34.toInt ≤ r14.toInt := pp36
                  refine lv_icmp_gt (tgt := 220) hx hb dX11_sewing_113 rfl (fun c37 => ?_) (fun c37 => ?_)
                  · skip
                    have zc37 : r34.toInt < l8_33.toInt := by rw [fa_lt] at c37; exact c37
                    have rg38 := fb_rng l8_33
                    have rg39 := fb_rng r34
                    obtain ⟨t40, et40⟩ : ∃ y : Int32, y = l7_31 + 1 := ⟨_, rfl⟩
                    have rg41 := fb_rng l7_31
                    have zt40 : t40.toInt = l7_31.toInt + 1 := by rw [et40]; exact add_i rfl (by decide) (by omega) (by omega)
                    refine lv_iinc (v := t40) (lv' := [(7, .int t40), (8, .int l8_33), (6, .int r28), (5, .int r19), (4, .int r14), (0, .ref y0), (1, .int p1), (2, .int p2), (3, .int p3)]) hx hb dX11_sewing_220 hl (k := 1) rfl (by rw [et40]; rfl) (by decide) rfl (fun ls hl => ?_)
                    refine lv_goto (tgt := 94) hx hb dX11_sewing_223 rfl ?_
                    have rg42 := fb_rng t40
                    exact ih31 t40 v33 f33 w33 g33 hIv33 hCf33 hRf33 hq0_v33 hq1_v33 hq2_v33 hq3_v33 hq4_v33 hq5_v33 hq8_v33 hq9_v33 hq10_v33 hq13_v33 hq14_v33 hq15_v33 hq17_v33 hq18_v33 hq24_v33 hq25_v33 hq35_v33 hq36_v33 hq38_v33 hq39_v33 ⟨show (0 : Int) ≤ t40.toInt by omega, show t40.toInt ≤ (2147483647 : Int) by omega⟩ hM_v33 hA_f33 (by show (2147483647 - t40.toInt).toNat < n31; omega) _ _ _ hP hD hS (lv_sub hl [0, 2, 3, 4, 5, 6, 7, 8] rfl)
                  · skip
                    have zc37 : ¬ (r34.toInt < l8_33.toInt) := by rw [fa_lt] at c37; exact c37
                    have rg43 := fb_rng l8_33
                    have rg44 := fb_rng r34
                    refine lv_iload hx hb dX11_sewing_116 (lv_at hl 1 rfl) ?_
                    refine lv_iload hx hb dX11_sewing_118 (lv_at hl 0 rfl) ?_
                    refine lv_isub hx hb dX11_sewing_120 ?_
                    refine lv_topi (fun t45 et45 => ?_)
                    have rg46 := fb_rng l7_31
                    have zt45 : t45.toInt = l7_31.toInt - l8_33.toInt := by rw [et45]; exact sub_i rfl rfl (by omega) (by omega)
                    refine lv_istore (lv' := [(9, .int t45), (8, .int l8_33), (7, .int l7_31), (6, .int r28), (5, .int r19), (4, .int r14), (0, .ref y0), (1, .int p1), (2, .int p2), (3, .int p3)]) hx hb dX11_sewing_121 hl (Nat.le_of_ble_eq_true rfl) rfl (fun ls hl => ?_)
                    refine lv_iload hx hb dX11_sewing_123 (lv_at hl 0 rfl) ?_
                    refine lv_iload hx hb dX11_sewing_125 (lv_at hl 4 rfl) ?_
                    refine lv_icmp_gt (tgt := 165) hx hb dX11_sewing_127 rfl (fun c47 => ?_) (fun c47 => ?_)
                    · skip
                      have zc47 : r19.toInt < t45.toInt := by rw [fa_lt] at c47; exact c47
                      have rg48 := fb_rng t45
                      have rg49 := fb_rng r19
                      refine lv_iload hx hb dX11_sewing_165 (lv_at hl 0 rfl) ?_
                      refine lv_if_le (tgt := 214) hx hb dX11_sewing_167 rfl (fun c50 => ?_) (fun c50 => ?_)
                      · skip
                        have zc50 : t45.toInt ≤ 0 := by rw [fa_le, show (0 : Int32).toInt = 0 from by decide] at c50; exact c50
                        obtain ⟨t51, et51⟩ : ∃ y : Int32, y = l8_33 + 1 := ⟨_, rfl⟩
                        have zt51 : t51.toInt = l8_33.toInt + 1 := by rw [et51]; exact add_i rfl (by decide) (by omega) (by omega)
                        refine lv_iinc (v := t51) (lv' := [(8, .int t51), (9, .int t45), (7, .int l7_31), (6, .int r28), (5, .int r19), (4, .int r14), (0, .ref y0), (1, .int p1), (2, .int p2), (3, .int p3)]) hx hb dX11_sewing_214 hl (k := 1) rfl (by rw [et51]; rfl) (by decide) rfl (fun ls hl => ?_)
                        refine lv_goto (tgt := 104) hx hb dX11_sewing_217 rfl ?_
                        have rg52 := fb_rng t51
                        exact ih33 t51 v33 f33 w33 g33 hIv33 hCf33 hRf33 hq0_v33 hq1_v33 hq2_v33 hq3_v33 hq4_v33 hq5_v33 hq8_v33 hq9_v33 hq10_v33 hq13_v33 hq14_v33 hq15_v33 hq17_v33 hq18_v33 hq24_v33 hq25_v33 hq35_v33 hq36_v33 hq38_v33 hq39_v33 ⟨show (0 : Int) ≤ t51.toInt by omega, show t51.toInt ≤ (2147483647 : Int) by omega⟩ hM_v33 hA_f33 (by show (2147483647 - t51.toInt).toNat < n33; omega) _ _ _ hP hD hS (lv_sub hl [0, 2, 3, 4, 5, 6, 7, 8, 9] rfl)
                      · skip
                        have zc50 : ¬ (t45.toInt ≤ 0) := by rw [fa_le, show (0 : Int32).toInt = 0 from by decide] at c50; exact c50
                        refine lv_iload hx hb dX11_sewing_170 (lv_at hl 0 rfl) ?_
                        refine lv_iload hx hb dX11_sewing_172 (lv_at hl 3 rfl) ?_
                        refine lv_icmp_gt (tgt := 214) hx hb dX11_sewing_174 rfl (fun c53 => ?_) (fun c53 => ?_)
                        · skip
                          have zc53 : r28.toInt < t45.toInt := by rw [fa_lt] at c53; exact c53
                          have rg54 := fb_rng r28
                          obtain ⟨t55, et55⟩ : ∃ y : Int32, y = l8_33 + 1 := ⟨_, rfl⟩
                          have zt55 : t55.toInt = l8_33.toInt + 1 := by rw [et55]; exact add_i rfl (by decide) (by omega) (by omega)
                          refine lv_iinc (v := t55) (lv' := [(8, .int t55), (9, .int t45), (7, .int l7_31), (6, .int r28), (5, .int r19), (4, .int r14), (0, .ref y0), (1, .int p1), (2, .int p2), (3, .int p3)]) hx hb dX11_sewing_214 hl (k := 1) rfl (by rw [et55]; rfl) (by decide) rfl (fun ls hl => ?_)
                          refine lv_goto (tgt := 104) hx hb dX11_sewing_217 rfl ?_
                          have rg56 := fb_rng t55
                          exact ih33 t55 v33 f33 w33 g33 hIv33 hCf33 hRf33 hq0_v33 hq1_v33 hq2_v33 hq3_v33 hq4_v33 hq5_v33 hq8_v33 hq9_v33 hq10_v33 hq13_v33 hq14_v33 hq15_v33 hq17_v33 hq18_v33 hq24_v33 hq25_v33 hq35_v33 hq36_v33 hq38_v33 hq39_v33 ⟨show (0 : Int) ≤ t55.toInt by omega, show t55.toInt ≤ (2147483647 : Int) by omega⟩ hM_v33 hA_f33 (by show (2147483647 - t55.toInt).toNat < n33; omega) _ _ _ hP hD hS (lv_sub hl [0, 2, 3, 4, 5, 6, 7, 8, 9] rfl)
                        · skip
                          have zc53 : ¬ (r28.toInt < t45.toInt) := by rw [fa_lt] at c53; exact c53
                          have rg57 := fb_rng r28
                          refine lv_aload_n hx hb dX11_sewing_177 rfl (lv_at hl 6 rfl) ?_
                          refine lv_iload_n hx hb dX11_sewing_178 rfl (lv_at hl 7 rfl) ?_
                          refine lv_iload_n hx hb dX11_sewing_179 rfl (lv_at hl 8 rfl) ?_
                          refine lv_iload hx hb dX11_sewing_180 (lv_at hl 1 rfl) ?_
                          refine lv_iload hx hb dX11_sewing_182 (lv_at hl 0 rfl) ?_
                          refine lv_ineg hx hb dX11_sewing_184 ?_
                          refine lv_topi (fun t58 et58 => ?_)
                          refine cbVi (n := 4) (rest := []) hx hb hml hown hts hE hP hD hS hA (sY_X11_isSewn_1 l dC dI cy y0 r p1 p2 l8_33 t58 v33 f33 w33 g33 hIv33 hCf33 hRf33 ⟨show (0 : Int) ≤ p1.toInt by omega, show p1.toInt ≤ (5 : Int) by omega⟩ ⟨show (0 : Int) ≤ p2.toInt by omega, show p2.toInt ≤ (5 : Int) by omega⟩) k_1892 k_1894 k_87 k_114 k_1895 (by decide +kernel) ⟨Nat.le_of_ble_eq_true rfl, Nat.le_of_ble_eq_true rfl⟩ 0 11 rfl rfl (rfl) hl.1 rfl (Nat.le_of_ble_eq_true rfl) dX11_sewing_185 (fun r59 u H locs hw hP hD hS => ?_)
                          obtain ⟨v60, f61, w62, g63⟩ := u
                          obtain ⟨kV_v60, kF_f61, hIv60, hCf61, hRf61, hk0_v60, hk1_v60, hk2_v60, hk3_v60, hk4_v60, hk5_v60, hk8_v60, hk9_v60, hk10_v60, hk13_v60, hk14_v60, hk15_v60, hk17_v60, hk18_v60, hk24_v60, hk25_v60, hk35_v60, hk36_v60, hk38_v60, hk39_v60, hw⟩ := hw
                          have hM_v60 : KV [] v60 v := KV.tr kV_v60 hM_v33 rfl
                          have hA_f61 : KF [7, 8, 24] f61 f := KF.tr kF_f61 hA_f33 rfl
                          have hP : va_P (dC, dI) vwCl (YW cy y0 r v60 f61 w62 g63) H := hP
                          have hD : va_D A (YW cy y0 r v60 f61 w62 g63) := hD
                          have hUv60 : (v60 35).toInt + (v60 36).toInt ≤ 40 := hIv60.2
                          have hq0_v60 : v60 0 = (v 0) := hk0_v60.trans hq0_v33
                          have hq1_v60 : v60 1 = (v 1) := hk1_v60.trans hq1_v33
                          have hq2_v60 : v60 2 = (v 2) := hk2_v60.trans hq2_v33
                          have hq3_v60 : v60 3 = (v 3) := hk3_v60.trans hq3_v33
                          have hq4_v60 : v60 4 = (v 4) := hk4_v60.trans hq4_v33
                          have hq5_v60 : v60 5 = (v 5) := hk5_v60.trans hq5_v33
                          have hq8_v60 : v60 8 = (v 8) := hk8_v60.trans hq8_v33
                          have hq9_v60 : v60 9 = (v 9) := hk9_v60.trans hq9_v33
                          have zq9_v60 := congrArg Int32.toInt hq9_v60
                          have hq10_v60 : v60 10 = (v 10) := hk10_v60.trans hq10_v33
                          have hq13_v60 : v60 13 = (v 13) := hk13_v60.trans hq13_v33
                          have hq14_v60 : v60 14 = (v 14) := hk14_v60.trans hq14_v33
                          have hq15_v60 : v60 15 = (v 15) := hk15_v60.trans hq15_v33
                          have hq17_v60 : v60 17 = (v 17) := hk17_v60.trans hq17_v33
                          have hq18_v60 : v60 18 = (v 18) := hk18_v60.trans hq18_v33
                          have hq24_v60 : v60 24 = (v 24) := hk24_v60.trans hq24_v33
                          have hq25_v60 : v60 25 = (v 25) := hk25_v60.trans hq25_v33
                          have hq35_v60 : v60 35 = (v 35) := hk35_v60.trans hq35_v33
                          have hq36_v60 : v60 36 = (v 36) := hk36_v60.trans hq36_v33
                          have hq38_v60 : v60 38 = (v 38) := hk38_v60.trans hq38_v33
                          have hq39_v60 : v60 39 = (v 39) := hk39_v60.trans hq39_v33
                          rcases hw with ⟨g64⟩ | ⟨g64⟩
                          · skip
                            subst g64
                            refine lv_if_eq (tgt := 214) hx hb dX11_sewing_188 rfl (fun c0 => absurd c0 (by decide)) (fun _ => ?_)
                            refine lv_iload_n hx hb dX11_sewing_191 rfl (lv_at hl 9 rfl) ?_
                            refine lv_if_ne (tgt := 200) hx hb dX11_sewing_192 rfl (fun c65 => ?_) (fun c65 => ?_)
                            · skip
                              have zc65 : ¬ (p3.toInt = 0) := by rw [fa_eq, show (0 : Int32).toInt = 0 from by decide] at c65; exact c65
                              refine lv_iload_n hx hb dX11_sewing_200 rfl (lv_at hl 9 rfl) ?_
                              refine lv_iconst (v := 1) hx hb dX11_sewing_201 rfl ?_
                              refine lv_icmp_ne (tgt := 210) hx hb dX11_sewing_202 rfl (fun c66 => ?_) (fun c66 => ?_)
                              · skip
                                have zc66 : ¬ (p3.toInt = 1) := by rw [fa_eq, show (1 : Int32).toInt = 1 from by decide] at c66; exact c66
                                refine lv_iload hx hb dX11_sewing_210 (lv_at hl 0 rfl) ?_
                                refine lv_ineg hx hb dX11_sewing_212 ?_
                                refine lv_topi (fun t67 et67 => ?_)
                                exact ret t67 (v60, f61, w62, g63) _ _ _ _ _ _ rfl ⟨hM_v60, hA_f61, hIv60, hCf61, hRf61, (hk0_v60.trans hq0_v33), (hk1_v60.trans hq1_v33), (hk2_v60.trans hq2_v33), (hk3_v60.trans hq3_v33), (hk4_v60.trans hq4_v33), (hk5_v60.trans hq5_v33), (hk8_v60.trans hq8_v33), (hk9_v60.trans hq9_v33), (hk10_v60.trans hq10_v33), (hk13_v60.trans hq13_v33), (hk14_v60.trans hq14_v33), (hk15_v60.trans hq15_v33), (hk17_v60.trans hq17_v33), (hk18_v60.trans hq18_v33), (hk24_v60.trans hq24_v33), (hk25_v60.trans hq25_v33), (hk35_v60.trans hq35_v33), (hk36_v60.trans hq36_v33), (hk38_v60.trans hq38_v33), (hk39_v60.trans hq39_v33)⟩ hP hD hS dX11_sewing_213 (Nat.le_refl _) (Nat.le_refl _)
                              · skip
                                have zc66 : p3.toInt = 1 := by rw [fa_eq, show (1 : Int32).toInt = 1 from by decide] at c66; exact c66
                                refine lv_iload hx hb dX11_sewing_205 (lv_at hl 1 rfl) ?_
                                refine lv_goto (tgt := 213) hx hb dX11_sewing_207 rfl ?_
                                exact ret l8_33 (v60, f61, w62, g63) _ _ _ _ _ _ rfl ⟨hM_v60, hA_f61, hIv60, hCf61, hRf61, (hk0_v60.trans hq0_v33), (hk1_v60.trans hq1_v33), (hk2_v60.trans hq2_v33), (hk3_v60.trans hq3_v33), (hk4_v60.trans hq4_v33), (hk5_v60.trans hq5_v33), (hk8_v60.trans hq8_v33), (hk9_v60.trans hq9_v33), (hk10_v60.trans hq10_v33), (hk13_v60.trans hq13_v33), (hk14_v60.trans hq14_v33), (hk15_v60.trans hq15_v33), (hk17_v60.trans hq17_v33), (hk18_v60.trans hq18_v33), (hk24_v60.trans hq24_v33), (hk25_v60.trans hq25_v33), (hk35_v60.trans hq35_v33), (hk36_v60.trans hq36_v33), (hk38_v60.trans hq38_v33), (hk39_v60.trans hq39_v33)⟩ hP hD hS dX11_sewing_213 (Nat.le_refl _) (Nat.le_refl _)
                            · skip
                              have zc65 : p3.toInt = 0 := by rw [fa_eq, show (0 : Int32).toInt = 0 from by decide] at c65; exact c65
                              refine lv_iload hx hb dX11_sewing_195 (lv_at hl 2 rfl) ?_
                              refine lv_goto (tgt := 213) hx hb dX11_sewing_197 rfl ?_
                              exact ret l7_31 (v60, f61, w62, g63) _ _ _ _ _ _ rfl ⟨hM_v60, hA_f61, hIv60, hCf61, hRf61, (hk0_v60.trans hq0_v33), (hk1_v60.trans hq1_v33), (hk2_v60.trans hq2_v33), (hk3_v60.trans hq3_v33), (hk4_v60.trans hq4_v33), (hk5_v60.trans hq5_v33), (hk8_v60.trans hq8_v33), (hk9_v60.trans hq9_v33), (hk10_v60.trans hq10_v33), (hk13_v60.trans hq13_v33), (hk14_v60.trans hq14_v33), (hk15_v60.trans hq15_v33), (hk17_v60.trans hq17_v33), (hk18_v60.trans hq18_v33), (hk24_v60.trans hq24_v33), (hk25_v60.trans hq25_v33), (hk35_v60.trans hq35_v33), (hk36_v60.trans hq36_v33), (hk38_v60.trans hq38_v33), (hk39_v60.trans hq39_v33)⟩ hP hD hS dX11_sewing_213 (Nat.le_refl _) (Nat.le_refl _)
                          · skip
                            subst g64
                            refine lv_if_eq (tgt := 214) hx hb dX11_sewing_188 rfl (fun _ => ?_) (fun c0 => absurd (by decide) c0)
                            obtain ⟨t68, et68⟩ : ∃ y : Int32, y = l8_33 + 1 := ⟨_, rfl⟩
                            have zt68 : t68.toInt = l8_33.toInt + 1 := by rw [et68]; exact add_i rfl (by decide) (by omega) (by omega)
                            refine lv_iinc (v := t68) (lv' := [(8, .int t68), (9, .int t45), (7, .int l7_31), (6, .int r28), (5, .int r19), (4, .int r14), (0, .ref y0), (1, .int p1), (2, .int p2), (3, .int p3)]) hx hb dX11_sewing_214 hl (k := 1) rfl (by rw [et68]; rfl) (by decide) rfl (fun ls hl => ?_)
                            refine lv_goto (tgt := 104) hx hb dX11_sewing_217 rfl ?_
                            have rg69 := fb_rng t68
                            exact ih33 t68 v60 f61 w62 g63 hIv60 hCf61 hRf61 hq0_v60 hq1_v60 hq2_v60 hq3_v60 hq4_v60 hq5_v60 hq8_v60 hq9_v60 hq10_v60 hq13_v60 hq14_v60 hq15_v60 hq17_v60 hq18_v60 hq24_v60 hq25_v60 hq35_v60 hq36_v60 hq38_v60 hq39_v60 ⟨show (0 : Int) ≤ t68.toInt by omega, show t68.toInt ≤ (2147483647 : Int) by omega⟩ hM_v60 hA_f61 (by show (2147483647 - t68.toInt).toNat < n33; omega) _ _ _ hP hD hS (lv_sub hl [0, 2, 3, 4, 5, 6, 7, 8, 9] rfl)
                    · skip
                      have zc47 : ¬ (r19.toInt < t45.toInt) := by rw [fa_lt] at c47; exact c47
                      have rg70 := fb_rng t45
                      have rg71 := fb_rng r19
                      refine lv_aload_n hx hb dX11_sewing_130 rfl (lv_at hl 6 rfl) ?_
                      refine lv_iload_n hx hb dX11_sewing_131 rfl (lv_at hl 7 rfl) ?_
                      refine lv_iload_n hx hb dX11_sewing_132 rfl (lv_at hl 8 rfl) ?_
                      refine lv_iload hx hb dX11_sewing_133 (lv_at hl 1 rfl) ?_
                      refine lv_iload hx hb dX11_sewing_135 (lv_at hl 0 rfl) ?_
                      refine cbVi (n := 4) (rest := []) hx hb hml hown hts hE hP hD hS hA (sY_X11_isSewn_1 l dC dI cy y0 r p1 p2 l8_33 t45 v33 f33 w33 g33 hIv33 hCf33 hRf33 ⟨show (0 : Int) ≤ p1.toInt by omega, show p1.toInt ≤ (5 : Int) by omega⟩ ⟨show (0 : Int) ≤ p2.toInt by omega, show p2.toInt ≤ (5 : Int) by omega⟩) k_1892 k_1894 k_87 k_114 k_1895 (by decide +kernel) ⟨Nat.le_of_ble_eq_true rfl, Nat.le_of_ble_eq_true rfl⟩ 0 11 rfl rfl (rfl) hl.1 rfl (Nat.le_of_ble_eq_true rfl) dX11_sewing_137 (fun r72 u H locs hw hP hD hS => ?_)
                      obtain ⟨v73, f74, w75, g76⟩ := u
                      obtain ⟨kV_v73, kF_f74, hIv73, hCf74, hRf74, hk0_v73, hk1_v73, hk2_v73, hk3_v73, hk4_v73, hk5_v73, hk8_v73, hk9_v73, hk10_v73, hk13_v73, hk14_v73, hk15_v73, hk17_v73, hk18_v73, hk24_v73, hk25_v73, hk35_v73, hk36_v73, hk38_v73, hk39_v73, hw⟩ := hw
                      have hM_v73 : KV [] v73 v := KV.tr kV_v73 hM_v33 rfl
                      have hA_f74 : KF [7, 8, 24] f74 f := KF.tr kF_f74 hA_f33 rfl
                      have hP : va_P (dC, dI) vwCl (YW cy y0 r v73 f74 w75 g76) H := hP
                      have hD : va_D A (YW cy y0 r v73 f74 w75 g76) := hD
                      have hUv73 : (v73 35).toInt + (v73 36).toInt ≤ 40 := hIv73.2
                      have hq0_v73 : v73 0 = (v 0) := hk0_v73.trans hq0_v33
                      have hq1_v73 : v73 1 = (v 1) := hk1_v73.trans hq1_v33
                      have hq2_v73 : v73 2 = (v 2) := hk2_v73.trans hq2_v33
                      have hq3_v73 : v73 3 = (v 3) := hk3_v73.trans hq3_v33
                      have hq4_v73 : v73 4 = (v 4) := hk4_v73.trans hq4_v33
                      have hq5_v73 : v73 5 = (v 5) := hk5_v73.trans hq5_v33
                      have hq8_v73 : v73 8 = (v 8) := hk8_v73.trans hq8_v33
                      have hq9_v73 : v73 9 = (v 9) := hk9_v73.trans hq9_v33
                      have zq9_v73 := congrArg Int32.toInt hq9_v73
                      have hq10_v73 : v73 10 = (v 10) := hk10_v73.trans hq10_v33
                      have hq13_v73 : v73 13 = (v 13) := hk13_v73.trans hq13_v33
                      have hq14_v73 : v73 14 = (v 14) := hk14_v73.trans hq14_v33
                      have hq15_v73 : v73 15 = (v 15) := hk15_v73.trans hq15_v33
                      have hq17_v73 : v73 17 = (v 17) := hk17_v73.trans hq17_v33
                      have hq18_v73 : v73 18 = (v 18) := hk18_v73.trans hq18_v33
                      have hq24_v73 : v73 24 = (v 24) := hk24_v73.trans hq24_v33
                      have hq25_v73 : v73 25 = (v 25) := hk25_v73.trans hq25_v33
                      have hq35_v73 : v73 35 = (v 35) := hk35_v73.trans hq35_v33
                      have hq36_v73 : v73 36 = (v 36) := hk36_v73.trans hq36_v33
                      have hq38_v73 : v73 38 = (v 38) := hk38_v73.trans hq38_v33
                      have hq39_v73 : v73 39 = (v 39) := hk39_v73.trans hq39_v33
                      rcases hw with ⟨g77⟩ | ⟨g77⟩
                      · skip
                        subst g77
                        refine lv_if_eq (tgt := 165) hx hb dX11_sewing_140 rfl (fun c0 => absurd c0 (by decide)) (fun _ => ?_)
                        refine lv_iload_n hx hb dX11_sewing_143 rfl (lv_at hl 9 rfl) ?_
                        refine lv_if_ne (tgt := 152) hx hb dX11_sewing_144 rfl (fun c78 => ?_) (fun c78 => ?_)
                        · skip
                          have zc78 : ¬ (p3.toInt = 0) := by rw [fa_eq, show (0 : Int32).toInt = 0 from by decide] at c78; exact c78
                          refine lv_iload_n hx hb dX11_sewing_152 rfl (lv_at hl 9 rfl) ?_
                          refine lv_iconst (v := 1) hx hb dX11_sewing_153 rfl ?_
                          refine lv_icmp_ne (tgt := 162) hx hb dX11_sewing_154 rfl (fun c79 => ?_) (fun c79 => ?_)
                          · skip
                            have zc79 : ¬ (p3.toInt = 1) := by rw [fa_eq, show (1 : Int32).toInt = 1 from by decide] at c79; exact c79
                            refine lv_iload hx hb dX11_sewing_162 (lv_at hl 0 rfl) ?_
                            exact ret t45 (v73, f74, w75, g76) _ _ _ _ _ _ rfl ⟨hM_v73, hA_f74, hIv73, hCf74, hRf74, (hk0_v73.trans hq0_v33), (hk1_v73.trans hq1_v33), (hk2_v73.trans hq2_v33), (hk3_v73.trans hq3_v33), (hk4_v73.trans hq4_v33), (hk5_v73.trans hq5_v33), (hk8_v73.trans hq8_v33), (hk9_v73.trans hq9_v33), (hk10_v73.trans hq10_v33), (hk13_v73.trans hq13_v33), (hk14_v73.trans hq14_v33), (hk15_v73.trans hq15_v33), (hk17_v73.trans hq17_v33), (hk18_v73.trans hq18_v33), (hk24_v73.trans hq24_v33), (hk25_v73.trans hq25_v33), (hk35_v73.trans hq35_v33), (hk36_v73.trans hq36_v33), (hk38_v73.trans hq38_v33), (hk39_v73.trans hq39_v33)⟩ hP hD hS dX11_sewing_164 (Nat.le_refl _) (Nat.le_refl _)
                          · skip
                            have zc79 : p3.toInt = 1 := by rw [fa_eq, show (1 : Int32).toInt = 1 from by decide] at c79; exact c79
                            refine lv_iload hx hb dX11_sewing_157 (lv_at hl 1 rfl) ?_
                            refine lv_goto (tgt := 164) hx hb dX11_sewing_159 rfl ?_
                            exact ret l8_33 (v73, f74, w75, g76) _ _ _ _ _ _ rfl ⟨hM_v73, hA_f74, hIv73, hCf74, hRf74, (hk0_v73.trans hq0_v33), (hk1_v73.trans hq1_v33), (hk2_v73.trans hq2_v33), (hk3_v73.trans hq3_v33), (hk4_v73.trans hq4_v33), (hk5_v73.trans hq5_v33), (hk8_v73.trans hq8_v33), (hk9_v73.trans hq9_v33), (hk10_v73.trans hq10_v33), (hk13_v73.trans hq13_v33), (hk14_v73.trans hq14_v33), (hk15_v73.trans hq15_v33), (hk17_v73.trans hq17_v33), (hk18_v73.trans hq18_v33), (hk24_v73.trans hq24_v33), (hk25_v73.trans hq25_v33), (hk35_v73.trans hq35_v33), (hk36_v73.trans hq36_v33), (hk38_v73.trans hq38_v33), (hk39_v73.trans hq39_v33)⟩ hP hD hS dX11_sewing_164 (Nat.le_refl _) (Nat.le_refl _)
                        · skip
                          have zc78 : p3.toInt = 0 := by rw [fa_eq, show (0 : Int32).toInt = 0 from by decide] at c78; exact c78
                          refine lv_iload hx hb dX11_sewing_147 (lv_at hl 2 rfl) ?_
                          refine lv_goto (tgt := 164) hx hb dX11_sewing_149 rfl ?_
                          exact ret l7_31 (v73, f74, w75, g76) _ _ _ _ _ _ rfl ⟨hM_v73, hA_f74, hIv73, hCf74, hRf74, (hk0_v73.trans hq0_v33), (hk1_v73.trans hq1_v33), (hk2_v73.trans hq2_v33), (hk3_v73.trans hq3_v33), (hk4_v73.trans hq4_v33), (hk5_v73.trans hq5_v33), (hk8_v73.trans hq8_v33), (hk9_v73.trans hq9_v33), (hk10_v73.trans hq10_v33), (hk13_v73.trans hq13_v33), (hk14_v73.trans hq14_v33), (hk15_v73.trans hq15_v33), (hk17_v73.trans hq17_v33), (hk18_v73.trans hq18_v33), (hk24_v73.trans hq24_v33), (hk25_v73.trans hq25_v33), (hk35_v73.trans hq35_v33), (hk36_v73.trans hq36_v33), (hk38_v73.trans hq38_v33), (hk39_v73.trans hq39_v33)⟩ hP hD hS dX11_sewing_164 (Nat.le_refl _) (Nat.le_refl _)
                      · skip
                        subst g77
                        refine lv_if_eq (tgt := 165) hx hb dX11_sewing_140 rfl (fun _ => ?_) (fun c0 => absurd (by decide) c0)
                        refine lv_iload hx hb dX11_sewing_165 (lv_at hl 0 rfl) ?_
                        refine lv_if_le (tgt := 214) hx hb dX11_sewing_167 rfl (fun c80 => ?_) (fun c80 => ?_)
                        · skip
                          have zc80 : t45.toInt ≤ 0 := by rw [fa_le, show (0 : Int32).toInt = 0 from by decide] at c80; exact c80
                          obtain ⟨t81, et81⟩ : ∃ y : Int32, y = l8_33 + 1 := ⟨_, rfl⟩
                          have zt81 : t81.toInt = l8_33.toInt + 1 := by rw [et81]; exact add_i rfl (by decide) (by omega) (by omega)
                          refine lv_iinc (v := t81) (lv' := [(8, .int t81), (9, .int t45), (7, .int l7_31), (6, .int r28), (5, .int r19), (4, .int r14), (0, .ref y0), (1, .int p1), (2, .int p2), (3, .int p3)]) hx hb dX11_sewing_214 hl (k := 1) rfl (by rw [et81]; rfl) (by decide) rfl (fun ls hl => ?_)
                          refine lv_goto (tgt := 104) hx hb dX11_sewing_217 rfl ?_
                          have rg82 := fb_rng t81
                          exact ih33 t81 v73 f74 w75 g76 hIv73 hCf74 hRf74 hq0_v73 hq1_v73 hq2_v73 hq3_v73 hq4_v73 hq5_v73 hq8_v73 hq9_v73 hq10_v73 hq13_v73 hq14_v73 hq15_v73 hq17_v73 hq18_v73 hq24_v73 hq25_v73 hq35_v73 hq36_v73 hq38_v73 hq39_v73 ⟨show (0 : Int) ≤ t81.toInt by omega, show t81.toInt ≤ (2147483647 : Int) by omega⟩ hM_v73 hA_f74 (by show (2147483647 - t81.toInt).toNat < n33; omega) _ _ _ hP hD hS (lv_sub hl [0, 2, 3, 4, 5, 6, 7, 8, 9] rfl)
                        · skip
                          have zc80 : ¬ (t45.toInt ≤ 0) := by rw [fa_le, show (0 : Int32).toInt = 0 from by decide] at c80; exact c80
                          refine lv_iload hx hb dX11_sewing_170 (lv_at hl 0 rfl) ?_
                          refine lv_iload hx hb dX11_sewing_172 (lv_at hl 3 rfl) ?_
                          refine lv_icmp_gt (tgt := 214) hx hb dX11_sewing_174 rfl (fun c83 => ?_) (fun c83 => ?_)
                          · skip
                            have zc83 : r28.toInt < t45.toInt := by rw [fa_lt] at c83; exact c83
                            have rg84 := fb_rng r28
                            obtain ⟨t85, et85⟩ : ∃ y : Int32, y = l8_33 + 1 := ⟨_, rfl⟩
                            have zt85 : t85.toInt = l8_33.toInt + 1 := by rw [et85]; exact add_i rfl (by decide) (by omega) (by omega)
                            refine lv_iinc (v := t85) (lv' := [(8, .int t85), (9, .int t45), (7, .int l7_31), (6, .int r28), (5, .int r19), (4, .int r14), (0, .ref y0), (1, .int p1), (2, .int p2), (3, .int p3)]) hx hb dX11_sewing_214 hl (k := 1) rfl (by rw [et85]; rfl) (by decide) rfl (fun ls hl => ?_)
                            refine lv_goto (tgt := 104) hx hb dX11_sewing_217 rfl ?_
                            have rg86 := fb_rng t85
                            exact ih33 t85 v73 f74 w75 g76 hIv73 hCf74 hRf74 hq0_v73 hq1_v73 hq2_v73 hq3_v73 hq4_v73 hq5_v73 hq8_v73 hq9_v73 hq10_v73 hq13_v73 hq14_v73 hq15_v73 hq17_v73 hq18_v73 hq24_v73 hq25_v73 hq35_v73 hq36_v73 hq38_v73 hq39_v73 ⟨show (0 : Int) ≤ t85.toInt by omega, show t85.toInt ≤ (2147483647 : Int) by omega⟩ hM_v73 hA_f74 (by show (2147483647 - t85.toInt).toNat < n33; omega) _ _ _ hP hD hS (lv_sub hl [0, 2, 3, 4, 5, 6, 7, 8, 9] rfl)
                          · skip
                            have zc83 : ¬ (r28.toInt < t45.toInt) := by rw [fa_lt] at c83; exact c83
                            have rg87 := fb_rng r28
                            refine lv_aload_n hx hb dX11_sewing_177 rfl (lv_at hl 6 rfl) ?_
                            refine lv_iload_n hx hb dX11_sewing_178 rfl (lv_at hl 7 rfl) ?_
                            refine lv_iload_n hx hb dX11_sewing_179 rfl (lv_at hl 8 rfl) ?_
                            refine lv_iload hx hb dX11_sewing_180 (lv_at hl 1 rfl) ?_
                            refine lv_iload hx hb dX11_sewing_182 (lv_at hl 0 rfl) ?_
                            refine lv_ineg hx hb dX11_sewing_184 ?_
                            refine lv_topi (fun t88 et88 => ?_)
                            refine cbVi (n := 4) (rest := []) hx hb hml hown hts hE hP hD hS hA (sY_X11_isSewn_1 l dC dI cy y0 r p1 p2 l8_33 t88 v73 f74 w75 g76 hIv73 hCf74 hRf74 ⟨show (0 : Int) ≤ p1.toInt by omega, show p1.toInt ≤ (5 : Int) by omega⟩ ⟨show (0 : Int) ≤ p2.toInt by omega, show p2.toInt ≤ (5 : Int) by omega⟩) k_1892 k_1894 k_87 k_114 k_1895 (by decide +kernel) ⟨Nat.le_of_ble_eq_true rfl, Nat.le_of_ble_eq_true rfl⟩ 0 11 rfl rfl (rfl) hl.1 rfl (Nat.le_of_ble_eq_true rfl) dX11_sewing_185 (fun r89 u H locs hw hP hD hS => ?_)
                            obtain ⟨v90, f91, w92, g93⟩ := u
                            obtain ⟨kV_v90, kF_f91, hIv90, hCf91, hRf91, hk0_v90, hk1_v90, hk2_v90, hk3_v90, hk4_v90, hk5_v90, hk8_v90, hk9_v90, hk10_v90, hk13_v90, hk14_v90, hk15_v90, hk17_v90, hk18_v90, hk24_v90, hk25_v90, hk35_v90, hk36_v90, hk38_v90, hk39_v90, hw⟩ := hw
                            have hM_v90 : KV [] v90 v := KV.tr kV_v90 hM_v73 rfl
                            have hA_f91 : KF [7, 8, 24] f91 f := KF.tr kF_f91 hA_f74 rfl
                            have hP : va_P (dC, dI) vwCl (YW cy y0 r v90 f91 w92 g93) H := hP
                            have hD : va_D A (YW cy y0 r v90 f91 w92 g93) := hD
                            have hUv90 : (v90 35).toInt + (v90 36).toInt ≤ 40 := hIv90.2
                            have hq0_v90 : v90 0 = (v 0) := hk0_v90.trans hq0_v73
                            have hq1_v90 : v90 1 = (v 1) := hk1_v90.trans hq1_v73
                            have hq2_v90 : v90 2 = (v 2) := hk2_v90.trans hq2_v73
                            have hq3_v90 : v90 3 = (v 3) := hk3_v90.trans hq3_v73
                            have hq4_v90 : v90 4 = (v 4) := hk4_v90.trans hq4_v73
                            have hq5_v90 : v90 5 = (v 5) := hk5_v90.trans hq5_v73
                            have hq8_v90 : v90 8 = (v 8) := hk8_v90.trans hq8_v73
                            have hq9_v90 : v90 9 = (v 9) := hk9_v90.trans hq9_v73
                            have zq9_v90 := congrArg Int32.toInt hq9_v90
                            have hq10_v90 : v90 10 = (v 10) := hk10_v90.trans hq10_v73
                            have hq13_v90 : v90 13 = (v 13) := hk13_v90.trans hq13_v73
                            have hq14_v90 : v90 14 = (v 14) := hk14_v90.trans hq14_v73
                            have hq15_v90 : v90 15 = (v 15) := hk15_v90.trans hq15_v73
                            have hq17_v90 : v90 17 = (v 17) := hk17_v90.trans hq17_v73
                            have hq18_v90 : v90 18 = (v 18) := hk18_v90.trans hq18_v73
                            have hq24_v90 : v90 24 = (v 24) := hk24_v90.trans hq24_v73
                            have hq25_v90 : v90 25 = (v 25) := hk25_v90.trans hq25_v73
                            have hq35_v90 : v90 35 = (v 35) := hk35_v90.trans hq35_v73
                            have hq36_v90 : v90 36 = (v 36) := hk36_v90.trans hq36_v73
                            have hq38_v90 : v90 38 = (v 38) := hk38_v90.trans hq38_v73
                            have hq39_v90 : v90 39 = (v 39) := hk39_v90.trans hq39_v73
                            rcases hw with ⟨g94⟩ | ⟨g94⟩
                            · skip
                              subst g94
                              refine lv_if_eq (tgt := 214) hx hb dX11_sewing_188 rfl (fun c0 => absurd c0 (by decide)) (fun _ => ?_)
                              refine lv_iload_n hx hb dX11_sewing_191 rfl (lv_at hl 9 rfl) ?_
                              refine lv_if_ne (tgt := 200) hx hb dX11_sewing_192 rfl (fun c95 => ?_) (fun c95 => ?_)
                              · skip
                                have zc95 : ¬ (p3.toInt = 0) := by rw [fa_eq, show (0 : Int32).toInt = 0 from by decide] at c95; exact c95
                                refine lv_iload_n hx hb dX11_sewing_200 rfl (lv_at hl 9 rfl) ?_
                                refine lv_iconst (v := 1) hx hb dX11_sewing_201 rfl ?_
                                refine lv_icmp_ne (tgt := 210) hx hb dX11_sewing_202 rfl (fun c96 => ?_) (fun c96 => ?_)
                                · skip
                                  have zc96 : ¬ (p3.toInt = 1) := by rw [fa_eq, show (1 : Int32).toInt = 1 from by decide] at c96; exact c96
                                  refine lv_iload hx hb dX11_sewing_210 (lv_at hl 0 rfl) ?_
                                  refine lv_ineg hx hb dX11_sewing_212 ?_
                                  refine lv_topi (fun t97 et97 => ?_)
                                  exact ret t97 (v90, f91, w92, g93) _ _ _ _ _ _ rfl ⟨hM_v90, hA_f91, hIv90, hCf91, hRf91, (hk0_v90.trans (hk0_v73.trans hq0_v33)), (hk1_v90.trans (hk1_v73.trans hq1_v33)), (hk2_v90.trans (hk2_v73.trans hq2_v33)), (hk3_v90.trans (hk3_v73.trans hq3_v33)), (hk4_v90.trans (hk4_v73.trans hq4_v33)), (hk5_v90.trans (hk5_v73.trans hq5_v33)), (hk8_v90.trans (hk8_v73.trans hq8_v33)), (hk9_v90.trans (hk9_v73.trans hq9_v33)), (hk10_v90.trans (hk10_v73.trans hq10_v33)), (hk13_v90.trans (hk13_v73.trans hq13_v33)), (hk14_v90.trans (hk14_v73.trans hq14_v33)), (hk15_v90.trans (hk15_v73.trans hq15_v33)), (hk17_v90.trans (hk17_v73.trans hq17_v33)), (hk18_v90.trans (hk18_v73.trans hq18_v33)), (hk24_v90.trans (hk24_v73.trans hq24_v33)), (hk25_v90.trans (hk25_v73.trans hq25_v33)), (hk35_v90.trans (hk35_v73.trans hq35_v33)), (hk36_v90.trans (hk36_v73.trans hq36_v33)), (hk38_v90.trans (hk38_v73.trans hq38_v33)), (hk39_v90.trans (hk39_v73.trans hq39_v33))⟩ hP hD hS dX11_sewing_213 (Nat.le_refl _) (Nat.le_refl _)
                                · skip
                                  have zc96 : p3.toInt = 1 := by rw [fa_eq, show (1 : Int32).toInt = 1 from by decide] at c96; exact c96
                                  refine lv_iload hx hb dX11_sewing_205 (lv_at hl 1 rfl) ?_
                                  refine lv_goto (tgt := 213) hx hb dX11_sewing_207 rfl ?_
                                  exact ret l8_33 (v90, f91, w92, g93) _ _ _ _ _ _ rfl ⟨hM_v90, hA_f91, hIv90, hCf91, hRf91, (hk0_v90.trans (hk0_v73.trans hq0_v33)), (hk1_v90.trans (hk1_v73.trans hq1_v33)), (hk2_v90.trans (hk2_v73.trans hq2_v33)), (hk3_v90.trans (hk3_v73.trans hq3_v33)), (hk4_v90.trans (hk4_v73.trans hq4_v33)), (hk5_v90.trans (hk5_v73.trans hq5_v33)), (hk8_v90.trans (hk8_v73.trans hq8_v33)), (hk9_v90.trans (hk9_v73.trans hq9_v33)), (hk10_v90.trans (hk10_v73.trans hq10_v33)), (hk13_v90.trans (hk13_v73.trans hq13_v33)), (hk14_v90.trans (hk14_v73.trans hq14_v33)), (hk15_v90.trans (hk15_v73.trans hq15_v33)), (hk17_v90.trans (hk17_v73.trans hq17_v33)), (hk18_v90.trans (hk18_v73.trans hq18_v33)), (hk24_v90.trans (hk24_v73.trans hq24_v33)), (hk25_v90.trans (hk25_v73.trans hq25_v33)), (hk35_v90.trans (hk35_v73.trans hq35_v33)), (hk36_v90.trans (hk36_v73.trans hq36_v33)), (hk38_v90.trans (hk38_v73.trans hq38_v33)), (hk39_v90.trans (hk39_v73.trans hq39_v33))⟩ hP hD hS dX11_sewing_213 (Nat.le_refl _) (Nat.le_refl _)
                              · skip
                                have zc95 : p3.toInt = 0 := by rw [fa_eq, show (0 : Int32).toInt = 0 from by decide] at c95; exact c95
                                refine lv_iload hx hb dX11_sewing_195 (lv_at hl 2 rfl) ?_
                                refine lv_goto (tgt := 213) hx hb dX11_sewing_197 rfl ?_
                                exact ret l7_31 (v90, f91, w92, g93) _ _ _ _ _ _ rfl ⟨hM_v90, hA_f91, hIv90, hCf91, hRf91, (hk0_v90.trans (hk0_v73.trans hq0_v33)), (hk1_v90.trans (hk1_v73.trans hq1_v33)), (hk2_v90.trans (hk2_v73.trans hq2_v33)), (hk3_v90.trans (hk3_v73.trans hq3_v33)), (hk4_v90.trans (hk4_v73.trans hq4_v33)), (hk5_v90.trans (hk5_v73.trans hq5_v33)), (hk8_v90.trans (hk8_v73.trans hq8_v33)), (hk9_v90.trans (hk9_v73.trans hq9_v33)), (hk10_v90.trans (hk10_v73.trans hq10_v33)), (hk13_v90.trans (hk13_v73.trans hq13_v33)), (hk14_v90.trans (hk14_v73.trans hq14_v33)), (hk15_v90.trans (hk15_v73.trans hq15_v33)), (hk17_v90.trans (hk17_v73.trans hq17_v33)), (hk18_v90.trans (hk18_v73.trans hq18_v33)), (hk24_v90.trans (hk24_v73.trans hq24_v33)), (hk25_v90.trans (hk25_v73.trans hq25_v33)), (hk35_v90.trans (hk35_v73.trans hq35_v33)), (hk36_v90.trans (hk36_v73.trans hq36_v33)), (hk38_v90.trans (hk38_v73.trans hq38_v33)), (hk39_v90.trans (hk39_v73.trans hq39_v33))⟩ hP hD hS dX11_sewing_213 (Nat.le_refl _) (Nat.le_refl _)
                            · skip
                              subst g94
                              refine lv_if_eq (tgt := 214) hx hb dX11_sewing_188 rfl (fun _ => ?_) (fun c0 => absurd (by decide) c0)
                              obtain ⟨t98, et98⟩ : ∃ y : Int32, y = l8_33 + 1 := ⟨_, rfl⟩
                              have zt98 : t98.toInt = l8_33.toInt + 1 := by rw [et98]; exact add_i rfl (by decide) (by omega) (by omega)
                              refine lv_iinc (v := t98) (lv' := [(8, .int t98), (9, .int t45), (7, .int l7_31), (6, .int r28), (5, .int r19), (4, .int r14), (0, .ref y0), (1, .int p1), (2, .int p2), (3, .int p3)]) hx hb dX11_sewing_214 hl (k := 1) rfl (by rw [et98]; rfl) (by decide) rfl (fun ls hl => ?_)
                              refine lv_goto (tgt := 104) hx hb dX11_sewing_217 rfl ?_
                              have rg99 := fb_rng t98
                              exact ih33 t98 v90 f91 w92 g93 hIv90 hCf91 hRf91 hq0_v90 hq1_v90 hq2_v90 hq3_v90 hq4_v90 hq5_v90 hq8_v90 hq9_v90 hq10_v90 hq13_v90 hq14_v90 hq15_v90 hq17_v90 hq18_v90 hq24_v90 hq25_v90 hq35_v90 hq36_v90 hq38_v90 hq39_v90 ⟨show (0 : Int) ≤ t98.toInt by omega, show t98.toInt ≤ (2147483647 : Int) by omega⟩ hM_v90 hA_f91 (by show (2147483647 - t98.toInt).toNat < n33; omega) _ _ _ hP hD hS (lv_sub hl [0, 2, 3, 4, 5, 6, 7, 8, 9] rfl)
              exact lp33 _ 0 v31 f31 w31 g31 hIv31 hCf31 hRf31 hq0_v31 hq1_v31 hq2_v31 hq3_v31 hq4_v31 hq5_v31 hq8_v31 hq9_v31 hq10_v31 hq13_v31 hq14_v31 hq15_v31 hq17_v31 hq18_v31 hq24_v31 hq25_v31 hq35_v31 hq36_v31 hq38_v31 hq39_v31 ⟨by decide, by decide⟩ hM_v31 hA_f31 (Nat.lt_succ_self _) _ _ _ hP hD hS (lv_sub hl [0, 1, 2, 3, 4, 5, 6, 7, 8] rfl)
        exact lp31 _ 0 v f w g hIv hCf hRf rfl rfl rfl rfl rfl rfl rfl rfl rfl rfl rfl rfl rfl rfl rfl rfl rfl rfl rfl rfl ⟨by decide, by decide⟩ hM_v hA_f (Nat.lt_succ_self _) _ _ _ hP hD hS (lv_sub hl [0, 1, 2, 3, 4, 5, 6, 7] rfl)
      · skip
        subst g9
        refine lv_if_ne (tgt := 28) hx hb dX11_sewing_22 rfl (fun c0 => absurd (by decide) c0) (fun _ => ?_)
        refine lv_bipush (v := (-100)) hx hb dX11_sewing_25 rfl ?_
        exact ret (-100) (v, f, w, g) _ _ _ _ _ _ rfl ⟨hM_v, hA_f, hIv, hCf, hRf, rfl, rfl, rfl, rfl, rfl, rfl, rfl, rfl, rfl, rfl, rfl, rfl, rfl, rfl, rfl, rfl, rfl, rfl, rfl, rfl⟩ hP hD hS dX11_sewing_27 (Nat.le_refl _) (Nat.le_refl _)
    · skip
      subst g4
      refine lv_if_eq (tgt := 25) hx hb dX11_sewing_13 rfl (fun _ => ?_) (fun c0 => absurd (by decide) c0)
      refine lv_bipush (v := (-100)) hx hb dX11_sewing_25 rfl ?_
      exact ret (-100) (v, f, w, g) _ _ _ _ _ _ rfl ⟨hM_v, hA_f, hIv, hCf, hRf, rfl, rfl, rfl, rfl, rfl, rfl, rfl, rfl, rfl, rfl, rfl, rfl, rfl, rfl, rfl, rfl, rfl, rfl, rfl, rfl⟩ hP hD hS dX11_sewing_27 (Nat.le_refl _) (Nat.le_refl _)
  · skip
    subst g2
    refine lv_if_eq (tgt := 25) hx hb dX11_sewing_5 rfl (fun _ => ?_) (fun c0 => absurd (by decide) c0)
    refine lv_bipush (v := (-100)) hx hb dX11_sewing_25 rfl ?_
    exact ret (-100) (v, f, w, g) _ _ _ _ _ _ rfl ⟨hM_v, hA_f, hIv, hCf, hRf, rfl, rfl, rfl, rfl, rfl, rfl, rfl, rfl, rfl, rfl, rfl, rfl, rfl, rfl, rfl, rfl, rfl, rfl, rfl, rfl⟩ hP hD hS dX11_sewing_27 (Nat.le_refl _) (Nat.le_refl _)
set_option maxHeartbeats 4000000 in
set_option maxRecDepth 100000 in
theorem sY_X11_members_1 (l : Launch) (dC : Nat → ClassId) (dI : Nat → Nat → Nat) (cy : Nat → ClassId) (y0 : Nat) (r : Nat → Nat) (p0 : Int32) (v : Nat → Int32) (f : Nat → Nat → Int32) (w : Int64) (g : Nat → Int64) (hIv : YI v) (hCf : YC f) (hRf : progOK (f 4) (f 5) (v 9).toInt.toNat)  : ctI l (dC, dI) cy yX11_members cX11_members 3 .int 1 60 0 0 Unit [.int p0] (YW cy y0 r v f w g) (fun r u => True) (fun u => YW cy y0 r v f w g) := by
  refine ctI_of (by decide) (Nat.le_of_ble_eq_true rfl) (fun p e s m below meth c A ls Q hx hb hml hts hown hE hP hD hA hl ret => ?_)
  have hUv : (v 35).toInt + (v 36).toInt ≤ 40 := hIv.2
  have hown : s.vm.findClass RX11 = some m.cls := hown
  have hS : va_S A s.heap s.heap [] := va_S.rf
  have hl : lv_has ls 3 [(0, .int p0)] := hl
  refine lv_iconst (v := 0) hx hb dX11_members_0 rfl ?_
  refine lv_istore_n (lv' := [(1, .int 0), (0, .int p0)]) hx hb dX11_members_1 rfl hl (Nat.le_of_ble_eq_true rfl) rfl (fun ls hl => ?_)
  refine lv_iconst (v := 0) hx hb dX11_members_2 rfl ?_
  refine lv_istore_n (lv' := [(2, .int 0), (1, .int 0), (0, .int p0)]) hx hb dX11_members_3 rfl hl (Nat.le_of_ble_eq_true rfl) rfl (fun ls hl => ?_)
  have lp1 : ∀ (n1 : Nat) (l1_1 : Int32) (l2_1 : Int32), ((0 : Int) ≤ l2_1.toInt ∧ l2_1.toInt ≤ 2147483647) → (2147483647 - l2_1.toInt).toNat < n1 → ∀ (H : Heap) (locs : List Loc) (ls : Array Slot), va_P (dC, dI) vwCl (YW cy y0 r v f w g) H → va_D A (YW cy y0 r v f w g) → va_S A s.heap H locs → lv_has ls 3 [(2, .int l2_1), (1, .int l1_1), (0, .int p0)] → W p l e { frames := 1, cells := 0, slots := 0, locals := 60 } s m ([.int p0] : List Value).toArray below meth c H locs 0 0 Q (F0 m 4 ls []) := by
    intro n1
    induction n1 with
    | zero => intro l1_1 l2_1 hr2_1 hm; exact absurd hm (Nat.not_lt_zero _)
    | succ n1 ih1 =>
      intro l1_1 l2_1 hr2_1 hm1 H locs ls hP hD hS hl
      refine lv_iload_n hx hb dX11_members_4 rfl (lv_at hl 0 rfl) ?_
      refine lv_bipush (v := 6) hx hb dX11_members_5 rfl ?_
      refine lv_icmp_ge (tgt := 24) hx hb dX11_members_7 rfl (fun c2 => ?_) (fun c2 => ?_)
      · skip
        have zc2 : 6 ≤ l2_1.toInt := by rw [fa_le, show (6 : Int32).toInt = 6 from by decide] at c2; exact c2
        refine lv_iload_n hx hb dX11_members_24 rfl (lv_at hl 1 rfl) ?_
        exact ret l1_1 () _ _ _ _ _ _ rfl trivial hP hD hS dX11_members_25 (Nat.le_refl _) (Nat.le_refl _)
      · skip
        have zc2 : ¬ (6 ≤ l2_1.toInt) := by rw [fa_le, show (6 : Int32).toInt = 6 from by decide] at c2; exact c2
        refine lv_iload_n hx hb dX11_members_10 rfl (lv_at hl 1 rfl) ?_
        refine lv_iload_n hx hb dX11_members_11 rfl (lv_at hl 2 rfl) ?_
        refine lv_iload_n hx hb dX11_members_12 rfl (lv_at hl 0 rfl) ?_
        refine lv_ishr hx hb dX11_members_13 ?_
        refine lv_topi (fun t3 et3 => ?_)
        refine lv_iconst (v := 1) hx hb dX11_members_14 rfl ?_
        refine lv_iand hx hb dX11_members_15 ?_
        refine lv_topi (fun t4 et4 => ?_)
        have zt4 : 0 ≤ t4.toInt ∧ t4.toInt < 2 := by rw [et4]; exact and_rng _ (k := 1) (by decide) (by decide)
        refine lv_iadd hx hb dX11_members_16 ?_
        refine lv_topi (fun t5 et5 => ?_)
        refine lv_istore_n (lv' := [(1, .int t5), (2, .int l2_1), (0, .int p0)]) hx hb dX11_members_17 rfl hl (Nat.le_of_ble_eq_true rfl) rfl (fun ls hl => ?_)
        obtain ⟨t6, et6⟩ : ∃ y : Int32, y = l2_1 + 1 := ⟨_, rfl⟩
        have rg7 := fb_rng l2_1
        have zt6 : t6.toInt = l2_1.toInt + 1 := by rw [et6]; exact add_i rfl (by decide) (by omega) (by omega)
        refine lv_iinc (v := t6) (lv' := [(2, .int t6), (1, .int t5), (0, .int p0)]) hx hb dX11_members_18 hl (k := 1) rfl (by rw [et6]; rfl) (by decide) rfl (fun ls hl => ?_)
        refine lv_goto (tgt := 4) hx hb dX11_members_21 rfl ?_
        have rg8 := fb_rng t6
        exact ih1 t5 t6 ⟨show (0 : Int) ≤ t6.toInt by omega, show t6.toInt ≤ (2147483647 : Int) by omega⟩ (by show (2147483647 - t6.toInt).toNat < n1; omega) _ _ _ hP hD hS (lv_sub hl [0, 1, 2] rfl)
  exact lp1 _ 0 0 ⟨by decide, by decide⟩ (Nat.lt_succ_self _) _ _ _ hP hD hS (lv_sub hl [0, 1, 2] rfl)
set_option maxHeartbeats 4000000 in
set_option maxRecDepth 100000 in
theorem sY_X11_rota_1 (l : Launch) (dC : Nat → ClassId) (dI : Nat → Nat → Nat) (cy : Nat → ClassId) (y0 : Nat) (r : Nat → Nat) (p1 : Int32) (v : Nat → Int32) (f : Nat → Nat → Int32) (w : Int64) (g : Nat → Int64) (hIv : YI v) (hCf : YC f) (hRf : progOK (f 4) (f 5) (v 9).toInt.toNat)  : ctI l (dC, dI) cy yX11_rota cX11_rota 6 .int 7 191 0 0 ((Nat → Int32) × (Nat → Nat → Int32) × (Int64) × (Nat → Int64)) [.ref y0, .int p1] (YW cy y0 r v f w g) (fun r u => KV [] u.1 v ∧ KF [7, 8, 24] u.2.1 f ∧ YI u.1 ∧ YC u.2.1 ∧ progOK (u.2.1 4) (u.2.1 5) (u.1 9).toInt.toNat ∧ u.1 0 = v 0 ∧ u.1 1 = v 1 ∧ u.1 2 = v 2 ∧ u.1 3 = v 3 ∧ u.1 4 = v 4 ∧ u.1 5 = v 5 ∧ u.1 8 = v 8 ∧ u.1 9 = v 9 ∧ u.1 10 = v 10 ∧ u.1 13 = v 13 ∧ u.1 14 = v 14 ∧ u.1 15 = v 15 ∧ u.1 17 = v 17 ∧ u.1 18 = v 18 ∧ u.1 24 = v 24 ∧ u.1 25 = v 25 ∧ u.1 35 = v 35 ∧ u.1 36 = v 36 ∧ u.1 38 = v 38 ∧ u.1 39 = v 39) (fun u => YW cy y0 r u.1 u.2.1 u.2.2.1 u.2.2.2) := by
  refine ctI_of (by decide) (Nat.le_of_ble_eq_true rfl) (fun p e s m below meth c A ls Q hx hb hml hts hown hE hP hD hA hl ret => ?_)
  have hUv : (v 35).toInt + (v 36).toInt ≤ 40 := hIv.2
  have hM_v : KV [] v v := fun _ _ => rfl
  have hA_f : KF [7, 8, 24] f f := fun _ _ => rfl
  have hown : s.vm.findClass RX11 = some m.cls := hown
  have hS : va_S A s.heap s.heap [] := va_S.rf
  have hl : lv_has ls 6 [(0, .ref y0), (1, .int p1)] := hl
  refine lv_iload_n hx hb dX11_rota_0 rfl (lv_at hl 1 rfl) ?_
  refine lv_iconst (v := 0) hx hb dX11_rota_1 rfl ?_
  refine lv_iconst (v := 1) hx hb dX11_rota_2 rfl ?_
  have lt1 : (0 : Int32).toInt = 0 := by decide
  have lt2 : (1 : Int32).toInt = 1 := by decide
  refine cbSi (n := 3) (rest := []) hx hb hml hown hts hE hP hD hS hA (sY_X11_isIn_1 0 l dC dI cy y0 r p1 0 1 v f w g hIv hCf hRf ) k_1736 k_1737 k_114 k_1738 (by decide +kernel) ⟨Nat.le_of_ble_eq_true rfl, Nat.le_of_ble_eq_true rfl⟩ (rfl) hl.1 rfl (Nat.le_of_ble_eq_true rfl) dX11_rota_3 (fun r3 u H locs hw hP hD hS => ?_)
  obtain ⟨hG4, hw⟩ := hw
  rcases hw with ⟨g5, g5_0, g5_1⟩ | ⟨g5⟩
  · skip
    subst g5
    refine lv_if_eq (tgt := 16) hx hb dX11_rota_6 rfl (fun c0 => absurd c0 (by decide)) (fun _ => ?_)
    refine lv_aload_n hx hb dX11_rota_9 rfl (lv_at hl 0 rfl) ?_
    refine va_get (D := (dC, dI)) (ci := 11) (v := .int (v 24)) (C := RX11) (T := TX11) (N := 79) hx hb hts inB_11 hown hE.1 hP 0 rfl rfl 48 (Nat.le_of_ble_eq_true rfl) (hts _ k_1368) (fun _ h9 => h9) rfl dX11_rota_10 ?_
    have b24_v : 0 ≤ (v 24).toInt ∧ (v 24).toInt ≤ 6 := YIb.b hIv.1 24 (by decide)
    refine lv_if_ne (tgt := 18) hx hb dX11_rota_13 rfl (fun c6 => ?_) (fun c6 => ?_)
    · skip
      have zc6 : ¬ ((v 24).toInt = 0) := by rw [fa_eq, show (0 : Int32).toInt = 0 from by decide] at c6; exact c6
      refine lv_iconst (v := 0) hx hb dX11_rota_18 rfl ?_
      refine lv_istore_n (lv' := [(2, .int 0), (0, .ref y0), (1, .int p1)]) hx hb dX11_rota_19 rfl hl (Nat.le_of_ble_eq_true rfl) rfl (fun ls hl => ?_)
      refine lv_iconst (v := (-1)) hx hb dX11_rota_20 rfl ?_
      refine lv_istore_n (lv' := [(3, .int (-1)), (2, .int 0), (0, .ref y0), (1, .int p1)]) hx hb dX11_rota_21 rfl hl (Nat.le_of_ble_eq_true rfl) rfl (fun ls hl => ?_)
      refine lv_iconst (v := 0) hx hb dX11_rota_22 rfl ?_
      refine lv_istore (lv' := [(4, .int 0), (3, .int (-1)), (2, .int 0), (0, .ref y0), (1, .int p1)]) hx hb dX11_rota_23 hl (Nat.le_of_ble_eq_true rfl) rfl (fun ls hl => ?_)
      have lp7 : ∀ (n7 : Nat) (l2_7 : Int32) (l3_7 : Int32) (l4_7 : Int32) (v7 : Nat → Int32) (f7 : Nat → Nat → Int32) (w7 : Int64) (g7 : Nat → Int64), YI v7 → YC f7 → progOK (f7 4) (f7 5) (v7 9).toInt.toNat → v7 0 = (v 0) → v7 1 = (v 1) → v7 2 = (v 2) → v7 3 = (v 3) → v7 4 = (v 4) → v7 5 = (v 5) → v7 8 = (v 8) → v7 9 = (v 9) → v7 10 = (v 10) → v7 13 = (v 13) → v7 14 = (v 14) → v7 15 = (v 15) → v7 17 = (v 17) → v7 18 = (v 18) → v7 24 = (v 24) → v7 25 = (v 25) → v7 35 = (v 35) → v7 36 = (v 36) → v7 38 = (v 38) → v7 39 = (v 39) → ((0 : Int) ≤ l4_7.toInt ∧ l4_7.toInt ≤ 2147483647) → KV [] v7 v → KF [7, 8, 24] f7 f → (2147483647 - l4_7.toInt).toNat < n7 → ∀ (H : Heap) (locs : List Loc) (ls : Array Slot), va_P (dC, dI) vwCl (YW cy y0 r v7 f7 w7 g7) H → va_D A (YW cy y0 r v7 f7 w7 g7) → va_S A s.heap H locs → lv_has ls 6 [(4, .int l4_7), (3, .int l3_7), (2, .int l2_7), (0, .ref y0), (1, .int p1)] → W p l e { frames := 7, cells := 0, slots := 0, locals := 191 } s m ([.ref y0, .int p1] : List Value).toArray below meth c H locs 0 0 Q (F0 m 25 ls []) := by
        intro n7
        induction n7 with
        | zero => intro l2_7 l3_7 l4_7 v7 f7 w7 g7 hIv7 hCf7 hRf7 hq0_v7 hq1_v7 hq2_v7 hq3_v7 hq4_v7 hq5_v7 hq8_v7 hq9_v7 hq10_v7 hq13_v7 hq14_v7 hq15_v7 hq17_v7 hq18_v7 hq24_v7 hq25_v7 hq35_v7 hq36_v7 hq38_v7 hq39_v7 hr4_7 hM_v7 hA_f7 hm; exact absurd hm (Nat.not_lt_zero _)
        | succ n7 ih7 =>
          intro l2_7 l3_7 l4_7 v7 f7 w7 g7 hIv7 hCf7 hRf7 hq0_v7 hq1_v7 hq2_v7 hq3_v7 hq4_v7 hq5_v7 hq8_v7 hq9_v7 hq10_v7 hq13_v7 hq14_v7 hq15_v7 hq17_v7 hq18_v7 hq24_v7 hq25_v7 hq35_v7 hq36_v7 hq38_v7 hq39_v7 hr4_7 hM_v7 hA_f7 hm7 H locs ls hP hD hS hl
          have hUv7 : (v7 35).toInt + (v7 36).toInt ≤ 40 := hIv7.2
          have zq9_v7 := congrArg Int32.toInt hq9_v7
          refine lv_iload hx hb dX11_rota_25 (lv_at hl 0 rfl) ?_
          refine lv_aload_n hx hb dX11_rota_27 rfl (lv_at hl 3 rfl) ?_
          refine va_get (D := (dC, dI)) (ci := 11) (v := .int (v7 24)) (C := RX11) (T := TX11) (N := 79) hx hb hts inB_11 hown hE.1 hP 0 rfl rfl 48 (Nat.le_of_ble_eq_true rfl) (hts _ k_1368) (fun _ h9 => h9) rfl dX11_rota_28 ?_
          refine tI (y := (v 24)) hq24_v7 ?_
          have b24_v : 0 ≤ (v 24).toInt ∧ (v 24).toInt ≤ 6 := YIb.b hIv.1 24 (by decide)
          refine lv_icmp_ge (tgt := 114) hx hb dX11_rota_31 rfl (fun c8 => ?_) (fun c8 => ?_)
          · skip
            have zc8 : (v 24).toInt ≤ l4_7.toInt := by rw [fa_le] at c8; exact c8
            have rg9 := fb_rng l4_7
            have rg10 := fb_rng (v 24)
            refine lv_iload_n hx hb dX11_rota_114 rfl (lv_at hl 4 rfl) ?_
            refine lv_if_ne (tgt := 122) hx hb dX11_rota_115 rfl (fun c11 => ?_) (fun c11 => ?_)
            · skip
              have zc11 : ¬ (p1.toInt = 0) := by rw [fa_eq, show (0 : Int32).toInt = 0 from by decide] at c11; exact c11
              refine lv_iload_n hx hb dX11_rota_122 rfl (lv_at hl 1 rfl) ?_
              exact ret l3_7 (v7, f7, w7, g7) _ _ _ _ _ _ rfl ⟨hM_v7, hA_f7, hIv7, hCf7, hRf7, (show v7 0 = v 0 from hq0_v7), (show v7 1 = v 1 from hq1_v7), (show v7 2 = v 2 from hq2_v7), (show v7 3 = v 3 from hq3_v7), (show v7 4 = v 4 from hq4_v7), (show v7 5 = v 5 from hq5_v7), (show v7 8 = v 8 from hq8_v7), (show v7 9 = v 9 from hq9_v7), (show v7 10 = v 10 from hq10_v7), (show v7 13 = v 13 from hq13_v7), (show v7 14 = v 14 from hq14_v7), (show v7 15 = v 15 from hq15_v7), (show v7 17 = v 17 from hq17_v7), (show v7 18 = v 18 from hq18_v7), (show v7 24 = v 24 from hq24_v7), (show v7 25 = v 25 from hq25_v7), (show v7 35 = v 35 from hq35_v7), (show v7 36 = v 36 from hq36_v7), (show v7 38 = v 38 from hq38_v7), (show v7 39 = v 39 from hq39_v7)⟩ hP hD hS dX11_rota_123 (Nat.le_refl _) (Nat.le_refl _)
            · skip
              have zc11 : p1.toInt = 0 := by rw [fa_eq, show (0 : Int32).toInt = 0 from by decide] at c11; exact c11
              refine lv_iload_n hx hb dX11_rota_118 rfl (lv_at hl 2 rfl) ?_
              refine lv_goto (tgt := 123) hx hb dX11_rota_119 rfl ?_
              exact ret l2_7 (v7, f7, w7, g7) _ _ _ _ _ _ rfl ⟨hM_v7, hA_f7, hIv7, hCf7, hRf7, (show v7 0 = v 0 from hq0_v7), (show v7 1 = v 1 from hq1_v7), (show v7 2 = v 2 from hq2_v7), (show v7 3 = v 3 from hq3_v7), (show v7 4 = v 4 from hq4_v7), (show v7 5 = v 5 from hq5_v7), (show v7 8 = v 8 from hq8_v7), (show v7 9 = v 9 from hq9_v7), (show v7 10 = v 10 from hq10_v7), (show v7 13 = v 13 from hq13_v7), (show v7 14 = v 14 from hq14_v7), (show v7 15 = v 15 from hq15_v7), (show v7 17 = v 17 from hq17_v7), (show v7 18 = v 18 from hq18_v7), (show v7 24 = v 24 from hq24_v7), (show v7 25 = v 25 from hq25_v7), (show v7 35 = v 35 from hq35_v7), (show v7 36 = v 36 from hq36_v7), (show v7 38 = v 38 from hq38_v7), (show v7 39 = v 39 from hq39_v7)⟩ hP hD hS dX11_rota_123 (Nat.le_refl _) (Nat.le_refl _)
          · skip
            have zc8 : ¬ ((v 24).toInt ≤ l4_7.toInt) := by rw [fa_le] at c8; exact c8
            have rg12 := fb_rng l4_7
            have rg13 := fb_rng (v 24)
            refine lv_aload_n hx hb dX11_rota_34 rfl (lv_at hl 3 rfl) ?_
            refine cbVv (n := 0) (rest := []) hx hb hml hown hts hE hP hD hS hA (sY_X11_fill_1 l dC dI cy y0 r  v7 f7 w7 g7 hIv7 hCf7 hRf7 ) k_1739 k_1741 k_71 k_114 k_1742 (by decide +kernel) ⟨Nat.le_of_ble_eq_true rfl, Nat.le_of_ble_eq_true rfl⟩ 0 11 rfl rfl (rfl) hl.1 rfl (Nat.le_of_ble_eq_true rfl) dX11_rota_35 (fun u H locs hw hP hD hS => ?_)
            obtain ⟨v14, f15, w16, g17⟩ := u
            obtain ⟨kV_v14, kF_f15, hIv14, hCf15, hRf15, hk0_v14, hk1_v14, hk2_v14, hk3_v14, hk4_v14, hk5_v14, hk8_v14, hk9_v14, hk10_v14, hk13_v14, hk14_v14, hk15_v14, hk17_v14, hk18_v14, hk24_v14, hk25_v14, hk35_v14, hk36_v14, hk38_v14, hk39_v14⟩ := hw
            have hM_v14 : KV [] v14 v := KV.tr kV_v14 hM_v7 rfl
            have hA_f15 : KF [7, 8, 24] f15 f := KF.tr kF_f15 hA_f7 rfl
            have hP : va_P (dC, dI) vwCl (YW cy y0 r v14 f15 w16 g17) H := hP
            have hD : va_D A (YW cy y0 r v14 f15 w16 g17) := hD
            have hUv14 : (v14 35).toInt + (v14 36).toInt ≤ 40 := hIv14.2
            have hq0_v14 : v14 0 = (v 0) := hk0_v14.trans hq0_v7
            have hq1_v14 : v14 1 = (v 1) := hk1_v14.trans hq1_v7
            have hq2_v14 : v14 2 = (v 2) := hk2_v14.trans hq2_v7
            have hq3_v14 : v14 3 = (v 3) := hk3_v14.trans hq3_v7
            have hq4_v14 : v14 4 = (v 4) := hk4_v14.trans hq4_v7
            have hq5_v14 : v14 5 = (v 5) := hk5_v14.trans hq5_v7
            have hq8_v14 : v14 8 = (v 8) := hk8_v14.trans hq8_v7
            have hq9_v14 : v14 9 = (v 9) := hk9_v14.trans hq9_v7
            have zq9_v14 := congrArg Int32.toInt hq9_v14
            have hq10_v14 : v14 10 = (v 10) := hk10_v14.trans hq10_v7
            have hq13_v14 : v14 13 = (v 13) := hk13_v14.trans hq13_v7
            have hq14_v14 : v14 14 = (v 14) := hk14_v14.trans hq14_v7
            have hq15_v14 : v14 15 = (v 15) := hk15_v14.trans hq15_v7
            have hq17_v14 : v14 17 = (v 17) := hk17_v14.trans hq17_v7
            have hq18_v14 : v14 18 = (v 18) := hk18_v14.trans hq18_v7
            have hq24_v14 : v14 24 = (v 24) := hk24_v14.trans hq24_v7
            have hq25_v14 : v14 25 = (v 25) := hk25_v14.trans hq25_v7
            have hq35_v14 : v14 35 = (v 35) := hk35_v14.trans hq35_v7
            have hq36_v14 : v14 36 = (v 36) := hk36_v14.trans hq36_v7
            have hq38_v14 : v14 38 = (v 38) := hk38_v14.trans hq38_v7
            have hq39_v14 : v14 39 = (v 39) := hk39_v14.trans hq39_v7
            refine lv_iconst (v := 0) hx hb dX11_rota_38 rfl ?_
            refine lv_istore (lv' := [(5, .int 0), (4, .int l4_7), (3, .int l3_7), (2, .int l2_7), (0, .ref y0), (1, .int p1)]) hx hb dX11_rota_39 hl (Nat.le_of_ble_eq_true rfl) rfl (fun ls hl => ?_)
            have lp18 : ∀ (n18 : Nat) (l5_18 : Int32) (v18 : Nat → Int32) (f18 : Nat → Nat → Int32) (w18 : Int64) (g18 : Nat → Int64), YI v18 → YC f18 → progOK (f18 4) (f18 5) (v18 9).toInt.toNat → v18 0 = (v 0) → v18 1 = (v 1) → v18 2 = (v 2) → v18 3 = (v 3) → v18 4 = (v 4) → v18 5 = (v 5) → v18 8 = (v 8) → v18 9 = (v 9) → v18 10 = (v 10) → v18 13 = (v 13) → v18 14 = (v 14) → v18 15 = (v 15) → v18 17 = (v 17) → v18 18 = (v 18) → v18 24 = (v 24) → v18 25 = (v 25) → v18 35 = (v 35) → v18 36 = (v 36) → v18 38 = (v 38) → v18 39 = (v 39) → ((0 : Int) ≤ l5_18.toInt ∧ l5_18.toInt ≤ 2147483647) → KV [] v18 v → KF [7, 8, 24] f18 f → (2147483647 - l5_18.toInt).toNat < n18 → ∀ (H : Heap) (locs : List Loc) (ls : Array Slot), va_P (dC, dI) vwCl (YW cy y0 r v18 f18 w18 g18) H → va_D A (YW cy y0 r v18 f18 w18 g18) → va_S A s.heap H locs → lv_has ls 6 [(5, .int l5_18), (4, .int l4_7), (3, .int l3_7), (2, .int l2_7), (0, .ref y0), (1, .int p1)] → W p l e { frames := 7, cells := 0, slots := 0, locals := 191 } s m ([.ref y0, .int p1] : List Value).toArray below meth c H locs 0 0 Q (F0 m 41 ls []) := by
              intro n18
              induction n18 with
              | zero => intro l5_18 v18 f18 w18 g18 hIv18 hCf18 hRf18 hq0_v18 hq1_v18 hq2_v18 hq3_v18 hq4_v18 hq5_v18 hq8_v18 hq9_v18 hq10_v18 hq13_v18 hq14_v18 hq15_v18 hq17_v18 hq18_v18 hq24_v18 hq25_v18 hq35_v18 hq36_v18 hq38_v18 hq39_v18 hr5_18 hM_v18 hA_f18 hm; exact absurd hm (Nat.not_lt_zero _)
              | succ n18 ih18 =>
                intro l5_18 v18 f18 w18 g18 hIv18 hCf18 hRf18 hq0_v18 hq1_v18 hq2_v18 hq3_v18 hq4_v18 hq5_v18 hq8_v18 hq9_v18 hq10_v18 hq13_v18 hq14_v18 hq15_v18 hq17_v18 hq18_v18 hq24_v18 hq25_v18 hq35_v18 hq36_v18 hq38_v18 hq39_v18 hr5_18 hM_v18 hA_f18 hm18 H locs ls hP hD hS hl
                have hUv18 : (v18 35).toInt + (v18 36).toInt ≤ 40 := hIv18.2
                have zq9_v18 := congrArg Int32.toInt hq9_v18
                refine lv_iload hx hb dX11_rota_41 (lv_at hl 0 rfl) ?_
                refine lv_aload_n hx hb dX11_rota_43 rfl (lv_at hl 4 rfl) ?_
                refine va_get (D := (dC, dI)) (ci := 11) (v := .int (v18 24)) (C := RX11) (T := TX11) (N := 79) hx hb hts inB_11 hown hE.1 hP 0 rfl rfl 48 (Nat.le_of_ble_eq_true rfl) (hts _ k_1368) (fun _ h9 => h9) rfl dX11_rota_44 ?_
                refine tI (y := (v 24)) hq24_v18 ?_
                have b24_v : 0 ≤ (v 24).toInt ∧ (v 24).toInt ≤ 6 := YIb.b hIv.1 24 (by decide)
                refine lv_icmp_ge (tgt := 84) hx hb dX11_rota_47 rfl (fun c19 => ?_) (fun c19 => ?_)
                · skip
                  have zc19 : (v 24).toInt ≤ l5_18.toInt := by rw [fa_le] at c19; exact c19
                  have rg20 := fb_rng l5_18
                  refine lv_aload_n hx hb dX11_rota_84 rfl (lv_at hl 4 rfl) ?_
                  refine cbVi (n := 0) (rest := []) hx hb hml hown hts hE hP hD hS hA (sY_X11_fittedOnes_1 l dC dI cy y0 r  v18 f18 w18 g18 hIv18 hCf18 hRf18 ) k_1809 k_1811 k_81 k_114 k_1812 (by decide +kernel) ⟨Nat.le_of_ble_eq_true rfl, Nat.le_of_ble_eq_true rfl⟩ 0 11 rfl rfl (rfl) hl.1 rfl (Nat.le_of_ble_eq_true rfl) dX11_rota_85 (fun r21 u H locs hw hP hD hS => ?_)
                  obtain ⟨v22, f23, w24, g25⟩ := u
                  obtain ⟨kV_v22, kF_f23, hIv22, hCf23, hRf23, hk0_v22, hk1_v22, hk2_v22, hk3_v22, hk4_v22, hk5_v22, hk8_v22, hk9_v22, hk10_v22, hk13_v22, hk14_v22, hk15_v22, hk17_v22, hk18_v22, hk24_v22, hk25_v22, hk35_v22, hk36_v22, hk38_v22, hk39_v22⟩ := hw
                  have hM_v22 : KV [] v22 v := KV.tr kV_v22 hM_v18 rfl
                  have hA_f23 : KF [7, 8, 24] f23 f := KF.tr kF_f23 hA_f18 rfl
                  have hP : va_P (dC, dI) vwCl (YW cy y0 r v22 f23 w24 g25) H := hP
                  have hD : va_D A (YW cy y0 r v22 f23 w24 g25) := hD
                  have hUv22 : (v22 35).toInt + (v22 36).toInt ≤ 40 := hIv22.2
                  have hq0_v22 : v22 0 = (v 0) := hk0_v22.trans hq0_v18
                  have hq1_v22 : v22 1 = (v 1) := hk1_v22.trans hq1_v18
                  have hq2_v22 : v22 2 = (v 2) := hk2_v22.trans hq2_v18
                  have hq3_v22 : v22 3 = (v 3) := hk3_v22.trans hq3_v18
                  have hq4_v22 : v22 4 = (v 4) := hk4_v22.trans hq4_v18
                  have hq5_v22 : v22 5 = (v 5) := hk5_v22.trans hq5_v18
                  have hq8_v22 : v22 8 = (v 8) := hk8_v22.trans hq8_v18
                  have hq9_v22 : v22 9 = (v 9) := hk9_v22.trans hq9_v18
                  have zq9_v22 := congrArg Int32.toInt hq9_v22
                  have hq10_v22 : v22 10 = (v 10) := hk10_v22.trans hq10_v18
                  have hq13_v22 : v22 13 = (v 13) := hk13_v22.trans hq13_v18
                  have hq14_v22 : v22 14 = (v 14) := hk14_v22.trans hq14_v18
                  have hq15_v22 : v22 15 = (v 15) := hk15_v22.trans hq15_v18
                  have hq17_v22 : v22 17 = (v 17) := hk17_v22.trans hq17_v18
                  have hq18_v22 : v22 18 = (v 18) := hk18_v22.trans hq18_v18
                  have hq24_v22 : v22 24 = (v 24) := hk24_v22.trans hq24_v18
                  have hq25_v22 : v22 25 = (v 25) := hk25_v22.trans hq25_v18
                  have hq35_v22 : v22 35 = (v 35) := hk35_v22.trans hq35_v18
                  have hq36_v22 : v22 36 = (v 36) := hk36_v22.trans hq36_v18
                  have hq38_v22 : v22 38 = (v 38) := hk38_v22.trans hq38_v18
                  have hq39_v22 : v22 39 = (v 39) := hk39_v22.trans hq39_v18
                  refine cbSi (n := 1) (rest := []) hx hb hml hown hts hE hP hD hS hA (sY_X11_members_1 l dC dI cy y0 r r21 v22 f23 w24 g25 hIv22 hCf23 hRf23 ) k_1900 k_1901 k_114 k_1902 (by decide +kernel) ⟨Nat.le_of_ble_eq_true rfl, Nat.le_of_ble_eq_true rfl⟩ (rfl) hl.1 rfl (Nat.le_of_ble_eq_true rfl) dX11_rota_88 (fun r26 u H locs hw hP hD hS => ?_)
                  refine lv_istore (lv' := [(5, .int r26), (4, .int l4_7), (3, .int l3_7), (2, .int l2_7), (0, .ref y0), (1, .int p1)]) hx hb dX11_rota_91 hl (Nat.le_of_ble_eq_true rfl) rfl (fun ls hl => ?_)
                  refine lv_iload hx hb dX11_rota_93 (lv_at hl 0 rfl) ?_
                  refine lv_iload_n hx hb dX11_rota_95 rfl (lv_at hl 2 rfl) ?_
                  refine lv_icmp_gt (tgt := 102) hx hb dX11_rota_96 rfl (fun c27 => ?_) (fun c27 => ?_)
                  · skip
                    have zc27 : l3_7.toInt < r26.toInt := by rw [fa_lt] at c27; exact c27
                    have rg28 := fb_rng r26
                    have rg29 := fb_rng l3_7
                    refine lv_iload hx hb dX11_rota_102 (lv_at hl 1 rfl) ?_
                    refine lv_istore_n (lv' := [(2, .int l4_7), (5, .int r26), (4, .int l4_7), (3, .int l3_7), (0, .ref y0), (1, .int p1)]) hx hb dX11_rota_104 rfl hl (Nat.le_of_ble_eq_true rfl) rfl (fun ls hl => ?_)
                    refine lv_iload hx hb dX11_rota_105 (lv_at hl 1 rfl) ?_
                    refine lv_istore_n (lv' := [(3, .int r26), (2, .int l4_7), (5, .int r26), (4, .int l4_7), (0, .ref y0), (1, .int p1)]) hx hb dX11_rota_107 rfl hl (Nat.le_of_ble_eq_true rfl) rfl (fun ls hl => ?_)
                    obtain ⟨t30, et30⟩ : ∃ y : Int32, y = l4_7 + 1 := ⟨_, rfl⟩
                    have zt30 : t30.toInt = l4_7.toInt + 1 := by rw [et30]; exact add_i rfl (by decide) (by omega) (by omega)
                    refine lv_iinc (v := t30) (lv' := [(4, .int t30), (3, .int r26), (2, .int l4_7), (5, .int r26), (0, .ref y0), (1, .int p1)]) hx hb dX11_rota_108 hl (k := 3) rfl (by rw [et30]; rfl) (by decide) rfl (fun ls hl => ?_)
                    refine lv_goto (tgt := 25) hx hb dX11_rota_111 rfl ?_
                    have rg31 := fb_rng t30
                    exact ih7 l4_7 r26 t30 v22 f23 w24 g25 hIv22 hCf23 hRf23 hq0_v22 hq1_v22 hq2_v22 hq3_v22 hq4_v22 hq5_v22 hq8_v22 hq9_v22 hq10_v22 hq13_v22 hq14_v22 hq15_v22 hq17_v22 hq18_v22 hq24_v22 hq25_v22 hq35_v22 hq36_v22 hq38_v22 hq39_v22 ⟨show (0 : Int) ≤ t30.toInt by omega, show t30.toInt ≤ (2147483647 : Int) by omega⟩ hM_v22 hA_f23 (by show (2147483647 - t30.toInt).toNat < n7; omega) _ _ _ hP hD hS (lv_sub hl [0, 1, 2, 4, 5] rfl)
                  · skip
                    have zc27 : ¬ (l3_7.toInt < r26.toInt) := by rw [fa_lt] at c27; exact c27
                    have rg32 := fb_rng r26
                    have rg33 := fb_rng l3_7
                    refine lv_goto (tgt := 108) hx hb dX11_rota_99 rfl ?_
                    obtain ⟨t34, et34⟩ : ∃ y : Int32, y = l4_7 + 1 := ⟨_, rfl⟩
                    have zt34 : t34.toInt = l4_7.toInt + 1 := by rw [et34]; exact add_i rfl (by decide) (by omega) (by omega)
                    refine lv_iinc (v := t34) (lv' := [(4, .int t34), (5, .int r26), (3, .int l3_7), (2, .int l2_7), (0, .ref y0), (1, .int p1)]) hx hb dX11_rota_108 hl (k := 1) rfl (by rw [et34]; rfl) (by decide) rfl (fun ls hl => ?_)
                    refine lv_goto (tgt := 25) hx hb dX11_rota_111 rfl ?_
                    have rg35 := fb_rng t34
                    exact ih7 l2_7 l3_7 t34 v22 f23 w24 g25 hIv22 hCf23 hRf23 hq0_v22 hq1_v22 hq2_v22 hq3_v22 hq4_v22 hq5_v22 hq8_v22 hq9_v22 hq10_v22 hq13_v22 hq14_v22 hq15_v22 hq17_v22 hq18_v22 hq24_v22 hq25_v22 hq35_v22 hq36_v22 hq38_v22 hq39_v22 ⟨show (0 : Int) ≤ t34.toInt by omega, show t34.toInt ≤ (2147483647 : Int) by omega⟩ hM_v22 hA_f23 (by show (2147483647 - t34.toInt).toNat < n7; omega) _ _ _ hP hD hS (lv_sub hl [0, 2, 3, 4, 5] rfl)
                · skip
                  have zc19 : ¬ ((v 24).toInt ≤ l5_18.toInt) := by rw [fa_le] at c19; exact c19
                  have rg36 := fb_rng l5_18
                  refine lv_aload_n hx hb dX11_rota_50 rfl (lv_at hl 4 rfl) ?_
                  refine va_get (D := (dC, dI)) (ci := 11) (v := .ref (r 60)) (C := RX11) (T := TX11) (N := 79) hx hb hts inB_11 hown hE.1 hP 0 rfl rfl 60 (Nat.le_of_ble_eq_true rfl) (hts _ k_1380) (fun _ h9 => h9) rfl dX11_rota_51 ?_
                  refine lv_bipush (v := 6) hx hb dX11_rota_54 rfl ?_
                  refine lv_iload hx hb dX11_rota_56 (lv_at hl 0 rfl) ?_
                  refine lv_iadd hx hb dX11_rota_58 ?_
                  refine lv_topi (fun t37 et37 => ?_)
                  have zt37 : t37.toInt = 6 + l5_18.toInt := by rw [et37]; exact add_i (by decide) rfl (by omega) (by omega)
                  refine lv_aload_n hx hb dX11_rota_59 rfl (lv_at hl 4 rfl) ?_
                  refine va_get (D := (dC, dI)) (ci := 11) (v := .ref (r 59)) (C := RX11) (T := TX11) (N := 79) hx hb hts inB_11 hown hE.1 hP 0 rfl rfl 59 (Nat.le_of_ble_eq_true rfl) (hts _ k_1379) (fun _ h9 => h9) rfl dX11_rota_60 ?_
                  refine lv_bipush (v := 6) hx hb dX11_rota_63 rfl ?_
                  refine lv_iload hx hb dX11_rota_65 (lv_at hl 0 rfl) ?_
                  refine lv_iload hx hb dX11_rota_67 (lv_at hl 1 rfl) ?_
                  refine lv_iadd hx hb dX11_rota_69 ?_
                  refine lv_topi (fun t38 et38 => ?_)
                  have zt38 : t38.toInt = l5_18.toInt + l4_7.toInt := by rw [et38]; exact add_i rfl rfl (by omega) (by omega)
                  refine lv_aload_n hx hb dX11_rota_70 rfl (lv_at hl 4 rfl) ?_
                  refine va_get (D := (dC, dI)) (ci := 11) (v := .int (v18 24)) (C := RX11) (T := TX11) (N := 79) hx hb hts inB_11 hown hE.1 hP 0 rfl rfl 48 (Nat.le_of_ble_eq_true rfl) (hts _ k_1368) (fun _ h9 => h9) rfl dX11_rota_71 ?_
                  refine tI (y := (v 24)) hq24_v18 ?_
                  refine lv_irem hx hb dX11_rota_74 (ne0 (by omega)) ?_
                  refine lv_topi (fun t39 et39 => ?_)
                  have zt39 : 0 ≤ t39.toInt ∧ t39.toInt < (v 24).toInt := by rw [et39]; exact rem_rng (zx := t38.toInt) (zy := (v 24).toInt) rfl rfl (by omega) (by omega)
                  refine lv_iadd hx hb dX11_rota_75 ?_
                  refine lv_topi (fun t40 et40 => ?_)
                  have rg41 := fb_rng t39
                  have zt40 : t40.toInt = 6 + t39.toInt := by rw [et40]; exact add_i (by decide) rfl (by omega) (by omega)
                  refine ldI hx hb hE hP 24 rfl (vp_in_iff.mpr ⟨by omega, by omega⟩) rfl rfl dX11_rota_76 ?_
                  refine lv_topi (fun t42 et42 => ?_)
                  have zt42 : t40.toInt.toNat % 39 < 6 ∨ 12 ≤ t40.toInt.toNat % 39 ∨ (-1 ≤ t42.toInt ∧ t42.toInt ≤ 5) := by rw [et42]; exact wear_ld hCf18.1 (show t40.toInt.toNat < 39 by omega)
                  refine stI hx hb hE hP hD hS 25 rfl (vp_in_iff.mpr ⟨by omega, by omega⟩) rfl dX11_rota_77 (fun H locs hP hD hS => ?_)
                  obtain ⟨f43, ef43, hP, hD⟩ : ∃ fz9, fz9 = upd2 f18 24 (upd (f18 24) t37.toNatClampNeg t42) ∧ va_P (dC, dI) vwCl (YW cy y0 r v18 fz9 w18 g18) H ∧ va_D A (YW cy y0 r v18 fz9 w18 g18) := ⟨_, rfl, hP, hD⟩
                  have hCf43 : YC f43 := by rw [ef43]; exact ⟨hCf18.1, (wear_st hCf18.2.1 (by show t37.toInt.toNat % 39 < 6 ∨ 12 ≤ t37.toInt.toNat % 39 ∨ (-1 ≤ t42.toInt ∧ t42.toInt ≤ 5); omega)), hCf18.2.2.1, hCf18.2.2.2.1, hCf18.2.2.2.2.1, hCf18.2.2.2.2.2⟩
                  have hRf43 : progOK (f43 4) (f43 5) (v18 9).toInt.toNat := by rw [ef43]; exact hRf18
                  have hA_f43 : KF [7, 8, 24] f43 f := by rw [ef43]; exact KF.up hA_f18 rfl
                  obtain ⟨t44, et44⟩ : ∃ y : Int32, y = l5_18 + 1 := ⟨_, rfl⟩
                  have zt44 : t44.toInt = l5_18.toInt + 1 := by rw [et44]; exact add_i rfl (by decide) (by omega) (by omega)
                  refine lv_iinc (v := t44) (lv' := [(5, .int t44), (4, .int l4_7), (3, .int l3_7), (2, .int l2_7), (0, .ref y0), (1, .int p1)]) hx hb dX11_rota_78 hl (k := 0) rfl (by rw [et44]; rfl) (by decide) rfl (fun ls hl => ?_)
                  refine lv_goto (tgt := 41) hx hb dX11_rota_81 rfl ?_
                  have rg45 := fb_rng t44
                  exact ih18 t44 v18 f43 w18 g18 hIv18 hCf43 hRf43 hq0_v18 hq1_v18 hq2_v18 hq3_v18 hq4_v18 hq5_v18 hq8_v18 hq9_v18 hq10_v18 hq13_v18 hq14_v18 hq15_v18 hq17_v18 hq18_v18 hq24_v18 hq25_v18 hq35_v18 hq36_v18 hq38_v18 hq39_v18 ⟨show (0 : Int) ≤ t44.toInt by omega, show t44.toInt ≤ (2147483647 : Int) by omega⟩ hM_v18 hA_f43 (by show (2147483647 - t44.toInt).toNat < n18; omega) _ _ _ hP hD hS (lv_sub hl [0, 1, 2, 3, 4, 5] rfl)
            exact lp18 _ 0 v14 f15 w16 g17 hIv14 hCf15 hRf15 hq0_v14 hq1_v14 hq2_v14 hq3_v14 hq4_v14 hq5_v14 hq8_v14 hq9_v14 hq10_v14 hq13_v14 hq14_v14 hq15_v14 hq17_v14 hq18_v14 hq24_v14 hq25_v14 hq35_v14 hq36_v14 hq38_v14 hq39_v14 ⟨by decide, by decide⟩ hM_v14 hA_f15 (Nat.lt_succ_self _) _ _ _ hP hD hS (lv_sub hl [0, 1, 2, 3, 4, 5] rfl)
      exact lp7 _ 0 (-1) 0 v f w g hIv hCf hRf rfl rfl rfl rfl rfl rfl rfl rfl rfl rfl rfl rfl rfl rfl rfl rfl rfl rfl rfl rfl ⟨by decide, by decide⟩ hM_v hA_f (Nat.lt_succ_self _) _ _ _ hP hD hS (lv_sub hl [0, 1, 2, 3, 4] rfl)
    · skip
      have zc6 : (v 24).toInt = 0 := by rw [fa_eq, show (0 : Int32).toInt = 0 from by decide] at c6; exact c6
      refine lv_iconst (v := (-1)) hx hb dX11_rota_16 rfl ?_
      exact ret (-1) (v, f, w, g) _ _ _ _ _ _ rfl ⟨hM_v, hA_f, hIv, hCf, hRf, rfl, rfl, rfl, rfl, rfl, rfl, rfl, rfl, rfl, rfl, rfl, rfl, rfl, rfl, rfl, rfl, rfl, rfl, rfl, rfl⟩ hP hD hS dX11_rota_17 (Nat.le_refl _) (Nat.le_refl _)
  · skip
    subst g5
    refine lv_if_eq (tgt := 16) hx hb dX11_rota_6 rfl (fun _ => ?_) (fun c0 => absurd (by decide) c0)
    refine lv_iconst (v := (-1)) hx hb dX11_rota_16 rfl ?_
    exact ret (-1) (v, f, w, g) _ _ _ _ _ _ rfl ⟨hM_v, hA_f, hIv, hCf, hRf, rfl, rfl, rfl, rfl, rfl, rfl, rfl, rfl, rfl, rfl, rfl, rfl, rfl, rfl, rfl, rfl, rfl, rfl, rfl, rfl⟩ hP hD hS dX11_rota_17 (Nat.le_refl _) (Nat.le_refl _)
set_option maxHeartbeats 4000000 in
set_option maxRecDepth 100000 in
theorem sY_X11_change_1 (l : Launch) (dC : Nat → ClassId) (dI : Nat → Nat → Nat) (cy : Nat → ClassId) (y0 : Nat) (r : Nat → Nat) (p1 : Int32) (v : Nat → Int32) (f : Nat → Nat → Int32) (w : Int64) (g : Nat → Int64) (hIv : YI v) (hCf : YC f) (hRf : progOK (f 4) (f 5) (v 9).toInt.toNat)  : ctI l (dC, dI) cy yX11_change cX11_change 7 .int 8 211 0 0 ((Nat → Int32) × (Nat → Nat → Int32) × (Int64) × (Nat → Int64)) [.ref y0, .int p1] (YW cy y0 r v f w g) (fun r u => KV [] u.1 v ∧ KF [7, 8, 24] u.2.1 f ∧ YI u.1 ∧ YC u.2.1 ∧ progOK (u.2.1 4) (u.2.1 5) (u.1 9).toInt.toNat ∧ u.1 0 = v 0 ∧ u.1 1 = v 1 ∧ u.1 2 = v 2 ∧ u.1 3 = v 3 ∧ u.1 4 = v 4 ∧ u.1 5 = v 5 ∧ u.1 8 = v 8 ∧ u.1 9 = v 9 ∧ u.1 10 = v 10 ∧ u.1 13 = v 13 ∧ u.1 14 = v 14 ∧ u.1 15 = v 15 ∧ u.1 17 = v 17 ∧ u.1 18 = v 18 ∧ u.1 24 = v 24 ∧ u.1 25 = v 25 ∧ u.1 35 = v 35 ∧ u.1 36 = v 36 ∧ u.1 38 = v 38 ∧ u.1 39 = v 39) (fun u => YW cy y0 r u.1 u.2.1 u.2.2.1 u.2.2.2) := by
  refine ctI_of (by decide) (Nat.le_of_ble_eq_true rfl) (fun p e s m below meth c A ls Q hx hb hml hts hown hE hP hD hA hl ret => ?_)
  have hUv : (v 35).toInt + (v 36).toInt ≤ 40 := hIv.2
  have hM_v : KV [] v v := fun _ _ => rfl
  have hA_f : KF [7, 8, 24] f f := fun _ _ => rfl
  have hown : s.vm.findClass RX11 = some m.cls := hown
  have hS : va_S A s.heap s.heap [] := va_S.rf
  have hl : lv_has ls 7 [(0, .ref y0), (1, .int p1)] := hl
  refine lv_iload_n hx hb dX11_change_0 rfl (lv_at hl 1 rfl) ?_
  refine lv_iconst (v := 0) hx hb dX11_change_1 rfl ?_
  refine lv_iconst (v := 2) hx hb dX11_change_2 rfl ?_
  have lt1 : (0 : Int32).toInt = 0 := by decide
  have lt2 : (2 : Int32).toInt = 2 := by decide
  refine cbSi (n := 3) (rest := []) hx hb hml hown hts hE hP hD hS hA (sY_X11_isIn_1 0 l dC dI cy y0 r p1 0 2 v f w g hIv hCf hRf ) k_1736 k_1737 k_114 k_1738 (by decide +kernel) ⟨Nat.le_of_ble_eq_true rfl, Nat.le_of_ble_eq_true rfl⟩ (rfl) hl.1 rfl (Nat.le_of_ble_eq_true rfl) dX11_change_3 (fun r3 u H locs hw hP hD hS => ?_)
  obtain ⟨hG4, hw⟩ := hw
  rcases hw with ⟨g5, g5_0, g5_1⟩ | ⟨g5⟩
  · skip
    subst g5
    refine lv_if_ne (tgt := 11) hx hb dX11_change_6 rfl (fun _ => ?_) (fun c0 => absurd c0 (by decide))
    refine lv_aload_n hx hb dX11_change_11 rfl (lv_at hl 0 rfl) ?_
    refine cbVi (n := 0) (rest := []) hx hb hml hown hts hE hP hD hS hA (sY_X11_fitted_1 l dC dI cy y0 r  v f w g hIv hCf hRf ) k_1907 k_1866 k_1867 k_114 k_1868 (by decide +kernel) ⟨Nat.le_of_ble_eq_true rfl, Nat.le_of_ble_eq_true rfl⟩ 0 11 rfl rfl (rfl) hl.1 rfl (Nat.le_of_ble_eq_true rfl) dX11_change_12 (fun r6 u H locs hw hP hD hS => ?_)
    obtain ⟨v7, f8, w9, g10⟩ := u
    obtain ⟨kV_v7, kF_f8, hIv7, hCf8, hRf8, hk0_v7, hk1_v7, hk2_v7, hk3_v7, hk4_v7, hk5_v7, hk8_v7, hk9_v7, hk10_v7, hk13_v7, hk14_v7, hk15_v7, hk17_v7, hk18_v7, hk24_v7, hk25_v7, hk35_v7, hk36_v7, hk38_v7, hk39_v7⟩ := hw
    have hM_v7 : KV [] v7 v := KV.tr kV_v7 hM_v rfl
    have hA_f8 : KF [7, 8, 24] f8 f := KF.tr kF_f8 hA_f rfl
    have hP : va_P (dC, dI) vwCl (YW cy y0 r v7 f8 w9 g10) H := hP
    have hD : va_D A (YW cy y0 r v7 f8 w9 g10) := hD
    have hUv7 : (v7 35).toInt + (v7 36).toInt ≤ 40 := hIv7.2
    have hq0_v7 : v7 0 = (v 0) := hk0_v7
    have hq1_v7 : v7 1 = (v 1) := hk1_v7
    have hq2_v7 : v7 2 = (v 2) := hk2_v7
    have hq3_v7 : v7 3 = (v 3) := hk3_v7
    have hq4_v7 : v7 4 = (v 4) := hk4_v7
    have hq5_v7 : v7 5 = (v 5) := hk5_v7
    have hq8_v7 : v7 8 = (v 8) := hk8_v7
    have hq9_v7 : v7 9 = (v 9) := hk9_v7
    have zq9_v7 := congrArg Int32.toInt hq9_v7
    have hq10_v7 : v7 10 = (v 10) := hk10_v7
    have hq13_v7 : v7 13 = (v 13) := hk13_v7
    have hq14_v7 : v7 14 = (v 14) := hk14_v7
    have hq15_v7 : v7 15 = (v 15) := hk15_v7
    have hq17_v7 : v7 17 = (v 17) := hk17_v7
    have hq18_v7 : v7 18 = (v 18) := hk18_v7
    have hq24_v7 : v7 24 = (v 24) := hk24_v7
    have hq25_v7 : v7 25 = (v 25) := hk25_v7
    have hq35_v7 : v7 35 = (v 35) := hk35_v7
    have hq36_v7 : v7 36 = (v 36) := hk36_v7
    have hq38_v7 : v7 38 = (v 38) := hk38_v7
    have hq39_v7 : v7 39 = (v 39) := hk39_v7
    refine cbSi (n := 1) (rest := []) hx hb hml hown hts hE hP hD hS hA (sY_X11_members_1 l dC dI cy y0 r r6 v7 f8 w9 g10 hIv7 hCf8 hRf8 ) k_1900 k_1901 k_114 k_1902 (by decide +kernel) ⟨Nat.le_of_ble_eq_true rfl, Nat.le_of_ble_eq_true rfl⟩ (rfl) hl.1 rfl (Nat.le_of_ble_eq_true rfl) dX11_change_15 (fun r11 u H locs hw hP hD hS => ?_)
    refine lv_istore_n (lv' := [(2, .int r11), (0, .ref y0), (1, .int p1)]) hx hb dX11_change_18 rfl hl (Nat.le_of_ble_eq_true rfl) rfl (fun ls hl => ?_)
    refine lv_iconst (v := (-1)) hx hb dX11_change_19 rfl ?_
    refine lv_istore_n (lv' := [(3, .int (-1)), (2, .int r11), (0, .ref y0), (1, .int p1)]) hx hb dX11_change_20 rfl hl (Nat.le_of_ble_eq_true rfl) rfl (fun ls hl => ?_)
    refine lv_iconst (v := 0) hx hb dX11_change_21 rfl ?_
    refine lv_istore (lv' := [(4, .int 0), (3, .int (-1)), (2, .int r11), (0, .ref y0), (1, .int p1)]) hx hb dX11_change_22 hl (Nat.le_of_ble_eq_true rfl) rfl (fun ls hl => ?_)
    have lp12 : ∀ (n12 : Nat) (l2_12 : Int32) (l3_12 : Int32) (l4_12 : Int32) (v12 : Nat → Int32) (f12 : Nat → Nat → Int32) (w12 : Int64) (g12 : Nat → Int64), YI v12 → YC f12 → progOK (f12 4) (f12 5) (v12 9).toInt.toNat → v12 0 = (v 0) → v12 1 = (v 1) → v12 2 = (v 2) → v12 3 = (v 3) → v12 4 = (v 4) → v12 5 = (v 5) → v12 8 = (v 8) → v12 9 = (v 9) → v12 10 = (v 10) → v12 13 = (v 13) → v12 14 = (v 14) → v12 15 = (v 15) → v12 17 = (v 17) → v12 18 = (v 18) → v12 24 = (v 24) → v12 25 = (v 25) → v12 35 = (v 35) → v12 36 = (v 36) → v12 38 = (v 38) → v12 39 = (v 39) → ((0 : Int) ≤ l4_12.toInt ∧ l4_12.toInt ≤ 2147483647) → KV [] v12 v → KF [7, 8, 24] f12 f → (2147483647 - l4_12.toInt).toNat < n12 → ∀ (H : Heap) (locs : List Loc) (ls : Array Slot), va_P (dC, dI) vwCl (YW cy y0 r v12 f12 w12 g12) H → va_D A (YW cy y0 r v12 f12 w12 g12) → va_S A s.heap H locs → lv_has ls 7 [(4, .int l4_12), (3, .int l3_12), (2, .int l2_12), (0, .ref y0), (1, .int p1)] → W p l e { frames := 8, cells := 0, slots := 0, locals := 211 } s m ([.ref y0, .int p1] : List Value).toArray below meth c H locs 0 0 Q (F0 m 24 ls []) := by
      intro n12
      induction n12 with
      | zero => intro l2_12 l3_12 l4_12 v12 f12 w12 g12 hIv12 hCf12 hRf12 hq0_v12 hq1_v12 hq2_v12 hq3_v12 hq4_v12 hq5_v12 hq8_v12 hq9_v12 hq10_v12 hq13_v12 hq14_v12 hq15_v12 hq17_v12 hq18_v12 hq24_v12 hq25_v12 hq35_v12 hq36_v12 hq38_v12 hq39_v12 hr4_12 hM_v12 hA_f12 hm; exact absurd hm (Nat.not_lt_zero _)
      | succ n12 ih12 =>
        intro l2_12 l3_12 l4_12 v12 f12 w12 g12 hIv12 hCf12 hRf12 hq0_v12 hq1_v12 hq2_v12 hq3_v12 hq4_v12 hq5_v12 hq8_v12 hq9_v12 hq10_v12 hq13_v12 hq14_v12 hq15_v12 hq17_v12 hq18_v12 hq24_v12 hq25_v12 hq35_v12 hq36_v12 hq38_v12 hq39_v12 hr4_12 hM_v12 hA_f12 hm12 H locs ls hP hD hS hl
        have hUv12 : (v12 35).toInt + (v12 36).toInt ≤ 40 := hIv12.2
        have zq9_v12 := congrArg Int32.toInt hq9_v12
        refine lv_iload hx hb dX11_change_24 (lv_at hl 0 rfl) ?_
        refine lv_aload_n hx hb dX11_change_26 rfl (lv_at hl 3 rfl) ?_
        refine va_get (D := (dC, dI)) (ci := 11) (v := .int (v12 24)) (C := RX11) (T := TX11) (N := 79) hx hb hts inB_11 hown hE.1 hP 0 rfl rfl 48 (Nat.le_of_ble_eq_true rfl) (hts _ k_1368) (fun _ h9 => h9) rfl dX11_change_27 ?_
        refine tI (y := (v 24)) hq24_v12 ?_
        have b24_v : 0 ≤ (v 24).toInt ∧ (v 24).toInt ≤ 6 := YIb.b hIv.1 24 (by decide)
        refine lv_icmp_ge (tgt := 134) hx hb dX11_change_30 rfl (fun c13 => ?_) (fun c13 => ?_)
        · skip
          have zc13 : (v 24).toInt ≤ l4_12.toInt := by rw [fa_le] at c13; exact c13
          have rg14 := fb_rng l4_12
          have rg15 := fb_rng (v 24)
          refine lv_iload_n hx hb dX11_change_134 rfl (lv_at hl 1 rfl) ?_
          refine lv_if_ge (tgt := 142) hx hb dX11_change_135 rfl (fun c16 => ?_) (fun c16 => ?_)
          · skip
            have zc16 : 0 ≤ l3_12.toInt := by rw [fa_le, show (0 : Int32).toInt = 0 from by decide] at c16; exact c16
            refine lv_iload_n hx hb dX11_change_142 rfl (lv_at hl 4 rfl) ?_
            refine lv_if_ne (tgt := 153) hx hb dX11_change_143 rfl (fun c17 => ?_) (fun c17 => ?_)
            · skip
              have zc17 : ¬ (p1.toInt = 0) := by rw [fa_eq, show (0 : Int32).toInt = 0 from by decide] at c17; exact c17
              refine lv_iload_n hx hb dX11_change_153 rfl (lv_at hl 4 rfl) ?_
              refine lv_iconst (v := 1) hx hb dX11_change_154 rfl ?_
              refine lv_icmp_ne (tgt := 165) hx hb dX11_change_155 rfl (fun c18 => ?_) (fun c18 => ?_)
              · skip
                have zc18 : ¬ (p1.toInt = 1) := by rw [fa_eq, show (1 : Int32).toInt = 1 from by decide] at c18; exact c18
                refine lv_iload_n hx hb dX11_change_165 rfl (lv_at hl 2 rfl) ?_
                exact ret l2_12 (v12, f12, w12, g12) _ _ _ _ _ _ rfl ⟨hM_v12, hA_f12, hIv12, hCf12, hRf12, hq0_v12, hq1_v12, hq2_v12, hq3_v12, hq4_v12, hq5_v12, hq8_v12, hq9_v12, hq10_v12, hq13_v12, hq14_v12, hq15_v12, hq17_v12, hq18_v12, hq24_v12, hq25_v12, hq35_v12, hq36_v12, hq38_v12, hq39_v12⟩ hP hD hS dX11_change_166 (Nat.le_refl _) (Nat.le_refl _)
              · skip
                have zc18 : p1.toInt = 1 := by rw [fa_eq, show (1 : Int32).toInt = 1 from by decide] at c18; exact c18
                refine lv_iload_n hx hb dX11_change_158 rfl (lv_at hl 1 rfl) ?_
                refine lv_bipush (v := 6) hx hb dX11_change_159 rfl ?_
                refine lv_irem hx hb dX11_change_161 (by decide) ?_
                refine lv_topi (fun t19 et19 => ?_)
                have zt19 : 0 ≤ t19.toInt ∧ t19.toInt < 6 := by rw [et19]; exact rem_rng (zx := l3_12.toInt) (zy := 6) rfl (by decide) (by omega) (by omega)
                refine lv_goto (tgt := 166) hx hb dX11_change_162 rfl ?_
                exact ret t19 (v12, f12, w12, g12) _ _ _ _ _ _ rfl ⟨hM_v12, hA_f12, hIv12, hCf12, hRf12, hq0_v12, hq1_v12, hq2_v12, hq3_v12, hq4_v12, hq5_v12, hq8_v12, hq9_v12, hq10_v12, hq13_v12, hq14_v12, hq15_v12, hq17_v12, hq18_v12, hq24_v12, hq25_v12, hq35_v12, hq36_v12, hq38_v12, hq39_v12⟩ hP hD hS dX11_change_166 (Nat.le_refl _) (Nat.le_refl _)
            · skip
              have zc17 : p1.toInt = 0 := by rw [fa_eq, show (0 : Int32).toInt = 0 from by decide] at c17; exact c17
              refine lv_iload_n hx hb dX11_change_146 rfl (lv_at hl 1 rfl) ?_
              refine lv_bipush (v := 6) hx hb dX11_change_147 rfl ?_
              refine lv_idiv hx hb dX11_change_149 (by decide) ?_
              refine lv_topi (fun t20 et20 => ?_)
              have zt20 : 0 ≤ t20.toInt ∧ t20.toInt ≤ l3_12.toInt := by rw [et20]; exact div_rng (zx := l3_12.toInt) (zy := 6) rfl (by decide) (by omega) (by omega)
              refine lv_goto (tgt := 166) hx hb dX11_change_150 rfl ?_
              exact ret t20 (v12, f12, w12, g12) _ _ _ _ _ _ rfl ⟨hM_v12, hA_f12, hIv12, hCf12, hRf12, hq0_v12, hq1_v12, hq2_v12, hq3_v12, hq4_v12, hq5_v12, hq8_v12, hq9_v12, hq10_v12, hq13_v12, hq14_v12, hq15_v12, hq17_v12, hq18_v12, hq24_v12, hq25_v12, hq35_v12, hq36_v12, hq38_v12, hq39_v12⟩ hP hD hS dX11_change_166 (Nat.le_refl _) (Nat.le_refl _)
          · skip
            have zc16 : ¬ (0 ≤ l3_12.toInt) := by rw [fa_le, show (0 : Int32).toInt = 0 from by decide] at c16; exact c16
            refine lv_iconst (v := (-1)) hx hb dX11_change_138 rfl ?_
            refine lv_goto (tgt := 166) hx hb dX11_change_139 rfl ?_
            exact ret (-1) (v12, f12, w12, g12) _ _ _ _ _ _ rfl ⟨hM_v12, hA_f12, hIv12, hCf12, hRf12, hq0_v12, hq1_v12, hq2_v12, hq3_v12, hq4_v12, hq5_v12, hq8_v12, hq9_v12, hq10_v12, hq13_v12, hq14_v12, hq15_v12, hq17_v12, hq18_v12, hq24_v12, hq25_v12, hq35_v12, hq36_v12, hq38_v12, hq39_v12⟩ hP hD hS dX11_change_166 (Nat.le_refl _) (Nat.le_refl _)
        · skip
          have zc13 : ¬ ((v 24).toInt ≤ l4_12.toInt) := by rw [fa_le] at c13; exact c13
          have rg21 := fb_rng l4_12
          have rg22 := fb_rng (v 24)
          refine lv_iload hx hb dX11_change_33 (lv_at hl 0 rfl) ?_
          refine lv_iconst (v := 1) hx hb dX11_change_35 rfl ?_
          refine lv_iadd hx hb dX11_change_36 ?_
          refine lv_topi (fun t23 et23 => ?_)
          have zt23 : t23.toInt = l4_12.toInt + 1 := by rw [et23]; exact add_i rfl (by decide) (by omega) (by omega)
          refine lv_istore (lv' := [(5, .int t23), (4, .int l4_12), (3, .int l3_12), (2, .int l2_12), (0, .ref y0), (1, .int p1)]) hx hb dX11_change_37 hl (Nat.le_of_ble_eq_true rfl) rfl (fun ls hl => ?_)
          have lp24 : ∀ (n24 : Nat) (l2_24 : Int32) (l3_24 : Int32) (l5_24 : Int32) (v24 : Nat → Int32) (f24 : Nat → Nat → Int32) (w24 : Int64) (g24 : Nat → Int64), YI v24 → YC f24 → progOK (f24 4) (f24 5) (v24 9).toInt.toNat → v24 0 = (v 0) → v24 1 = (v 1) → v24 2 = (v 2) → v24 3 = (v 3) → v24 4 = (v 4) → v24 5 = (v 5) → v24 8 = (v 8) → v24 9 = (v 9) → v24 10 = (v 10) → v24 13 = (v 13) → v24 14 = (v 14) → v24 15 = (v 15) → v24 17 = (v 17) → v24 18 = (v 18) → v24 24 = (v 24) → v24 25 = (v 25) → v24 35 = (v 35) → v24 36 = (v 36) → v24 38 = (v 38) → v24 39 = (v 39) → ((1 : Int) ≤ l5_24.toInt ∧ l5_24.toInt ≤ 2147483647) → KV [] v24 v → KF [7, 8, 24] f24 f → (2147483647 - l5_24.toInt).toNat < n24 → ∀ (H : Heap) (locs : List Loc) (ls : Array Slot), va_P (dC, dI) vwCl (YW cy y0 r v24 f24 w24 g24) H → va_D A (YW cy y0 r v24 f24 w24 g24) → va_S A s.heap H locs → lv_has ls 7 [(5, .int l5_24), (4, .int l4_12), (3, .int l3_24), (2, .int l2_24), (0, .ref y0), (1, .int p1)] → W p l e { frames := 8, cells := 0, slots := 0, locals := 211 } s m ([.ref y0, .int p1] : List Value).toArray below meth c H locs 0 0 Q (F0 m 39 ls []) := by
            intro n24
            induction n24 with
            | zero => intro l2_24 l3_24 l5_24 v24 f24 w24 g24 hIv24 hCf24 hRf24 hq0_v24 hq1_v24 hq2_v24 hq3_v24 hq4_v24 hq5_v24 hq8_v24 hq9_v24 hq10_v24 hq13_v24 hq14_v24 hq15_v24 hq17_v24 hq18_v24 hq24_v24 hq25_v24 hq35_v24 hq36_v24 hq38_v24 hq39_v24 hr5_24 hM_v24 hA_f24 hm; exact absurd hm (Nat.not_lt_zero _)
            | succ n24 ih24 =>
              intro l2_24 l3_24 l5_24 v24 f24 w24 g24 hIv24 hCf24 hRf24 hq0_v24 hq1_v24 hq2_v24 hq3_v24 hq4_v24 hq5_v24 hq8_v24 hq9_v24 hq10_v24 hq13_v24 hq14_v24 hq15_v24 hq17_v24 hq18_v24 hq24_v24 hq25_v24 hq35_v24 hq36_v24 hq38_v24 hq39_v24 hr5_24 hM_v24 hA_f24 hm24 H locs ls hP hD hS hl
              have hUv24 : (v24 35).toInt + (v24 36).toInt ≤ 40 := hIv24.2
              have zq9_v24 := congrArg Int32.toInt hq9_v24
              refine lv_iload hx hb dX11_change_39 (lv_at hl 0 rfl) ?_
              refine lv_aload_n hx hb dX11_change_41 rfl (lv_at hl 4 rfl) ?_
              refine va_get (D := (dC, dI)) (ci := 11) (v := .int (v24 24)) (C := RX11) (T := TX11) (N := 79) hx hb hts inB_11 hown hE.1 hP 0 rfl rfl 48 (Nat.le_of_ble_eq_true rfl) (hts _ k_1368) (fun _ h9 => h9) rfl dX11_change_42 ?_
              refine tI (y := (v 24)) hq24_v24 ?_
              have b24_v : 0 ≤ (v 24).toInt ∧ (v 24).toInt ≤ 6 := YIb.b hIv.1 24 (by decide)
              refine lv_icmp_ge (tgt := 128) hx hb dX11_change_45 rfl (fun c25 => ?_) (fun c25 => ?_)
              · skip
                have zc25 : (v 24).toInt ≤ l5_24.toInt := by rw [fa_le] at c25; exact c25
                have rg26 := fb_rng l5_24
                obtain ⟨t27, et27⟩ : ∃ y : Int32, y = l4_12 + 1 := ⟨_, rfl⟩
                have zt27 : t27.toInt = l4_12.toInt + 1 := by rw [et27]; exact add_i rfl (by decide) (by omega) (by omega)
                refine lv_iinc (v := t27) (lv' := [(4, .int t27), (5, .int l5_24), (3, .int l3_24), (2, .int l2_24), (0, .ref y0), (1, .int p1)]) hx hb dX11_change_128 hl (k := 1) rfl (by rw [et27]; rfl) (by decide) rfl (fun ls hl => ?_)
                refine lv_goto (tgt := 24) hx hb dX11_change_131 rfl ?_
                have rg28 := fb_rng t27
                exact ih12 l2_24 l3_24 t27 v24 f24 w24 g24 hIv24 hCf24 hRf24 hq0_v24 hq1_v24 hq2_v24 hq3_v24 hq4_v24 hq5_v24 hq8_v24 hq9_v24 hq10_v24 hq13_v24 hq14_v24 hq15_v24 hq17_v24 hq18_v24 hq24_v24 hq25_v24 hq35_v24 hq36_v24 hq38_v24 hq39_v24 ⟨show (0 : Int) ≤ t27.toInt by omega, show t27.toInt ≤ (2147483647 : Int) by omega⟩ hM_v24 hA_f24 (by show (2147483647 - t27.toInt).toNat < n12; omega) _ _ _ hP hD hS (lv_sub hl [0, 2, 3, 4, 5] rfl)
              · skip
                have zc25 : ¬ ((v 24).toInt ≤ l5_24.toInt) := by rw [fa_le] at c25; exact c25
                have rg29 := fb_rng l5_24
                refine lv_aload_n hx hb dX11_change_48 rfl (lv_at hl 4 rfl) ?_
                refine cbVv (n := 0) (rest := []) hx hb hml hown hts hE hP hD hS hA (sY_X11_fill_1 l dC dI cy y0 r  v24 f24 w24 g24 hIv24 hCf24 hRf24 ) k_1739 k_1741 k_71 k_114 k_1742 (by decide +kernel) ⟨Nat.le_of_ble_eq_true rfl, Nat.le_of_ble_eq_true rfl⟩ 0 11 rfl rfl (rfl) hl.1 rfl (Nat.le_of_ble_eq_true rfl) dX11_change_49 (fun u H locs hw hP hD hS => ?_)
                obtain ⟨v30, f31, w32, g33⟩ := u
                obtain ⟨kV_v30, kF_f31, hIv30, hCf31, hRf31, hk0_v30, hk1_v30, hk2_v30, hk3_v30, hk4_v30, hk5_v30, hk8_v30, hk9_v30, hk10_v30, hk13_v30, hk14_v30, hk15_v30, hk17_v30, hk18_v30, hk24_v30, hk25_v30, hk35_v30, hk36_v30, hk38_v30, hk39_v30⟩ := hw
                have hM_v30 : KV [] v30 v := KV.tr kV_v30 hM_v24 rfl
                have hA_f31 : KF [7, 8, 24] f31 f := KF.tr kF_f31 hA_f24 rfl
                have hP : va_P (dC, dI) vwCl (YW cy y0 r v30 f31 w32 g33) H := hP
                have hD : va_D A (YW cy y0 r v30 f31 w32 g33) := hD
                have hUv30 : (v30 35).toInt + (v30 36).toInt ≤ 40 := hIv30.2
                have hq0_v30 : v30 0 = (v 0) := hk0_v30.trans hq0_v24
                have hq1_v30 : v30 1 = (v 1) := hk1_v30.trans hq1_v24
                have hq2_v30 : v30 2 = (v 2) := hk2_v30.trans hq2_v24
                have hq3_v30 : v30 3 = (v 3) := hk3_v30.trans hq3_v24
                have hq4_v30 : v30 4 = (v 4) := hk4_v30.trans hq4_v24
                have hq5_v30 : v30 5 = (v 5) := hk5_v30.trans hq5_v24
                have hq8_v30 : v30 8 = (v 8) := hk8_v30.trans hq8_v24
                have hq9_v30 : v30 9 = (v 9) := hk9_v30.trans hq9_v24
                have zq9_v30 := congrArg Int32.toInt hq9_v30
                have hq10_v30 : v30 10 = (v 10) := hk10_v30.trans hq10_v24
                have hq13_v30 : v30 13 = (v 13) := hk13_v30.trans hq13_v24
                have hq14_v30 : v30 14 = (v 14) := hk14_v30.trans hq14_v24
                have hq15_v30 : v30 15 = (v 15) := hk15_v30.trans hq15_v24
                have hq17_v30 : v30 17 = (v 17) := hk17_v30.trans hq17_v24
                have hq18_v30 : v30 18 = (v 18) := hk18_v30.trans hq18_v24
                have hq24_v30 : v30 24 = (v 24) := hk24_v30.trans hq24_v24
                have hq25_v30 : v30 25 = (v 25) := hk25_v30.trans hq25_v24
                have hq35_v30 : v30 35 = (v 35) := hk35_v30.trans hq35_v24
                have hq36_v30 : v30 36 = (v 36) := hk36_v30.trans hq36_v24
                have hq38_v30 : v30 38 = (v 38) := hk38_v30.trans hq38_v24
                have hq39_v30 : v30 39 = (v 39) := hk39_v30.trans hq39_v24
                refine lv_aload_n hx hb dX11_change_52 rfl (lv_at hl 4 rfl) ?_
                refine va_get (D := (dC, dI)) (ci := 11) (v := .ref (r 60)) (C := RX11) (T := TX11) (N := 79) hx hb hts inB_11 hown hE.1 hP 0 rfl rfl 60 (Nat.le_of_ble_eq_true rfl) (hts _ k_1380) (fun _ h9 => h9) rfl dX11_change_53 ?_
                refine lv_bipush (v := 6) hx hb dX11_change_56 rfl ?_
                refine lv_iload hx hb dX11_change_58 (lv_at hl 1 rfl) ?_
                refine lv_iadd hx hb dX11_change_60 ?_
                refine lv_topi (fun t34 et34 => ?_)
                have zt34 : t34.toInt = 6 + l4_12.toInt := by rw [et34]; exact add_i (by decide) rfl (by omega) (by omega)
                refine lv_aload_n hx hb dX11_change_61 rfl (lv_at hl 4 rfl) ?_
                refine va_get (D := (dC, dI)) (ci := 11) (v := .ref (r 59)) (C := RX11) (T := TX11) (N := 79) hx hb hts inB_11 hown hE.1 hP 0 rfl rfl 59 (Nat.le_of_ble_eq_true rfl) (hts _ k_1379) (fun _ h9 => h9) rfl dX11_change_62 ?_
                refine lv_bipush (v := 6) hx hb dX11_change_65 rfl ?_
                refine lv_iload hx hb dX11_change_67 (lv_at hl 0 rfl) ?_
                refine lv_iadd hx hb dX11_change_69 ?_
                refine lv_topi (fun t35 et35 => ?_)
                have zt35 : t35.toInt = 6 + l5_24.toInt := by rw [et35]; exact add_i (by decide) rfl (by omega) (by omega)
                refine ldI hx hb hE hP 24 rfl (vp_in_iff.mpr ⟨by omega, by omega⟩) rfl rfl dX11_change_70 ?_
                refine lv_topi (fun t36 et36 => ?_)
                have zt36 : t35.toInt.toNat % 39 < 6 ∨ 12 ≤ t35.toInt.toNat % 39 ∨ (-1 ≤ t36.toInt ∧ t36.toInt ≤ 5) := by rw [et36]; exact wear_ld hCf31.1 (show t35.toInt.toNat < 39 by omega)
                refine stI hx hb hE hP hD hS 25 rfl (vp_in_iff.mpr ⟨by omega, by omega⟩) rfl dX11_change_71 (fun H locs hP hD hS => ?_)
                obtain ⟨f37, ef37, hP, hD⟩ : ∃ fz9, fz9 = upd2 f31 24 (upd (f31 24) t34.toNatClampNeg t36) ∧ va_P (dC, dI) vwCl (YW cy y0 r v30 fz9 w32 g33) H ∧ va_D A (YW cy y0 r v30 fz9 w32 g33) := ⟨_, rfl, hP, hD⟩
                have hCf37 : YC f37 := by rw [ef37]; exact ⟨hCf31.1, (wear_st hCf31.2.1 (by show t34.toInt.toNat % 39 < 6 ∨ 12 ≤ t34.toInt.toNat % 39 ∨ (-1 ≤ t36.toInt ∧ t36.toInt ≤ 5); omega)), hCf31.2.2.1, hCf31.2.2.2.1, hCf31.2.2.2.2.1, hCf31.2.2.2.2.2⟩
                have hRf37 : progOK (f37 4) (f37 5) (v30 9).toInt.toNat := by rw [ef37]; exact hRf31
                have hA_f37 : KF [7, 8, 24] f37 f := by rw [ef37]; exact KF.up hA_f31 rfl
                refine lv_aload_n hx hb dX11_change_72 rfl (lv_at hl 4 rfl) ?_
                refine va_get (D := (dC, dI)) (ci := 11) (v := .ref (r 60)) (C := RX11) (T := TX11) (N := 79) hx hb hts inB_11 hown hE.1 hP 0 rfl rfl 60 (Nat.le_of_ble_eq_true rfl) (hts _ k_1380) (fun _ h9 => h9) rfl dX11_change_73 ?_
                refine lv_bipush (v := 6) hx hb dX11_change_76 rfl ?_
                refine lv_iload hx hb dX11_change_78 (lv_at hl 0 rfl) ?_
                refine lv_iadd hx hb dX11_change_80 ?_
                refine tI (y := t35) et35.symm ?_
                refine lv_aload_n hx hb dX11_change_81 rfl (lv_at hl 4 rfl) ?_
                refine va_get (D := (dC, dI)) (ci := 11) (v := .ref (r 59)) (C := RX11) (T := TX11) (N := 79) hx hb hts inB_11 hown hE.1 hP 0 rfl rfl 59 (Nat.le_of_ble_eq_true rfl) (hts _ k_1379) (fun _ h9 => h9) rfl dX11_change_82 ?_
                refine lv_bipush (v := 6) hx hb dX11_change_85 rfl ?_
                refine lv_iload hx hb dX11_change_87 (lv_at hl 1 rfl) ?_
                refine lv_iadd hx hb dX11_change_89 ?_
                refine tI (y := t34) et34.symm ?_
                refine ldI hx hb hE hP 24 rfl (vp_in_iff.mpr ⟨by omega, by omega⟩) rfl rfl dX11_change_90 ?_
                refine lv_topi (fun t38 et38 => ?_)
                have zt38 : t34.toInt.toNat % 39 < 6 ∨ 12 ≤ t34.toInt.toNat % 39 ∨ (-1 ≤ t38.toInt ∧ t38.toInt ≤ 5) := by rw [et38]; exact wear_ld hCf37.1 (show t34.toInt.toNat < 39 by omega)
                refine stI hx hb hE hP hD hS 25 rfl (vp_in_iff.mpr ⟨by omega, by omega⟩) rfl dX11_change_91 (fun H locs hP hD hS => ?_)
                obtain ⟨f39, ef39, hP, hD⟩ : ∃ fz9, fz9 = upd2 f37 24 (upd (f37 24) t35.toNatClampNeg t38) ∧ va_P (dC, dI) vwCl (YW cy y0 r v30 fz9 w32 g33) H ∧ va_D A (YW cy y0 r v30 fz9 w32 g33) := ⟨_, rfl, hP, hD⟩
                have hCf39 : YC f39 := by rw [ef39]; exact ⟨hCf37.1, (wear_st hCf37.2.1 (by show t35.toInt.toNat % 39 < 6 ∨ 12 ≤ t35.toInt.toNat % 39 ∨ (-1 ≤ t38.toInt ∧ t38.toInt ≤ 5); omega)), hCf37.2.2.1, hCf37.2.2.2.1, hCf37.2.2.2.2.1, hCf37.2.2.2.2.2⟩
                have hRf39 : progOK (f39 4) (f39 5) (v30 9).toInt.toNat := by rw [ef39]; exact hRf37
                have hA_f39 : KF [7, 8, 24] f39 f := by rw [ef39]; exact KF.up hA_f37 rfl
                refine lv_aload_n hx hb dX11_change_92 rfl (lv_at hl 4 rfl) ?_
                refine cbVi (n := 0) (rest := []) hx hb hml hown hts hE hP hD hS hA (sY_X11_fittedOnes_1 l dC dI cy y0 r  v30 f39 w32 g33 hIv30 hCf39 hRf39 ) k_1809 k_1811 k_81 k_114 k_1812 (by decide +kernel) ⟨Nat.le_of_ble_eq_true rfl, Nat.le_of_ble_eq_true rfl⟩ 0 11 rfl rfl (rfl) hl.1 rfl (Nat.le_of_ble_eq_true rfl) dX11_change_93 (fun r40 u H locs hw hP hD hS => ?_)
                obtain ⟨v41, f42, w43, g44⟩ := u
                obtain ⟨kV_v41, kF_f42, hIv41, hCf42, hRf42, hk0_v41, hk1_v41, hk2_v41, hk3_v41, hk4_v41, hk5_v41, hk8_v41, hk9_v41, hk10_v41, hk13_v41, hk14_v41, hk15_v41, hk17_v41, hk18_v41, hk24_v41, hk25_v41, hk35_v41, hk36_v41, hk38_v41, hk39_v41⟩ := hw
                have hM_v41 : KV [] v41 v := KV.tr kV_v41 hM_v30 rfl
                have hA_f42 : KF [7, 8, 24] f42 f := KF.tr kF_f42 hA_f39 rfl
                have hP : va_P (dC, dI) vwCl (YW cy y0 r v41 f42 w43 g44) H := hP
                have hD : va_D A (YW cy y0 r v41 f42 w43 g44) := hD
                have hUv41 : (v41 35).toInt + (v41 36).toInt ≤ 40 := hIv41.2
                have hq0_v41 : v41 0 = (v 0) := hk0_v41.trans hq0_v30
                have hq1_v41 : v41 1 = (v 1) := hk1_v41.trans hq1_v30
                have hq2_v41 : v41 2 = (v 2) := hk2_v41.trans hq2_v30
                have hq3_v41 : v41 3 = (v 3) := hk3_v41.trans hq3_v30
                have hq4_v41 : v41 4 = (v 4) := hk4_v41.trans hq4_v30
                have hq5_v41 : v41 5 = (v 5) := hk5_v41.trans hq5_v30
                have hq8_v41 : v41 8 = (v 8) := hk8_v41.trans hq8_v30
                have hq9_v41 : v41 9 = (v 9) := hk9_v41.trans hq9_v30
                have zq9_v41 := congrArg Int32.toInt hq9_v41
                have hq10_v41 : v41 10 = (v 10) := hk10_v41.trans hq10_v30
                have hq13_v41 : v41 13 = (v 13) := hk13_v41.trans hq13_v30
                have hq14_v41 : v41 14 = (v 14) := hk14_v41.trans hq14_v30
                have hq15_v41 : v41 15 = (v 15) := hk15_v41.trans hq15_v30
                have hq17_v41 : v41 17 = (v 17) := hk17_v41.trans hq17_v30
                have hq18_v41 : v41 18 = (v 18) := hk18_v41.trans hq18_v30
                have hq24_v41 : v41 24 = (v 24) := hk24_v41.trans hq24_v30
                have hq25_v41 : v41 25 = (v 25) := hk25_v41.trans hq25_v30
                have hq35_v41 : v41 35 = (v 35) := hk35_v41.trans hq35_v30
                have hq36_v41 : v41 36 = (v 36) := hk36_v41.trans hq36_v30
                have hq38_v41 : v41 38 = (v 38) := hk38_v41.trans hq38_v30
                have hq39_v41 : v41 39 = (v 39) := hk39_v41.trans hq39_v30
                refine cbSi (n := 1) (rest := []) hx hb hml hown hts hE hP hD hS hA (sY_X11_members_1 l dC dI cy y0 r r40 v41 f42 w43 g44 hIv41 hCf42 hRf42 ) k_1900 k_1901 k_114 k_1902 (by decide +kernel) ⟨Nat.le_of_ble_eq_true rfl, Nat.le_of_ble_eq_true rfl⟩ (rfl) hl.1 rfl (Nat.le_of_ble_eq_true rfl) dX11_change_96 (fun r45 u H locs hw hP hD hS => ?_)
                refine lv_istore (lv' := [(6, .int r45), (5, .int l5_24), (4, .int l4_12), (3, .int l3_24), (2, .int l2_24), (0, .ref y0), (1, .int p1)]) hx hb dX11_change_99 hl (Nat.le_of_ble_eq_true rfl) rfl (fun ls hl => ?_)
                refine lv_iload hx hb dX11_change_101 (lv_at hl 0 rfl) ?_
                refine lv_iload_n hx hb dX11_change_103 rfl (lv_at hl 4 rfl) ?_
                refine lv_icmp_gt (tgt := 110) hx hb dX11_change_104 rfl (fun c46 => ?_) (fun c46 => ?_)
                · skip
                  have zc46 : l2_24.toInt < r45.toInt := by rw [fa_lt] at c46; exact c46
                  have rg47 := fb_rng r45
                  have rg48 := fb_rng l2_24
                  refine lv_iload hx hb dX11_change_110 (lv_at hl 0 rfl) ?_
                  refine lv_istore_n (lv' := [(2, .int r45), (6, .int r45), (5, .int l5_24), (4, .int l4_12), (3, .int l3_24), (0, .ref y0), (1, .int p1)]) hx hb dX11_change_112 rfl hl (Nat.le_of_ble_eq_true rfl) rfl (fun ls hl => ?_)
                  refine lv_bipush (v := 6) hx hb dX11_change_113 rfl ?_
                  refine lv_iload hx hb dX11_change_115 (lv_at hl 3 rfl) ?_
                  refine lv_imul hx hb dX11_change_117 ?_
                  refine lv_topi (fun t49 et49 => ?_)
                  have zt49 : t49.toInt = 6 * l4_12.toInt := by rw [et49]; exact mul_i (by decide) rfl (by omega) (by omega)
                  refine lv_iload hx hb dX11_change_118 (lv_at hl 2 rfl) ?_
                  refine lv_iadd hx hb dX11_change_120 ?_
                  refine lv_topi (fun t50 et50 => ?_)
                  have rg51 := fb_rng t49
                  have zt50 : t50.toInt = t49.toInt + l5_24.toInt := by rw [et50]; exact add_i rfl rfl (by omega) (by omega)
                  refine lv_istore_n (lv' := [(3, .int t50), (2, .int r45), (6, .int r45), (5, .int l5_24), (4, .int l4_12), (0, .ref y0), (1, .int p1)]) hx hb dX11_change_121 rfl hl (Nat.le_of_ble_eq_true rfl) rfl (fun ls hl => ?_)
                  obtain ⟨t52, et52⟩ : ∃ y : Int32, y = l5_24 + 1 := ⟨_, rfl⟩
                  have zt52 : t52.toInt = l5_24.toInt + 1 := by rw [et52]; exact add_i rfl (by decide) (by omega) (by omega)
                  refine lv_iinc (v := t52) (lv' := [(5, .int t52), (3, .int t50), (2, .int r45), (6, .int r45), (4, .int l4_12), (0, .ref y0), (1, .int p1)]) hx hb dX11_change_122 hl (k := 3) rfl (by rw [et52]; rfl) (by decide) rfl (fun ls hl => ?_)
                  refine lv_goto (tgt := 39) hx hb dX11_change_125 rfl ?_
                  have rg53 := fb_rng t52
                  exact ih24 r45 t50 t52 v41 f42 w43 g44 hIv41 hCf42 hRf42 hq0_v41 hq1_v41 hq2_v41 hq3_v41 hq4_v41 hq5_v41 hq8_v41 hq9_v41 hq10_v41 hq13_v41 hq14_v41 hq15_v41 hq17_v41 hq18_v41 hq24_v41 hq25_v41 hq35_v41 hq36_v41 hq38_v41 hq39_v41 ⟨show (1 : Int) ≤ t52.toInt by omega, show t52.toInt ≤ (2147483647 : Int) by omega⟩ hM_v41 hA_f42 (by show (2147483647 - t52.toInt).toNat < n24; omega) _ _ _ hP hD hS (lv_sub hl [0, 4, 1, 2, 5, 6] rfl)
                · skip
                  have zc46 : ¬ (l2_24.toInt < r45.toInt) := by rw [fa_lt] at c46; exact c46
                  have rg54 := fb_rng r45
                  have rg55 := fb_rng l2_24
                  refine lv_goto (tgt := 122) hx hb dX11_change_107 rfl ?_
                  obtain ⟨t56, et56⟩ : ∃ y : Int32, y = l5_24 + 1 := ⟨_, rfl⟩
                  have zt56 : t56.toInt = l5_24.toInt + 1 := by rw [et56]; exact add_i rfl (by decide) (by omega) (by omega)
                  refine lv_iinc (v := t56) (lv' := [(5, .int t56), (6, .int r45), (4, .int l4_12), (3, .int l3_24), (2, .int l2_24), (0, .ref y0), (1, .int p1)]) hx hb dX11_change_122 hl (k := 1) rfl (by rw [et56]; rfl) (by decide) rfl (fun ls hl => ?_)
                  refine lv_goto (tgt := 39) hx hb dX11_change_125 rfl ?_
                  have rg57 := fb_rng t56
                  exact ih24 l2_24 l3_24 t56 v41 f42 w43 g44 hIv41 hCf42 hRf42 hq0_v41 hq1_v41 hq2_v41 hq3_v41 hq4_v41 hq5_v41 hq8_v41 hq9_v41 hq10_v41 hq13_v41 hq14_v41 hq15_v41 hq17_v41 hq18_v41 hq24_v41 hq25_v41 hq35_v41 hq36_v41 hq38_v41 hq39_v41 ⟨show (1 : Int) ≤ t56.toInt by omega, show t56.toInt ≤ (2147483647 : Int) by omega⟩ hM_v41 hA_f42 (by show (2147483647 - t56.toInt).toNat < n24; omega) _ _ _ hP hD hS (lv_sub hl [0, 2, 3, 4, 5, 6] rfl)
          have rg58 := fb_rng t23
          exact lp24 _ l2_12 l3_12 t23 v12 f12 w12 g12 hIv12 hCf12 hRf12 hq0_v12 hq1_v12 hq2_v12 hq3_v12 hq4_v12 hq5_v12 hq8_v12 hq9_v12 hq10_v12 hq13_v12 hq14_v12 hq15_v12 hq17_v12 hq18_v12 hq24_v12 hq25_v12 hq35_v12 hq36_v12 hq38_v12 hq39_v12 ⟨show (1 : Int) ≤ t23.toInt by omega, show t23.toInt ≤ (2147483647 : Int) by omega⟩ hM_v12 hA_f12 (Nat.lt_succ_self _) _ _ _ hP hD hS (lv_sub hl [0, 1, 2, 3, 4, 5] rfl)
    exact lp12 _ r11 (-1) 0 v7 f8 w9 g10 hIv7 hCf8 hRf8 hq0_v7 hq1_v7 hq2_v7 hq3_v7 hq4_v7 hq5_v7 hq8_v7 hq9_v7 hq10_v7 hq13_v7 hq14_v7 hq15_v7 hq17_v7 hq18_v7 hq24_v7 hq25_v7 hq35_v7 hq36_v7 hq38_v7 hq39_v7 ⟨by decide, by decide⟩ hM_v7 hA_f8 (Nat.lt_succ_self _) _ _ _ hP hD hS (lv_sub hl [0, 1, 2, 3, 4] rfl)
  · skip
    subst g5
    refine lv_if_ne (tgt := 11) hx hb dX11_change_6 rfl (fun c0 => absurd (by decide) c0) (fun _ => ?_)
    refine lv_iconst (v := (-1)) hx hb dX11_change_9 rfl ?_
    exact ret (-1) (v, f, w, g) _ _ _ _ _ _ rfl ⟨hM_v, hA_f, hIv, hCf, hRf, rfl, rfl, rfl, rfl, rfl, rfl, rfl, rfl, rfl, rfl, rfl, rfl, rfl, rfl, rfl, rfl, rfl, rfl, rfl, rfl⟩ hP hD hS dX11_change_10 (Nat.le_refl _) (Nat.le_refl _)
set_option maxHeartbeats 4000000 in
set_option maxRecDepth 100000 in
theorem sY_X11_wideOf_1 (l : Launch) (dC : Nat → ClassId) (dI : Nat → Nat → Nat) (cy : Nat → ClassId) (y0 : Nat) (r : Nat → Nat) (p1 : Int32) (v : Nat → Int32) (f : Nat → Nat → Int32) (w : Int64) (g : Nat → Int64) (hIv : YI v) (hCf : YC f) (hRf : progOK (f 4) (f 5) (v 9).toInt.toNat)  : ctI l (dC, dI) cy yX11_wideOf cX11_wideOf 4 .int 1 60 0 0 Unit [.ref y0, .int p1] (YW cy y0 r v f w g) (fun r u => True) (fun u => YW cy y0 r v f w g) := by
  refine ctI_of (by decide) (Nat.le_of_ble_eq_true rfl) (fun p e s m below meth c A ls Q hx hb hml hts hown hE hP hD hA hl ret => ?_)
  have hUv : (v 35).toInt + (v 36).toInt ≤ 40 := hIv.2
  have hown : s.vm.findClass RX11 = some m.cls := hown
  have hS : va_S A s.heap s.heap [] := va_S.rf
  have hl : lv_has ls 4 [(0, .ref y0), (1, .int p1)] := hl
  refine lv_iconst (v := 0) hx hb dX11_wideOf_0 rfl ?_
  refine lv_istore_n (lv' := [(2, .int 0), (0, .ref y0), (1, .int p1)]) hx hb dX11_wideOf_1 rfl hl (Nat.le_of_ble_eq_true rfl) rfl (fun ls hl => ?_)
  refine lv_iconst (v := 0) hx hb dX11_wideOf_2 rfl ?_
  refine lv_istore_n (lv' := [(3, .int 0), (2, .int 0), (0, .ref y0), (1, .int p1)]) hx hb dX11_wideOf_3 rfl hl (Nat.le_of_ble_eq_true rfl) rfl (fun ls hl => ?_)
  have lp1 : ∀ (n1 : Nat) (l2_1 : Int32) (l3_1 : Int32), ((0 : Int) ≤ l3_1.toInt ∧ l3_1.toInt ≤ 2147483647) → (2147483647 - l3_1.toInt).toNat < n1 → ∀ (H : Heap) (locs : List Loc) (ls : Array Slot), va_P (dC, dI) vwCl (YW cy y0 r v f w g) H → va_D A (YW cy y0 r v f w g) → va_S A s.heap H locs → lv_has ls 4 [(3, .int l3_1), (2, .int l2_1), (0, .ref y0), (1, .int p1)] → W p l e { frames := 1, cells := 0, slots := 0, locals := 60 } s m ([.ref y0, .int p1] : List Value).toArray below meth c H locs 0 0 Q (F0 m 4 ls []) := by
    intro n1
    induction n1 with
    | zero => intro l2_1 l3_1 hr3_1 hm; exact absurd hm (Nat.not_lt_zero _)
    | succ n1 ih1 =>
      intro l2_1 l3_1 hr3_1 hm1 H locs ls hP hD hS hl
      refine lv_iload_n hx hb dX11_wideOf_4 rfl (lv_at hl 0 rfl) ?_
      refine lv_aload_n hx hb dX11_wideOf_5 rfl (lv_at hl 2 rfl) ?_
      refine va_get (D := (dC, dI)) (ci := 11) (v := .int (v 24)) (C := RX11) (T := TX11) (N := 79) hx hb hts inB_11 hown hE.1 hP 0 rfl rfl 48 (Nat.le_of_ble_eq_true rfl) (hts _ k_1368) (fun _ h9 => h9) rfl dX11_wideOf_6 ?_
      have b24_v : 0 ≤ (v 24).toInt ∧ (v 24).toInt ≤ 6 := YIb.b hIv.1 24 (by decide)
      refine lv_icmp_ge (tgt := 51) hx hb dX11_wideOf_9 rfl (fun c2 => ?_) (fun c2 => ?_)
      · skip
        have zc2 : (v 24).toInt ≤ l3_1.toInt := by rw [fa_le] at c2; exact c2
        have rg3 := fb_rng l3_1
        have rg4 := fb_rng (v 24)
        refine lv_iload_n hx hb dX11_wideOf_51 rfl (lv_at hl 1 rfl) ?_
        exact ret l2_1 () _ _ _ _ _ _ rfl trivial hP hD hS dX11_wideOf_52 (Nat.le_refl _) (Nat.le_refl _)
      · skip
        have zc2 : ¬ ((v 24).toInt ≤ l3_1.toInt) := by rw [fa_le] at c2; exact c2
        have rg5 := fb_rng l3_1
        have rg6 := fb_rng (v 24)
        refine lv_iload_n hx hb dX11_wideOf_12 rfl (lv_at hl 1 rfl) ?_
        refine lv_iload_n hx hb dX11_wideOf_13 rfl (lv_at hl 3 rfl) ?_
        refine lv_iload_n hx hb dX11_wideOf_14 rfl (lv_at hl 0 rfl) ?_
        refine lv_ishr hx hb dX11_wideOf_15 ?_
        refine lv_topi (fun t7 et7 => ?_)
        refine lv_iconst (v := 1) hx hb dX11_wideOf_16 rfl ?_
        refine lv_iand hx hb dX11_wideOf_17 ?_
        refine lv_topi (fun t8 et8 => ?_)
        have zt8 : 0 ≤ t8.toInt ∧ t8.toInt < 2 := by rw [et8]; exact and_rng _ (k := 1) (by decide) (by decide)
        refine lv_iconst (v := 1) hx hb dX11_wideOf_18 rfl ?_
        refine lv_icmp_ne (tgt := 42) hx hb dX11_wideOf_19 rfl (fun c9 => ?_) (fun c9 => ?_)
        · skip
          have zc9 : ¬ (t8.toInt = 1) := by rw [fa_eq, show (1 : Int32).toInt = 1 from by decide] at c9; exact c9
          refine lv_iconst (v := 0) hx hb dX11_wideOf_42 rfl ?_
          refine lv_iadd hx hb dX11_wideOf_43 ?_
          refine lv_topi (fun t10 et10 => ?_)
          have rg11 := fb_rng l2_1
          have zt10 : t10.toInt = l2_1.toInt + 0 := by rw [et10]; exact add_i rfl (by decide) (by omega) (by omega)
          refine lv_istore_n (lv' := [(2, .int t10), (3, .int l3_1), (0, .ref y0), (1, .int p1)]) hx hb dX11_wideOf_44 rfl hl (Nat.le_of_ble_eq_true rfl) rfl (fun ls hl => ?_)
          obtain ⟨t12, et12⟩ : ∃ y : Int32, y = l3_1 + 1 := ⟨_, rfl⟩
          have zt12 : t12.toInt = l3_1.toInt + 1 := by rw [et12]; exact add_i rfl (by decide) (by omega) (by omega)
          refine lv_iinc (v := t12) (lv' := [(3, .int t12), (2, .int t10), (0, .ref y0), (1, .int p1)]) hx hb dX11_wideOf_45 hl (k := 1) rfl (by rw [et12]; rfl) (by decide) rfl (fun ls hl => ?_)
          refine lv_goto (tgt := 4) hx hb dX11_wideOf_48 rfl ?_
          have rg13 := fb_rng t12
          exact ih1 t10 t12 ⟨show (0 : Int) ≤ t12.toInt by omega, show t12.toInt ≤ (2147483647 : Int) by omega⟩ (by show (2147483647 - t12.toInt).toNat < n1; omega) _ _ _ hP hD hS (lv_sub hl [0, 1, 2, 3] rfl)
        · skip
          have zc9 : t8.toInt = 1 := by rw [fa_eq, show (1 : Int32).toInt = 1 from by decide] at c9; exact c9
          refine lv_aload_n hx hb dX11_wideOf_22 rfl (lv_at hl 2 rfl) ?_
          refine va_get (D := (dC, dI)) (ci := 11) (v := .ref (r 60)) (C := RX11) (T := TX11) (N := 79) hx hb hts inB_11 hown hE.1 hP 0 rfl rfl 60 (Nat.le_of_ble_eq_true rfl) (hts _ k_1380) (fun _ h9 => h9) rfl dX11_wideOf_23 ?_
          refine lv_bipush (v := 18) hx hb dX11_wideOf_26 rfl ?_
          refine lv_aload_n hx hb dX11_wideOf_28 rfl (lv_at hl 2 rfl) ?_
          refine va_get (D := (dC, dI)) (ci := 11) (v := .ref (r 60)) (C := RX11) (T := TX11) (N := 79) hx hb hts inB_11 hown hE.1 hP 0 rfl rfl 60 (Nat.le_of_ble_eq_true rfl) (hts _ k_1380) (fun _ h9 => h9) rfl dX11_wideOf_29 ?_
          refine lv_bipush (v := 6) hx hb dX11_wideOf_32 rfl ?_
          refine lv_iload_n hx hb dX11_wideOf_34 rfl (lv_at hl 0 rfl) ?_
          refine lv_iadd hx hb dX11_wideOf_35 ?_
          refine lv_topi (fun t14 et14 => ?_)
          have zt14 : t14.toInt = 6 + l3_1.toInt := by rw [et14]; exact add_i (by decide) rfl (by omega) (by omega)
          refine ldI hx hb hE hP 25 rfl (vp_in_iff.mpr ⟨by omega, by omega⟩) rfl rfl dX11_wideOf_36 ?_
          refine lv_topi (fun t15 et15 => ?_)
          have zt15 : t14.toInt.toNat % 39 < 6 ∨ 12 ≤ t14.toInt.toNat % 39 ∨ (-1 ≤ t15.toInt ∧ t15.toInt ≤ 5) := by rw [et15]; exact wear_ld hCf.2.1 (show t14.toInt.toNat < 39 by omega)
          refine lv_iadd hx hb dX11_wideOf_37 ?_
          refine lv_topi (fun t16 et16 => ?_)
          have rg17 := fb_rng t15
          have zt16 : t16.toInt = 18 + t15.toInt := by rw [et16]; exact add_i (by decide) rfl (by omega) (by omega)
          refine ldI hx hb hE hP 25 rfl (vp_in_iff.mpr ⟨by omega, by omega⟩) rfl rfl dX11_wideOf_38 ?_
          refine lv_topi (fun t18 et18 => ?_)
          have zt18 : t16.toInt.toNat % 39 < 6 ∨ 12 ≤ t16.toInt.toNat % 39 ∨ (-1 ≤ t18.toInt ∧ t18.toInt ≤ 5) := by rw [et18]; exact wear_ld hCf.2.1 (show t16.toInt.toNat < 39 by omega)
          refine lv_goto (tgt := 43) hx hb dX11_wideOf_39 rfl ?_
          refine lv_iadd hx hb dX11_wideOf_43 ?_
          refine lv_topi (fun t19 et19 => ?_)
          refine lv_istore_n (lv' := [(2, .int t19), (3, .int l3_1), (0, .ref y0), (1, .int p1)]) hx hb dX11_wideOf_44 rfl hl (Nat.le_of_ble_eq_true rfl) rfl (fun ls hl => ?_)
          obtain ⟨t20, et20⟩ : ∃ y : Int32, y = l3_1 + 1 := ⟨_, rfl⟩
          have zt20 : t20.toInt = l3_1.toInt + 1 := by rw [et20]; exact add_i rfl (by decide) (by omega) (by omega)
          refine lv_iinc (v := t20) (lv' := [(3, .int t20), (2, .int t19), (0, .ref y0), (1, .int p1)]) hx hb dX11_wideOf_45 hl (k := 1) rfl (by rw [et20]; rfl) (by decide) rfl (fun ls hl => ?_)
          refine lv_goto (tgt := 4) hx hb dX11_wideOf_48 rfl ?_
          have rg21 := fb_rng t20
          exact ih1 t19 t20 ⟨show (0 : Int) ≤ t20.toInt by omega, show t20.toInt ≤ (2147483647 : Int) by omega⟩ (by show (2147483647 - t20.toInt).toNat < n1; omega) _ _ _ hP hD hS (lv_sub hl [0, 1, 2, 3] rfl)
  exact lp1 _ 0 0 ⟨by decide, by decide⟩ (Nat.lt_succ_self _) _ _ _ hP hD hS (lv_sub hl [0, 1, 2, 3] rfl)
set_option maxHeartbeats 4000000 in
set_option maxRecDepth 100000 in
theorem sY_X11_front_1 (l : Launch) (dC : Nat → ClassId) (dI : Nat → Nat → Nat) (cy : Nat → ClassId) (y0 : Nat) (r : Nat → Nat) (p1 : Int32) (p2 : Int32) (v : Nat → Int32) (f : Nat → Nat → Int32) (w : Int64) (g : Nat → Int64) (hIv : YI v) (hCf : YC f) (hRf : progOK (f 4) (f 5) (v 9).toInt.toNat)  : ctI l (dC, dI) cy yX11_front cX11_front 6 .int 3 102 0 0 ((Nat → Int32) × (Nat → Nat → Int32) × (Int64) × (Nat → Int64)) [.ref y0, .int p1, .int p2] (YW cy y0 r v f w g) (fun r u => KV [] u.1 v ∧ KF [24] u.2.1 f ∧ YI u.1 ∧ YC u.2.1 ∧ progOK (u.2.1 4) (u.2.1 5) (u.1 9).toInt.toNat ∧ u.1 0 = v 0 ∧ u.1 1 = v 1 ∧ u.1 2 = v 2 ∧ u.1 3 = v 3 ∧ u.1 4 = v 4 ∧ u.1 5 = v 5 ∧ u.1 8 = v 8 ∧ u.1 9 = v 9 ∧ u.1 10 = v 10 ∧ u.1 13 = v 13 ∧ u.1 14 = v 14 ∧ u.1 15 = v 15 ∧ u.1 17 = v 17 ∧ u.1 18 = v 18 ∧ u.1 24 = v 24 ∧ u.1 25 = v 25 ∧ u.1 35 = v 35 ∧ u.1 36 = v 36 ∧ u.1 38 = v 38 ∧ u.1 39 = v 39) (fun u => YW cy y0 r u.1 u.2.1 u.2.2.1 u.2.2.2) := by
  refine ctI_of (by decide) (Nat.le_of_ble_eq_true rfl) (fun p e s m below meth c A ls Q hx hb hml hts hown hE hP hD hA hl ret => ?_)
  have hUv : (v 35).toInt + (v 36).toInt ≤ 40 := hIv.2
  have hM_v : KV [] v v := fun _ _ => rfl
  have hA_f : KF [24] f f := fun _ _ => rfl
  have hown : s.vm.findClass RX11 = some m.cls := hown
  have hS : va_S A s.heap s.heap [] := va_S.rf
  have hl : lv_has ls 6 [(0, .ref y0), (1, .int p1), (2, .int p2)] := hl
  refine lv_iload_n hx hb dX11_front_0 rfl (lv_at hl 1 rfl) ?_
  refine lv_iconst (v := 0) hx hb dX11_front_1 rfl ?_
  refine lv_sipush (v := 999) hx hb dX11_front_2 rfl ?_
  have lt1 : (0 : Int32).toInt = 0 := by decide
  have lt2 : (999 : Int32).toInt = 999 := by decide
  refine cbSi (n := 3) (rest := []) hx hb hml hown hts hE hP hD hS hA (sY_X11_isIn_1 0 l dC dI cy y0 r p1 0 999 v f w g hIv hCf hRf ) k_1736 k_1737 k_114 k_1738 (by decide +kernel) ⟨Nat.le_of_ble_eq_true rfl, Nat.le_of_ble_eq_true rfl⟩ (rfl) hl.1 rfl (Nat.le_of_ble_eq_true rfl) dX11_front_5 (fun r3 u H locs hw hP hD hS => ?_)
  obtain ⟨hG4, hw⟩ := hw
  rcases hw with ⟨g5, g5_0, g5_1⟩ | ⟨g5⟩
  · skip
    subst g5
    refine lv_if_eq (tgt := 20) hx hb dX11_front_8 rfl (fun c0 => absurd c0 (by decide)) (fun _ => ?_)
    refine lv_iload_n hx hb dX11_front_11 rfl (lv_at hl 2 rfl) ?_
    refine lv_iconst (v := 0) hx hb dX11_front_12 rfl ?_
    refine lv_iconst (v := 1) hx hb dX11_front_13 rfl ?_
    have lt6 : (1 : Int32).toInt = 1 := by decide
    refine cbSi (n := 3) (rest := []) hx hb hml hown hts hE hP hD hS hA (sY_X11_isIn_1 0 l dC dI cy y0 r p2 0 1 v f w g hIv hCf hRf ) k_1736 k_1737 k_114 k_1738 (by decide +kernel) ⟨Nat.le_of_ble_eq_true rfl, Nat.le_of_ble_eq_true rfl⟩ (rfl) hl.1 rfl (Nat.le_of_ble_eq_true rfl) dX11_front_14 (fun r7 u H locs hw hP hD hS => ?_)
    obtain ⟨hG8, hw⟩ := hw
    rcases hw with ⟨g9, g9_0, g9_1⟩ | ⟨g9⟩
    · skip
      subst g9
      refine lv_if_ne (tgt := 22) hx hb dX11_front_17 rfl (fun _ => ?_) (fun c0 => absurd c0 (by decide))
      refine lv_aload_n hx hb dX11_front_22 rfl (lv_at hl 0 rfl) ?_
      refine cbVv (n := 0) (rest := []) hx hb hml hown hts hE hP hD hS hA (sY_X11_fill_1 l dC dI cy y0 r  v f w g hIv hCf hRf ) k_1739 k_1741 k_71 k_114 k_1742 (by decide +kernel) ⟨Nat.le_of_ble_eq_true rfl, Nat.le_of_ble_eq_true rfl⟩ 0 11 rfl rfl (rfl) hl.1 rfl (Nat.le_of_ble_eq_true rfl) dX11_front_23 (fun u H locs hw hP hD hS => ?_)
      obtain ⟨v10, f11, w12, g13⟩ := u
      obtain ⟨kV_v10, kF_f11, hIv10, hCf11, hRf11, hk0_v10, hk1_v10, hk2_v10, hk3_v10, hk4_v10, hk5_v10, hk8_v10, hk9_v10, hk10_v10, hk13_v10, hk14_v10, hk15_v10, hk17_v10, hk18_v10, hk24_v10, hk25_v10, hk35_v10, hk36_v10, hk38_v10, hk39_v10⟩ := hw
      have hM_v10 : KV [] v10 v := KV.tr kV_v10 hM_v rfl
      have hA_f11 : KF [24] f11 f := KF.tr kF_f11 hA_f rfl
      have hP : va_P (dC, dI) vwCl (YW cy y0 r v10 f11 w12 g13) H := hP
      have hD : va_D A (YW cy y0 r v10 f11 w12 g13) := hD
      have hUv10 : (v10 35).toInt + (v10 36).toInt ≤ 40 := hIv10.2
      have hq9_v10 : v10 9 = (v 9) := hk9_v10
      have zq9_v10 := congrArg Int32.toInt hq9_v10
      refine lv_aload_n hx hb dX11_front_26 rfl (lv_at hl 0 rfl) ?_
      refine cbVi (n := 0) (rest := []) hx hb hml hown hts hE hP hD hS hA (sY_X11_wearers_1 l dC dI cy y0 r  v10 f11 w12 g13 hIv10 hCf11 hRf11 ) k_1805 k_1807 k_80 k_114 k_1808 (by decide +kernel) ⟨Nat.le_of_ble_eq_true rfl, Nat.le_of_ble_eq_true rfl⟩ 0 11 rfl rfl (rfl) hl.1 rfl (Nat.le_of_ble_eq_true rfl) dX11_front_27 (fun r14 u H locs hw hP hD hS => ?_)
      refine lv_istore_n (lv' := [(3, .int r14), (0, .ref y0), (1, .int p1), (2, .int p2)]) hx hb dX11_front_30 rfl hl (Nat.le_of_ble_eq_true rfl) rfl (fun ls hl => ?_)
      refine lv_iconst (v := (-1)) hx hb dX11_front_31 rfl ?_
      refine lv_istore (lv' := [(4, .int (-1)), (3, .int r14), (0, .ref y0), (1, .int p1), (2, .int p2)]) hx hb dX11_front_32 hl (Nat.le_of_ble_eq_true rfl) rfl (fun ls hl => ?_)
      refine lv_iconst (v := 0) hx hb dX11_front_34 rfl ?_
      refine lv_istore (lv' := [(5, .int 0), (4, .int (-1)), (3, .int r14), (0, .ref y0), (1, .int p1), (2, .int p2)]) hx hb dX11_front_35 hl (Nat.le_of_ble_eq_true rfl) rfl (fun ls hl => ?_)
      have lp15 : ∀ (n15 : Nat) (l4_15 : Int32) (l5_15 : Int32), ((0 : Int) ≤ l5_15.toInt ∧ l5_15.toInt ≤ 2147483647) → (2147483647 - l5_15.toInt).toNat < n15 → ∀ (H : Heap) (locs : List Loc) (ls : Array Slot), va_P (dC, dI) vwCl (YW cy y0 r v10 f11 w12 g13) H → va_D A (YW cy y0 r v10 f11 w12 g13) → va_S A s.heap H locs → lv_has ls 6 [(5, .int l5_15), (4, .int l4_15), (3, .int r14), (0, .ref y0), (1, .int p1), (2, .int p2)] → W p l e { frames := 3, cells := 0, slots := 0, locals := 102 } s m ([.ref y0, .int p1, .int p2] : List Value).toArray below meth c H locs 0 0 Q (F0 m 37 ls []) := by
        intro n15
        induction n15 with
        | zero => intro l4_15 l5_15 hr5_15 hm; exact absurd hm (Nat.not_lt_zero _)
        | succ n15 ih15 =>
          intro l4_15 l5_15 hr5_15 hm15 H locs ls hP hD hS hl
          refine lv_iload hx hb dX11_front_37 (lv_at hl 0 rfl) ?_
          refine lv_iload_n hx hb dX11_front_39 rfl (lv_at hl 2 rfl) ?_
          refine lv_icmp_gt (tgt := 90) hx hb dX11_front_40 rfl (fun c16 => ?_) (fun c16 => ?_)
          · skip
            have zc16 : r14.toInt < l5_15.toInt := by rw [fa_lt] at c16; exact c16
            have rg17 := fb_rng l5_15
            have rg18 := fb_rng r14
            refine lv_iload hx hb dX11_front_90 (lv_at hl 1 rfl) ?_
            refine lv_if_ge (tgt := 99) hx hb dX11_front_92 rfl (fun c19 => ?_) (fun c19 => ?_)
            · skip
              have zc19 : 0 ≤ l4_15.toInt := by rw [fa_le, show (0 : Int32).toInt = 0 from by decide] at c19; exact c19
              refine lv_iload_n hx hb dX11_front_99 rfl (lv_at hl 5 rfl) ?_
              refine lv_if_ne (tgt := 111) hx hb dX11_front_100 rfl (fun c20 => ?_) (fun c20 => ?_)
              · skip
                have zc20 : ¬ (p2.toInt = 0) := by rw [fa_eq, show (0 : Int32).toInt = 0 from by decide] at c20; exact c20
                refine lv_iload hx hb dX11_front_111 (lv_at hl 1 rfl) ?_
                exact ret l4_15 (v10, f11, w12, g13) _ _ _ _ _ _ rfl ⟨hM_v10, hA_f11, hIv10, hCf11, hRf11, hk0_v10, hk1_v10, hk2_v10, hk3_v10, hk4_v10, hk5_v10, hk8_v10, hk9_v10, hk10_v10, hk13_v10, hk14_v10, hk15_v10, hk17_v10, hk18_v10, hk24_v10, hk25_v10, hk35_v10, hk36_v10, hk38_v10, hk39_v10⟩ hP hD hS dX11_front_113 (Nat.le_refl _) (Nat.le_refl _)
              · skip
                have zc20 : p2.toInt = 0 := by rw [fa_eq, show (0 : Int32).toInt = 0 from by decide] at c20; exact c20
                refine lv_iload hx hb dX11_front_103 (lv_at hl 1 rfl) ?_
                refine cbSi (n := 1) (rest := []) hx hb hml hown hts hE hP hD hS hA (sY_X11_members_1 l dC dI cy y0 r l4_15 v10 f11 w12 g13 hIv10 hCf11 hRf11 ) k_1900 k_1901 k_114 k_1902 (by decide +kernel) ⟨Nat.le_of_ble_eq_true rfl, Nat.le_of_ble_eq_true rfl⟩ (rfl) hl.1 rfl (Nat.le_of_ble_eq_true rfl) dX11_front_105 (fun r21 u H locs hw hP hD hS => ?_)
                refine lv_goto (tgt := 113) hx hb dX11_front_108 rfl ?_
                exact ret r21 (v10, f11, w12, g13) _ _ _ _ _ _ rfl ⟨hM_v10, hA_f11, hIv10, hCf11, hRf11, hk0_v10, hk1_v10, hk2_v10, hk3_v10, hk4_v10, hk5_v10, hk8_v10, hk9_v10, hk10_v10, hk13_v10, hk14_v10, hk15_v10, hk17_v10, hk18_v10, hk24_v10, hk25_v10, hk35_v10, hk36_v10, hk38_v10, hk39_v10⟩ hP hD hS dX11_front_113 (Nat.le_refl _) (Nat.le_refl _)
            · skip
              have zc19 : ¬ (0 ≤ l4_15.toInt) := by rw [fa_le, show (0 : Int32).toInt = 0 from by decide] at c19; exact c19
              refine lv_iconst (v := (-1)) hx hb dX11_front_95 rfl ?_
              refine lv_goto (tgt := 113) hx hb dX11_front_96 rfl ?_
              exact ret (-1) (v10, f11, w12, g13) _ _ _ _ _ _ rfl ⟨hM_v10, hA_f11, hIv10, hCf11, hRf11, hk0_v10, hk1_v10, hk2_v10, hk3_v10, hk4_v10, hk5_v10, hk8_v10, hk9_v10, hk10_v10, hk13_v10, hk14_v10, hk15_v10, hk17_v10, hk18_v10, hk24_v10, hk25_v10, hk35_v10, hk36_v10, hk38_v10, hk39_v10⟩ hP hD hS dX11_front_113 (Nat.le_refl _) (Nat.le_refl _)
          · skip
            have zc16 : ¬ (r14.toInt < l5_15.toInt) := by rw [fa_lt] at c16; exact c16
            have rg22 := fb_rng l5_15
            have rg23 := fb_rng r14
            refine lv_iload hx hb dX11_front_43 (lv_at hl 0 rfl) ?_
            refine lv_iload_n hx hb dX11_front_45 rfl (lv_at hl 2 rfl) ?_
            refine lv_iconst (v := (-1)) hx hb dX11_front_46 rfl ?_
            refine lv_ixor hx hb dX11_front_47 ?_
            refine lv_topi (fun t24 et24 => ?_)
            refine lv_iand hx hb dX11_front_48 ?_
            refine lv_topi (fun t25 et25 => ?_)
            have zt25 : 0 ≤ t25.toInt ∧ t25.toInt ≤ 63 := by rw [et25]; exact and_left (by omega) (by omega)
            refine lv_if_ne (tgt := 84) hx hb dX11_front_49 rfl (fun c26 => ?_) (fun c26 => ?_)
            · skip
              have zc26 : ¬ (t25.toInt = 0) := by rw [fa_eq, show (0 : Int32).toInt = 0 from by decide] at c26; exact c26
              obtain ⟨t27, et27⟩ : ∃ y : Int32, y = l5_15 + 1 := ⟨_, rfl⟩
              have zt27 : t27.toInt = l5_15.toInt + 1 := by rw [et27]; exact add_i rfl (by decide) (by omega) (by omega)
              refine lv_iinc (v := t27) (lv' := [(5, .int t27), (4, .int l4_15), (3, .int r14), (0, .ref y0), (1, .int p1), (2, .int p2)]) hx hb dX11_front_84 hl (k := 0) rfl (by rw [et27]; rfl) (by decide) rfl (fun ls hl => ?_)
              refine lv_goto (tgt := 37) hx hb dX11_front_87 rfl ?_
              have rg28 := fb_rng t27
              exact ih15 l4_15 t27 ⟨show (0 : Int) ≤ t27.toInt by omega, show t27.toInt ≤ (2147483647 : Int) by omega⟩ (by show (2147483647 - t27.toInt).toNat < n15; omega) _ _ _ hP hD hS (lv_sub hl [0, 1, 2, 3, 4, 5] rfl)
            · skip
              have zc26 : t25.toInt = 0 := by rw [fa_eq, show (0 : Int32).toInt = 0 from by decide] at c26; exact c26
              refine lv_aload_n hx hb dX11_front_52 rfl (lv_at hl 3 rfl) ?_
              refine lv_iload hx hb dX11_front_53 (lv_at hl 0 rfl) ?_
              refine cbVi (n := 1) (rest := []) hx hb hml hown hts hE hP hD hS hA (sY_X11_wideOf_1 l dC dI cy y0 r l5_15 v10 f11 w12 g13 hIv10 hCf11 hRf11 ) k_1912 k_1914 k_88 k_114 k_1915 (by decide +kernel) ⟨Nat.le_of_ble_eq_true rfl, Nat.le_of_ble_eq_true rfl⟩ 0 11 rfl rfl (rfl) hl.1 rfl (Nat.le_of_ble_eq_true rfl) dX11_front_55 (fun r29 u H locs hw hP hD hS => ?_)
              refine lv_iload_n hx hb dX11_front_58 rfl (lv_at hl 4 rfl) ?_
              refine lv_icmp_lt (tgt := 84) hx hb dX11_front_59 rfl (fun c30 => ?_) (fun c30 => ?_)
              · skip
                have zc30 : r29.toInt < p1.toInt := by rw [fa_lt] at c30; exact c30
                have rg31 := fb_rng r29
                have rg32 := fb_rng p1
                obtain ⟨t33, et33⟩ : ∃ y : Int32, y = l5_15 + 1 := ⟨_, rfl⟩
                have zt33 : t33.toInt = l5_15.toInt + 1 := by rw [et33]; exact add_i rfl (by decide) (by omega) (by omega)
                refine lv_iinc (v := t33) (lv' := [(5, .int t33), (4, .int l4_15), (3, .int r14), (0, .ref y0), (1, .int p1), (2, .int p2)]) hx hb dX11_front_84 hl (k := 0) rfl (by rw [et33]; rfl) (by decide) rfl (fun ls hl => ?_)
                refine lv_goto (tgt := 37) hx hb dX11_front_87 rfl ?_
                have rg34 := fb_rng t33
                exact ih15 l4_15 t33 ⟨show (0 : Int) ≤ t33.toInt by omega, show t33.toInt ≤ (2147483647 : Int) by omega⟩ (by show (2147483647 - t33.toInt).toNat < n15; omega) _ _ _ hP hD hS (lv_sub hl [0, 1, 2, 3, 4, 5] rfl)
              · skip
                have zc30 : ¬ (r29.toInt < p1.toInt) := by rw [fa_lt] at c30; exact c30
                have rg35 := fb_rng r29
                have rg36 := fb_rng p1
                refine lv_iload hx hb dX11_front_62 (lv_at hl 1 rfl) ?_
                refine lv_if_lt (tgt := 80) hx hb dX11_front_64 rfl (fun c37 => ?_) (fun c37 => ?_)
                · skip
                  have zc37 : l4_15.toInt < 0 := by rw [fa_lt, show (0 : Int32).toInt = 0 from by decide] at c37; exact c37
                  refine lv_iload hx hb dX11_front_80 (lv_at hl 0 rfl) ?_
                  refine lv_istore (lv' := [(4, .int l5_15), (5, .int l5_15), (3, .int r14), (0, .ref y0), (1, .int p1), (2, .int p2)]) hx hb dX11_front_82 hl (Nat.le_of_ble_eq_true rfl) rfl (fun ls hl => ?_)
                  obtain ⟨t38, et38⟩ : ∃ y : Int32, y = l5_15 + 1 := ⟨_, rfl⟩
                  have zt38 : t38.toInt = l5_15.toInt + 1 := by rw [et38]; exact add_i rfl (by decide) (by omega) (by omega)
                  refine lv_iinc (v := t38) (lv' := [(5, .int t38), (4, .int l5_15), (3, .int r14), (0, .ref y0), (1, .int p1), (2, .int p2)]) hx hb dX11_front_84 hl (k := 1) rfl (by rw [et38]; rfl) (by decide) rfl (fun ls hl => ?_)
                  refine lv_goto (tgt := 37) hx hb dX11_front_87 rfl ?_
                  have rg39 := fb_rng t38
                  exact ih15 l5_15 t38 ⟨show (0 : Int) ≤ t38.toInt by omega, show t38.toInt ≤ (2147483647 : Int) by omega⟩ (by show (2147483647 - t38.toInt).toNat < n15; omega) _ _ _ hP hD hS (lv_sub hl [0, 1, 2, 3, 4, 5] rfl)
                · skip
                  have zc37 : ¬ (l4_15.toInt < 0) := by rw [fa_lt, show (0 : Int32).toInt = 0 from by decide] at c37; exact c37
                  refine lv_iload hx hb dX11_front_67 (lv_at hl 0 rfl) ?_
                  refine cbSi (n := 1) (rest := []) hx hb hml hown hts hE hP hD hS hA (sY_X11_members_1 l dC dI cy y0 r l5_15 v10 f11 w12 g13 hIv10 hCf11 hRf11 ) k_1900 k_1901 k_114 k_1902 (by decide +kernel) ⟨Nat.le_of_ble_eq_true rfl, Nat.le_of_ble_eq_true rfl⟩ (rfl) hl.1 rfl (Nat.le_of_ble_eq_true rfl) dX11_front_69 (fun r40 u H locs hw hP hD hS => ?_)
                  refine lv_iload hx hb dX11_front_72 (lv_at hl 1 rfl) ?_
                  refine cbSi (n := 1) (rest := [.int r40]) hx hb hml hown hts hE hP hD hS hA (sY_X11_members_1 l dC dI cy y0 r l4_15 v10 f11 w12 g13 hIv10 hCf11 hRf11 ) k_1900 k_1901 k_114 k_1902 (by decide +kernel) ⟨Nat.le_of_ble_eq_true rfl, Nat.le_of_ble_eq_true rfl⟩ (rfl) hl.1 rfl (Nat.le_of_ble_eq_true rfl) dX11_front_74 (fun r41 u H locs hw hP hD hS => ?_)
                  refine lv_icmp_ge (tgt := 84) hx hb dX11_front_77 rfl (fun c42 => ?_) (fun c42 => ?_)
                  · skip
                    have zc42 : r41.toInt ≤ r40.toInt := by rw [fa_le] at c42; exact c42
                    have rg43 := fb_rng r40
                    have rg44 := fb_rng r41
                    obtain ⟨t45, et45⟩ : ∃ y : Int32, y = l5_15 + 1 := ⟨_, rfl⟩
                    have zt45 : t45.toInt = l5_15.toInt + 1 := by rw [et45]; exact add_i rfl (by decide) (by omega) (by omega)
                    refine lv_iinc (v := t45) (lv' := [(5, .int t45), (4, .int l4_15), (3, .int r14), (0, .ref y0), (1, .int p1), (2, .int p2)]) hx hb dX11_front_84 hl (k := 0) rfl (by rw [et45]; rfl) (by decide) rfl (fun ls hl => ?_)
                    refine lv_goto (tgt := 37) hx hb dX11_front_87 rfl ?_
                    have rg46 := fb_rng t45
                    exact ih15 l4_15 t45 ⟨show (0 : Int) ≤ t45.toInt by omega, show t45.toInt ≤ (2147483647 : Int) by omega⟩ (by show (2147483647 - t45.toInt).toNat < n15; omega) _ _ _ hP hD hS (lv_sub hl [0, 1, 2, 3, 4, 5] rfl)
                  · skip
                    have zc42 : ¬ (r41.toInt ≤ r40.toInt) := by rw [fa_le] at c42; exact c42
                    have rg47 := fb_rng r40
                    have rg48 := fb_rng r41
                    refine lv_iload hx hb dX11_front_80 (lv_at hl 0 rfl) ?_
                    refine lv_istore (lv' := [(4, .int l5_15), (5, .int l5_15), (3, .int r14), (0, .ref y0), (1, .int p1), (2, .int p2)]) hx hb dX11_front_82 hl (Nat.le_of_ble_eq_true rfl) rfl (fun ls hl => ?_)
                    obtain ⟨t49, et49⟩ : ∃ y : Int32, y = l5_15 + 1 := ⟨_, rfl⟩
                    have zt49 : t49.toInt = l5_15.toInt + 1 := by rw [et49]; exact add_i rfl (by decide) (by omega) (by omega)
                    refine lv_iinc (v := t49) (lv' := [(5, .int t49), (4, .int l5_15), (3, .int r14), (0, .ref y0), (1, .int p1), (2, .int p2)]) hx hb dX11_front_84 hl (k := 1) rfl (by rw [et49]; rfl) (by decide) rfl (fun ls hl => ?_)
                    refine lv_goto (tgt := 37) hx hb dX11_front_87 rfl ?_
                    have rg50 := fb_rng t49
                    exact ih15 l5_15 t49 ⟨show (0 : Int) ≤ t49.toInt by omega, show t49.toInt ≤ (2147483647 : Int) by omega⟩ (by show (2147483647 - t49.toInt).toNat < n15; omega) _ _ _ hP hD hS (lv_sub hl [0, 1, 2, 3, 4, 5] rfl)
      exact lp15 _ (-1) 0 ⟨by decide, by decide⟩ (Nat.lt_succ_self _) _ _ _ hP hD hS (lv_sub hl [0, 1, 2, 3, 4, 5] rfl)
    · skip
      subst g9
      refine lv_if_ne (tgt := 22) hx hb dX11_front_17 rfl (fun c0 => absurd (by decide) c0) (fun _ => ?_)
      refine lv_iconst (v := (-1)) hx hb dX11_front_20 rfl ?_
      exact ret (-1) (v, f, w, g) _ _ _ _ _ _ rfl ⟨hM_v, hA_f, hIv, hCf, hRf, rfl, rfl, rfl, rfl, rfl, rfl, rfl, rfl, rfl, rfl, rfl, rfl, rfl, rfl, rfl, rfl, rfl, rfl, rfl, rfl⟩ hP hD hS dX11_front_21 (Nat.le_refl _) (Nat.le_refl _)
  · skip
    subst g5
    refine lv_if_eq (tgt := 20) hx hb dX11_front_8 rfl (fun _ => ?_) (fun c0 => absurd (by decide) c0)
    refine lv_iconst (v := (-1)) hx hb dX11_front_20 rfl ?_
    exact ret (-1) (v, f, w, g) _ _ _ _ _ _ rfl ⟨hM_v, hA_f, hIv, hCf, hRf, rfl, rfl, rfl, rfl, rfl, rfl, rfl, rfl, rfl, rfl, rfl, rfl, rfl, rfl, rfl, rfl, rfl, rfl, rfl, rfl⟩ hP hD hS dX11_front_21 (Nat.le_refl _) (Nat.le_refl _)
set_option maxHeartbeats 4000000 in
set_option maxRecDepth 100000 in
theorem sY_X11_plain_1 (l : Launch) (dC : Nat → ClassId) (dI : Nat → Nat → Nat) (cy : Nat → ClassId) (y0 : Nat) (r : Nat → Nat) (p0 : Int32) (v : Nat → Int32) (f : Nat → Nat → Int32) (w : Int64) (g : Nat → Int64) (hIv : YI v) (hCf : YC f) (hRf : progOK (f 4) (f 5) (v 9).toInt.toNat)  : ctI l (dC, dI) cy yX11_plain cX11_plain 1 .int 1 60 0 0 Unit [.int p0] (YW cy y0 r v f w g) (fun r u => True) (fun u => YW cy y0 r v f w g) := by
  refine ctI_of (by decide) (Nat.le_of_ble_eq_true rfl) (fun p e s m below meth c A ls Q hx hb hml hts hown hE hP hD hA hl ret => ?_)
  have hUv : (v 35).toInt + (v 36).toInt ≤ 40 := hIv.2
  have hown : s.vm.findClass RX11 = some m.cls := hown
  have hS : va_S A s.heap s.heap [] := va_S.rf
  have hl : lv_has ls 1 [(0, .int p0)] := hl
  refine lv_iload_n hx hb dX11_plain_0 rfl (lv_at hl 0 rfl) ?_
  refine lv_if_ge (tgt := 9) hx hb dX11_plain_1 rfl (fun c1 => ?_) (fun c1 => ?_)
  · skip
    have zc1 : 0 ≤ p0.toInt := by rw [fa_le, show (0 : Int32).toInt = 0 from by decide] at c1; exact c1
    refine lv_iload_n hx hb dX11_plain_9 rfl (lv_at hl 0 rfl) ?_
    exact ret p0 () _ _ _ _ _ _ rfl trivial hP hD hS dX11_plain_10 (Nat.le_refl _) (Nat.le_refl _)
  · skip
    have zc1 : ¬ (0 ≤ p0.toInt) := by rw [fa_le, show (0 : Int32).toInt = 0 from by decide] at c1; exact c1
    refine lv_iload_n hx hb dX11_plain_4 rfl (lv_at hl 0 rfl) ?_
    refine lv_ineg hx hb dX11_plain_5 ?_
    refine lv_topi (fun t2 et2 => ?_)
    refine lv_goto (tgt := 10) hx hb dX11_plain_6 rfl ?_
    exact ret t2 () _ _ _ _ _ _ rfl trivial hP hD hS dX11_plain_10 (Nat.le_refl _) (Nat.le_refl _)
set_option maxHeartbeats 4000000 in
set_option maxRecDepth 100000 in
theorem sY_X11_wings_1 (l : Launch) (dC : Nat → ClassId) (dI : Nat → Nat → Nat) (cy : Nat → ClassId) (y0 : Nat) (r : Nat → Nat) (p1 : Int32) (v : Nat → Int32) (f : Nat → Nat → Int32) (w : Int64) (g : Nat → Int64) (hIv : YI v) (hCf : YC f) (hRf : progOK (f 4) (f 5) (v 9).toInt.toNat)  : ctI l (dC, dI) cy yX11_wings cX11_wings 8 .int 3 102 0 0 ((Nat → Int32) × (Nat → Nat → Int32) × (Int64) × (Nat → Int64)) [.ref y0, .int p1] (YW cy y0 r v f w g) (fun r u => KV [] u.1 v ∧ KF [24] u.2.1 f ∧ YI u.1 ∧ YC u.2.1 ∧ progOK (u.2.1 4) (u.2.1 5) (u.1 9).toInt.toNat ∧ u.1 0 = v 0 ∧ u.1 1 = v 1 ∧ u.1 2 = v 2 ∧ u.1 3 = v 3 ∧ u.1 4 = v 4 ∧ u.1 5 = v 5 ∧ u.1 8 = v 8 ∧ u.1 9 = v 9 ∧ u.1 10 = v 10 ∧ u.1 13 = v 13 ∧ u.1 14 = v 14 ∧ u.1 15 = v 15 ∧ u.1 17 = v 17 ∧ u.1 18 = v 18 ∧ u.1 24 = v 24 ∧ u.1 25 = v 25 ∧ u.1 35 = v 35 ∧ u.1 36 = v 36 ∧ u.1 38 = v 38 ∧ u.1 39 = v 39) (fun u => YW cy y0 r u.1 u.2.1 u.2.2.1 u.2.2.2) := by
  refine ctI_of (by decide) (Nat.le_of_ble_eq_true rfl) (fun p e s m below meth c A ls Q hx hb hml hts hown hE hP hD hA hl ret => ?_)
  have hUv : (v 35).toInt + (v 36).toInt ≤ 40 := hIv.2
  have hM_v : KV [] v v := fun _ _ => rfl
  have hA_f : KF [24] f f := fun _ _ => rfl
  have hown : s.vm.findClass RX11 = some m.cls := hown
  have hS : va_S A s.heap s.heap [] := va_S.rf
  have hl : lv_has ls 8 [(0, .ref y0), (1, .int p1)] := hl
  refine lv_iload_n hx hb dX11_wings_0 rfl (lv_at hl 1 rfl) ?_
  refine lv_iconst (v := 0) hx hb dX11_wings_1 rfl ?_
  refine lv_iconst (v := 1) hx hb dX11_wings_2 rfl ?_
  have lt1 : (0 : Int32).toInt = 0 := by decide
  have lt2 : (1 : Int32).toInt = 1 := by decide
  refine cbSi (n := 3) (rest := []) hx hb hml hown hts hE hP hD hS hA (sY_X11_isIn_1 0 l dC dI cy y0 r p1 0 1 v f w g hIv hCf hRf ) k_1736 k_1737 k_114 k_1738 (by decide +kernel) ⟨Nat.le_of_ble_eq_true rfl, Nat.le_of_ble_eq_true rfl⟩ (rfl) hl.1 rfl (Nat.le_of_ble_eq_true rfl) dX11_wings_3 (fun r3 u H locs hw hP hD hS => ?_)
  obtain ⟨hG4, hw⟩ := hw
  rcases hw with ⟨g5, g5_0, g5_1⟩ | ⟨g5⟩
  · skip
    subst g5
    refine lv_if_ne (tgt := 11) hx hb dX11_wings_6 rfl (fun _ => ?_) (fun c0 => absurd c0 (by decide))
    refine lv_aload_n hx hb dX11_wings_11 rfl (lv_at hl 0 rfl) ?_
    refine cbVv (n := 0) (rest := []) hx hb hml hown hts hE hP hD hS hA (sY_X11_fill_1 l dC dI cy y0 r  v f w g hIv hCf hRf ) k_1739 k_1741 k_71 k_114 k_1742 (by decide +kernel) ⟨Nat.le_of_ble_eq_true rfl, Nat.le_of_ble_eq_true rfl⟩ 0 11 rfl rfl (rfl) hl.1 rfl (Nat.le_of_ble_eq_true rfl) dX11_wings_12 (fun u H locs hw hP hD hS => ?_)
    obtain ⟨v6, f7, w8, g9⟩ := u
    obtain ⟨kV_v6, kF_f7, hIv6, hCf7, hRf7, hk0_v6, hk1_v6, hk2_v6, hk3_v6, hk4_v6, hk5_v6, hk8_v6, hk9_v6, hk10_v6, hk13_v6, hk14_v6, hk15_v6, hk17_v6, hk18_v6, hk24_v6, hk25_v6, hk35_v6, hk36_v6, hk38_v6, hk39_v6⟩ := hw
    have hM_v6 : KV [] v6 v := KV.tr kV_v6 hM_v rfl
    have hA_f7 : KF [24] f7 f := KF.tr kF_f7 hA_f rfl
    have hP : va_P (dC, dI) vwCl (YW cy y0 r v6 f7 w8 g9) H := hP
    have hD : va_D A (YW cy y0 r v6 f7 w8 g9) := hD
    have hUv6 : (v6 35).toInt + (v6 36).toInt ≤ 40 := hIv6.2
    have hq9_v6 : v6 9 = (v 9) := hk9_v6
    have zq9_v6 := congrArg Int32.toInt hq9_v6
    refine lv_aload_n hx hb dX11_wings_15 rfl (lv_at hl 0 rfl) ?_
    refine cbVi (n := 0) (rest := []) hx hb hml hown hts hE hP hD hS hA (sY_X11_wearers_1 l dC dI cy y0 r  v6 f7 w8 g9 hIv6 hCf7 hRf7 ) k_1805 k_1807 k_80 k_114 k_1808 (by decide +kernel) ⟨Nat.le_of_ble_eq_true rfl, Nat.le_of_ble_eq_true rfl⟩ 0 11 rfl rfl (rfl) hl.1 rfl (Nat.le_of_ble_eq_true rfl) dX11_wings_16 (fun r10 u H locs hw hP hD hS => ?_)
    refine lv_istore_n (lv' := [(2, .int r10), (0, .ref y0), (1, .int p1)]) hx hb dX11_wings_19 rfl hl (Nat.le_of_ble_eq_true rfl) rfl (fun ls hl => ?_)
    refine lv_iconst (v := 0) hx hb dX11_wings_20 rfl ?_
    refine lv_istore_n (lv' := [(3, .int 0), (2, .int r10), (0, .ref y0), (1, .int p1)]) hx hb dX11_wings_21 rfl hl (Nat.le_of_ble_eq_true rfl) rfl (fun ls hl => ?_)
    refine lv_iconst (v := 5) hx hb dX11_wings_22 rfl ?_
    refine lv_istore (lv' := [(4, .int 5), (3, .int 0), (2, .int r10), (0, .ref y0), (1, .int p1)]) hx hb dX11_wings_23 hl (Nat.le_of_ble_eq_true rfl) rfl (fun ls hl => ?_)
    have lp11 : ∀ (n11 : Nat) (l3_11 : Int32) (l4_11 : Int32), ((-2147483648 : Int) ≤ l4_11.toInt ∧ l4_11.toInt ≤ 5) → (l4_11.toInt + 2147483648).toNat < n11 → ∀ (H : Heap) (locs : List Loc) (ls : Array Slot), va_P (dC, dI) vwCl (YW cy y0 r v6 f7 w8 g9) H → va_D A (YW cy y0 r v6 f7 w8 g9) → va_S A s.heap H locs → lv_has ls 8 [(4, .int l4_11), (3, .int l3_11), (2, .int r10), (0, .ref y0), (1, .int p1)] → W p l e { frames := 3, cells := 0, slots := 0, locals := 102 } s m ([.ref y0, .int p1] : List Value).toArray below meth c H locs 0 0 Q (F0 m 25 ls []) := by
      intro n11
      induction n11 with
      | zero => intro l3_11 l4_11 hr4_11 hm; exact absurd hm (Nat.not_lt_zero _)
      | succ n11 ih11 =>
        intro l3_11 l4_11 hr4_11 hm11 H locs ls hP hD hS hl
        refine lv_iload hx hb dX11_wings_25 (lv_at hl 0 rfl) ?_
        refine lv_if_lt (tgt := 55) hx hb dX11_wings_27 rfl (fun c12 => ?_) (fun c12 => ?_)
        · skip
          have zc12 : l4_11.toInt < 0 := by rw [fa_lt, show (0 : Int32).toInt = 0 from by decide] at c12; exact c12
          refine lv_iload_n hx hb dX11_wings_55 rfl (lv_at hl 2 rfl) ?_
          refine lv_istore (lv' := [(4, .int r10), (3, .int l3_11), (2, .int r10), (0, .ref y0), (1, .int p1)]) hx hb dX11_wings_56 hl (Nat.le_of_ble_eq_true rfl) rfl (fun ls hl => ?_)
          refine lv_aload_n hx hb dX11_wings_58 rfl (lv_at hl 3 rfl) ?_
          refine lv_iload_n hx hb dX11_wings_59 rfl (lv_at hl 2 rfl) ?_
          refine cbVi (n := 1) (rest := []) hx hb hml hown hts hE hP hD hS hA (sY_X11_wideOf_1 l dC dI cy y0 r r10 v6 f7 w8 g9 hIv6 hCf7 hRf7 ) k_1912 k_1914 k_88 k_114 k_1915 (by decide +kernel) ⟨Nat.le_of_ble_eq_true rfl, Nat.le_of_ble_eq_true rfl⟩ 0 11 rfl rfl (rfl) hl.1 rfl (Nat.le_of_ble_eq_true rfl) dX11_wings_60 (fun r13 u H locs hw hP hD hS => ?_)
          refine lv_istore (lv' := [(5, .int r13), (4, .int r10), (3, .int l3_11), (2, .int r10), (0, .ref y0), (1, .int p1)]) hx hb dX11_wings_63 hl (Nat.le_of_ble_eq_true rfl) rfl (fun ls hl => ?_)
          refine lv_iconst (v := 0) hx hb dX11_wings_65 rfl ?_
          refine lv_istore (lv' := [(6, .int 0), (5, .int r13), (4, .int r10), (3, .int l3_11), (2, .int r10), (0, .ref y0), (1, .int p1)]) hx hb dX11_wings_66 hl (Nat.le_of_ble_eq_true rfl) rfl (fun ls hl => ?_)
          have lp14 : ∀ (n14 : Nat) (l4_14 : Int32) (l5_14 : Int32) (l6_14 : Int32), ((0 : Int) ≤ l6_14.toInt ∧ l6_14.toInt ≤ 2147483647) → (2147483647 - l6_14.toInt).toNat < n14 → ∀ (H : Heap) (locs : List Loc) (ls : Array Slot), va_P (dC, dI) vwCl (YW cy y0 r v6 f7 w8 g9) H → va_D A (YW cy y0 r v6 f7 w8 g9) → va_S A s.heap H locs → lv_has ls 8 [(6, .int l6_14), (5, .int l5_14), (4, .int l4_14), (3, .int l3_11), (2, .int r10), (0, .ref y0), (1, .int p1)] → W p l e { frames := 3, cells := 0, slots := 0, locals := 102 } s m ([.ref y0, .int p1] : List Value).toArray below meth c H locs 0 0 Q (F0 m 68 ls []) := by
            intro n14
            induction n14 with
            | zero => intro l4_14 l5_14 l6_14 hr6_14 hm; exact absurd hm (Nat.not_lt_zero _)
            | succ n14 ih14 =>
              intro l4_14 l5_14 l6_14 hr6_14 hm14 H locs ls hP hD hS hl
              refine lv_iload hx hb dX11_wings_68 (lv_at hl 0 rfl) ?_
              refine lv_iload_n hx hb dX11_wings_70 rfl (lv_at hl 4 rfl) ?_
              refine lv_icmp_gt (tgt := 154) hx hb dX11_wings_71 rfl (fun c15 => ?_) (fun c15 => ?_)
              · skip
                have zc15 : r10.toInt < l6_14.toInt := by rw [fa_lt] at c15; exact c15
                have rg16 := fb_rng l6_14
                have rg17 := fb_rng r10
                refine lv_iload_n hx hb dX11_wings_154 rfl (lv_at hl 6 rfl) ?_
                refine lv_if_ne (tgt := 163) hx hb dX11_wings_155 rfl (fun c18 => ?_) (fun c18 => ?_)
                · skip
                  have zc18 : ¬ (p1.toInt = 0) := by rw [fa_eq, show (0 : Int32).toInt = 0 from by decide] at c18; exact c18
                  refine lv_iload hx hb dX11_wings_163 (lv_at hl 2 rfl) ?_
                  exact ret l4_14 (v6, f7, w8, g9) _ _ _ _ _ _ rfl ⟨hM_v6, hA_f7, hIv6, hCf7, hRf7, hk0_v6, hk1_v6, hk2_v6, hk3_v6, hk4_v6, hk5_v6, hk8_v6, hk9_v6, hk10_v6, hk13_v6, hk14_v6, hk15_v6, hk17_v6, hk18_v6, hk24_v6, hk25_v6, hk35_v6, hk36_v6, hk38_v6, hk39_v6⟩ hP hD hS dX11_wings_165 (Nat.le_refl _) (Nat.le_refl _)
                · skip
                  have zc18 : p1.toInt = 0 := by rw [fa_eq, show (0 : Int32).toInt = 0 from by decide] at c18; exact c18
                  refine lv_iload hx hb dX11_wings_158 (lv_at hl 1 rfl) ?_
                  refine lv_goto (tgt := 165) hx hb dX11_wings_160 rfl ?_
                  exact ret l5_14 (v6, f7, w8, g9) _ _ _ _ _ _ rfl ⟨hM_v6, hA_f7, hIv6, hCf7, hRf7, hk0_v6, hk1_v6, hk2_v6, hk3_v6, hk4_v6, hk5_v6, hk8_v6, hk9_v6, hk10_v6, hk13_v6, hk14_v6, hk15_v6, hk17_v6, hk18_v6, hk24_v6, hk25_v6, hk35_v6, hk36_v6, hk38_v6, hk39_v6⟩ hP hD hS dX11_wings_165 (Nat.le_refl _) (Nat.le_refl _)
              · skip
                have zc15 : ¬ (r10.toInt < l6_14.toInt) := by rw [fa_lt] at c15; exact c15
                have rg19 := fb_rng l6_14
                have rg20 := fb_rng r10
                refine lv_iload hx hb dX11_wings_74 (lv_at hl 0 rfl) ?_
                refine lv_iload_n hx hb dX11_wings_76 rfl (lv_at hl 4 rfl) ?_
                refine lv_iconst (v := (-1)) hx hb dX11_wings_77 rfl ?_
                refine lv_ixor hx hb dX11_wings_78 ?_
                refine lv_topi (fun t21 et21 => ?_)
                refine lv_iand hx hb dX11_wings_79 ?_
                refine lv_topi (fun t22 et22 => ?_)
                have zt22 : 0 ≤ t22.toInt ∧ t22.toInt ≤ 63 := by rw [et22]; exact and_left (by omega) (by omega)
                refine lv_if_ne (tgt := 148) hx hb dX11_wings_80 rfl (fun c23 => ?_) (fun c23 => ?_)
                · skip
                  have zc23 : ¬ (t22.toInt = 0) := by rw [fa_eq, show (0 : Int32).toInt = 0 from by decide] at c23; exact c23
                  obtain ⟨t24, et24⟩ : ∃ y : Int32, y = l6_14 + 1 := ⟨_, rfl⟩
                  have zt24 : t24.toInt = l6_14.toInt + 1 := by rw [et24]; exact add_i rfl (by decide) (by omega) (by omega)
                  refine lv_iinc (v := t24) (lv' := [(6, .int t24), (5, .int l5_14), (4, .int l4_14), (3, .int l3_11), (2, .int r10), (0, .ref y0), (1, .int p1)]) hx hb dX11_wings_148 hl (k := 0) rfl (by rw [et24]; rfl) (by decide) rfl (fun ls hl => ?_)
                  refine lv_goto (tgt := 68) hx hb dX11_wings_151 rfl ?_
                  have rg25 := fb_rng t24
                  exact ih14 l4_14 l5_14 t24 ⟨show (0 : Int) ≤ t24.toInt by omega, show t24.toInt ≤ (2147483647 : Int) by omega⟩ (by show (2147483647 - t24.toInt).toNat < n14; omega) _ _ _ hP hD hS (lv_sub hl [0, 1, 2, 3, 4, 5, 6] rfl)
                · skip
                  have zc23 : t22.toInt = 0 := by rw [fa_eq, show (0 : Int32).toInt = 0 from by decide] at c23; exact c23
                  refine lv_iload hx hb dX11_wings_83 (lv_at hl 0 rfl) ?_
                  refine lv_iload_n hx hb dX11_wings_85 rfl (lv_at hl 3 rfl) ?_
                  refine lv_iand hx hb dX11_wings_86 ?_
                  refine lv_topi (fun t26 et26 => ?_)
                  have zt26 : 0 ≤ t26.toInt ∧ t26.toInt ≤ 63 := by rw [et26]; exact and_left (by omega) (by omega)
                  refine lv_iload_n hx hb dX11_wings_87 rfl (lv_at hl 3 rfl) ?_
                  refine lv_icmp_eq (tgt := 94) hx hb dX11_wings_88 rfl (fun c27 => ?_) (fun c27 => ?_)
                  · skip
                    have zc27 : t26.toInt = l3_11.toInt := by rw [fa_eq] at c27; exact c27
                    have rg28 := fb_rng t26
                    have rg29 := fb_rng l3_11
                    refine lv_aload_n hx hb dX11_wings_94 rfl (lv_at hl 5 rfl) ?_
                    refine lv_iload hx hb dX11_wings_95 (lv_at hl 0 rfl) ?_
                    refine cbVi (n := 1) (rest := []) hx hb hml hown hts hE hP hD hS hA (sY_X11_wideOf_1 l dC dI cy y0 r l6_14 v6 f7 w8 g9 hIv6 hCf7 hRf7 ) k_1912 k_1914 k_88 k_114 k_1915 (by decide +kernel) ⟨Nat.le_of_ble_eq_true rfl, Nat.le_of_ble_eq_true rfl⟩ 0 11 rfl rfl (rfl) hl.1 rfl (Nat.le_of_ble_eq_true rfl) dX11_wings_97 (fun r30 u H locs hw hP hD hS => ?_)
                    refine lv_aload_n hx hb dX11_wings_100 rfl (lv_at hl 5 rfl) ?_
                    refine lv_iload_n hx hb dX11_wings_101 rfl (lv_at hl 4 rfl) ?_
                    refine lv_iload hx hb dX11_wings_102 (lv_at hl 0 rfl) ?_
                    refine lv_iconst (v := (-1)) hx hb dX11_wings_104 rfl ?_
                    refine lv_ixor hx hb dX11_wings_105 ?_
                    refine lv_topi (fun t31 et31 => ?_)
                    refine lv_iand hx hb dX11_wings_106 ?_
                    refine lv_topi (fun t32 et32 => ?_)
                    have zt32 : 0 ≤ t32.toInt ∧ t32.toInt ≤ 63 := by rw [et32]; exact and_left (by omega) (by omega)
                    refine cbVi (n := 1) (rest := [.int r30]) hx hb hml hown hts hE hP hD hS hA (sY_X11_wideOf_1 l dC dI cy y0 r t32 v6 f7 w8 g9 hIv6 hCf7 hRf7 ) k_1912 k_1914 k_88 k_114 k_1915 (by decide +kernel) ⟨Nat.le_of_ble_eq_true rfl, Nat.le_of_ble_eq_true rfl⟩ 0 11 rfl rfl (rfl) hl.1 rfl (Nat.le_of_ble_eq_true rfl) dX11_wings_107 (fun r33 u H locs hw hP hD hS => ?_)
                    refine lv_isub hx hb dX11_wings_110 ?_
                    refine lv_topi (fun t34 et34 => ?_)
                    refine cbSi (n := 1) (rest := []) hx hb hml hown hts hE hP hD hS hA (sY_X11_plain_1 l dC dI cy y0 r t34 v6 f7 w8 g9 hIv6 hCf7 hRf7 ) k_1920 k_1921 k_114 k_1922 (by decide +kernel) ⟨Nat.le_of_ble_eq_true rfl, Nat.le_of_ble_eq_true rfl⟩ (rfl) hl.1 rfl (Nat.le_of_ble_eq_true rfl) dX11_wings_111 (fun r35 u H locs hw hP hD hS => ?_)
                    refine lv_istore (lv' := [(7, .int r35), (6, .int l6_14), (5, .int l5_14), (4, .int l4_14), (3, .int l3_11), (2, .int r10), (0, .ref y0), (1, .int p1)]) hx hb dX11_wings_114 hl (Nat.le_of_ble_eq_true rfl) rfl (fun ls hl => ?_)
                    refine lv_iload hx hb dX11_wings_116 (lv_at hl 0 rfl) ?_
                    refine lv_iload hx hb dX11_wings_118 (lv_at hl 2 rfl) ?_
                    refine lv_icmp_gt (tgt := 148) hx hb dX11_wings_120 rfl (fun c36 => ?_) (fun c36 => ?_)
                    · skip
                      have zc36 : l5_14.toInt < r35.toInt := by rw [fa_lt] at c36; exact c36
                      have rg37 := fb_rng r35
                      have rg38 := fb_rng l5_14
                      obtain ⟨t39, et39⟩ : ∃ y : Int32, y = l6_14 + 1 := ⟨_, rfl⟩
                      have zt39 : t39.toInt = l6_14.toInt + 1 := by rw [et39]; exact add_i rfl (by decide) (by omega) (by omega)
                      refine lv_iinc (v := t39) (lv' := [(6, .int t39), (7, .int r35), (5, .int l5_14), (4, .int l4_14), (3, .int l3_11), (2, .int r10), (0, .ref y0), (1, .int p1)]) hx hb dX11_wings_148 hl (k := 1) rfl (by rw [et39]; rfl) (by decide) rfl (fun ls hl => ?_)
                      refine lv_goto (tgt := 68) hx hb dX11_wings_151 rfl ?_
                      have rg40 := fb_rng t39
                      exact ih14 l4_14 l5_14 t39 ⟨show (0 : Int) ≤ t39.toInt by omega, show t39.toInt ≤ (2147483647 : Int) by omega⟩ (by show (2147483647 - t39.toInt).toNat < n14; omega) _ _ _ hP hD hS (lv_sub hl [0, 2, 3, 4, 5, 6, 7] rfl)
                    · skip
                      have zc36 : ¬ (l5_14.toInt < r35.toInt) := by rw [fa_lt] at c36; exact c36
                      have rg41 := fb_rng r35
                      have rg42 := fb_rng l5_14
                      refine lv_iload hx hb dX11_wings_123 (lv_at hl 0 rfl) ?_
                      refine lv_iload hx hb dX11_wings_125 (lv_at hl 2 rfl) ?_
                      refine lv_icmp_ne (tgt := 140) hx hb dX11_wings_127 rfl (fun c43 => ?_) (fun c43 => ?_)
                      · skip
                        have zc43 : ¬ (r35.toInt = l5_14.toInt) := by rw [fa_eq] at c43; exact c43
                        refine lv_iload hx hb dX11_wings_140 (lv_at hl 0 rfl) ?_
                        refine lv_istore (lv' := [(5, .int r35), (7, .int r35), (6, .int l6_14), (4, .int l4_14), (3, .int l3_11), (2, .int r10), (0, .ref y0), (1, .int p1)]) hx hb dX11_wings_142 hl (Nat.le_of_ble_eq_true rfl) rfl (fun ls hl => ?_)
                        refine lv_iload hx hb dX11_wings_144 (lv_at hl 2 rfl) ?_
                        refine lv_istore (lv' := [(4, .int l6_14), (5, .int r35), (7, .int r35), (6, .int l6_14), (3, .int l3_11), (2, .int r10), (0, .ref y0), (1, .int p1)]) hx hb dX11_wings_146 hl (Nat.le_of_ble_eq_true rfl) rfl (fun ls hl => ?_)
                        obtain ⟨t44, et44⟩ : ∃ y : Int32, y = l6_14 + 1 := ⟨_, rfl⟩
                        have zt44 : t44.toInt = l6_14.toInt + 1 := by rw [et44]; exact add_i rfl (by decide) (by omega) (by omega)
                        refine lv_iinc (v := t44) (lv' := [(6, .int t44), (4, .int l6_14), (5, .int r35), (7, .int r35), (3, .int l3_11), (2, .int r10), (0, .ref y0), (1, .int p1)]) hx hb dX11_wings_148 hl (k := 3) rfl (by rw [et44]; rfl) (by decide) rfl (fun ls hl => ?_)
                        refine lv_goto (tgt := 68) hx hb dX11_wings_151 rfl ?_
                        have rg45 := fb_rng t44
                        exact ih14 l6_14 r35 t44 ⟨show (0 : Int) ≤ t44.toInt by omega, show t44.toInt ≤ (2147483647 : Int) by omega⟩ (by show (2147483647 - t44.toInt).toNat < n14; omega) _ _ _ hP hD hS (lv_sub hl [0, 2, 1, 4, 5, 6, 7] rfl)
                      · skip
                        have zc43 : r35.toInt = l5_14.toInt := by rw [fa_eq] at c43; exact c43
                        refine lv_iload hx hb dX11_wings_130 (lv_at hl 1 rfl) ?_
                        refine lv_iload hx hb dX11_wings_132 (lv_at hl 3 rfl) ?_
                        refine lv_icmp_lt (tgt := 140) hx hb dX11_wings_134 rfl (fun c46 => ?_) (fun c46 => ?_)
                        · skip
                          have zc46 : l6_14.toInt < l4_14.toInt := by rw [fa_lt] at c46; exact c46
                          have rg47 := fb_rng l4_14
                          refine lv_iload hx hb dX11_wings_140 (lv_at hl 0 rfl) ?_
                          refine lv_istore (lv' := [(5, .int r35), (7, .int r35), (6, .int l6_14), (4, .int l4_14), (3, .int l3_11), (2, .int r10), (0, .ref y0), (1, .int p1)]) hx hb dX11_wings_142 hl (Nat.le_of_ble_eq_true rfl) rfl (fun ls hl => ?_)
                          refine lv_iload hx hb dX11_wings_144 (lv_at hl 2 rfl) ?_
                          refine lv_istore (lv' := [(4, .int l6_14), (5, .int r35), (7, .int r35), (6, .int l6_14), (3, .int l3_11), (2, .int r10), (0, .ref y0), (1, .int p1)]) hx hb dX11_wings_146 hl (Nat.le_of_ble_eq_true rfl) rfl (fun ls hl => ?_)
                          obtain ⟨t48, et48⟩ : ∃ y : Int32, y = l6_14 + 1 := ⟨_, rfl⟩
                          have zt48 : t48.toInt = l6_14.toInt + 1 := by rw [et48]; exact add_i rfl (by decide) (by omega) (by omega)
                          refine lv_iinc (v := t48) (lv' := [(6, .int t48), (4, .int l6_14), (5, .int r35), (7, .int r35), (3, .int l3_11), (2, .int r10), (0, .ref y0), (1, .int p1)]) hx hb dX11_wings_148 hl (k := 3) rfl (by rw [et48]; rfl) (by decide) rfl (fun ls hl => ?_)
                          refine lv_goto (tgt := 68) hx hb dX11_wings_151 rfl ?_
                          have rg49 := fb_rng t48
                          exact ih14 l6_14 r35 t48 ⟨show (0 : Int) ≤ t48.toInt by omega, show t48.toInt ≤ (2147483647 : Int) by omega⟩ (by show (2147483647 - t48.toInt).toNat < n14; omega) _ _ _ hP hD hS (lv_sub hl [0, 2, 1, 4, 5, 6, 7] rfl)
                        · skip
                          have zc46 : ¬ (l6_14.toInt < l4_14.toInt) := by rw [fa_lt] at c46; exact c46
                          have rg50 := fb_rng l4_14
                          refine lv_goto (tgt := 148) hx hb dX11_wings_137 rfl ?_
                          obtain ⟨t51, et51⟩ : ∃ y : Int32, y = l6_14 + 1 := ⟨_, rfl⟩
                          have zt51 : t51.toInt = l6_14.toInt + 1 := by rw [et51]; exact add_i rfl (by decide) (by omega) (by omega)
                          refine lv_iinc (v := t51) (lv' := [(6, .int t51), (7, .int r35), (5, .int l5_14), (4, .int l4_14), (3, .int l3_11), (2, .int r10), (0, .ref y0), (1, .int p1)]) hx hb dX11_wings_148 hl (k := 1) rfl (by rw [et51]; rfl) (by decide) rfl (fun ls hl => ?_)
                          refine lv_goto (tgt := 68) hx hb dX11_wings_151 rfl ?_
                          have rg52 := fb_rng t51
                          exact ih14 l4_14 l5_14 t51 ⟨show (0 : Int) ≤ t51.toInt by omega, show t51.toInt ≤ (2147483647 : Int) by omega⟩ (by show (2147483647 - t51.toInt).toNat < n14; omega) _ _ _ hP hD hS (lv_sub hl [0, 2, 3, 4, 5, 6, 7] rfl)
                  · skip
                    have zc27 : ¬ (t26.toInt = l3_11.toInt) := by rw [fa_eq] at c27; exact c27
                    have rg53 := fb_rng t26
                    have rg54 := fb_rng l3_11
                    refine lv_goto (tgt := 148) hx hb dX11_wings_91 rfl ?_
                    obtain ⟨t55, et55⟩ : ∃ y : Int32, y = l6_14 + 1 := ⟨_, rfl⟩
                    have zt55 : t55.toInt = l6_14.toInt + 1 := by rw [et55]; exact add_i rfl (by decide) (by omega) (by omega)
                    refine lv_iinc (v := t55) (lv' := [(6, .int t55), (5, .int l5_14), (4, .int l4_14), (3, .int l3_11), (2, .int r10), (0, .ref y0), (1, .int p1)]) hx hb dX11_wings_148 hl (k := 0) rfl (by rw [et55]; rfl) (by decide) rfl (fun ls hl => ?_)
                    refine lv_goto (tgt := 68) hx hb dX11_wings_151 rfl ?_
                    have rg56 := fb_rng t55
                    exact ih14 l4_14 l5_14 t55 ⟨show (0 : Int) ≤ t55.toInt by omega, show t55.toInt ≤ (2147483647 : Int) by omega⟩ (by show (2147483647 - t55.toInt).toNat < n14; omega) _ _ _ hP hD hS (lv_sub hl [0, 1, 2, 3, 4, 5, 6] rfl)
          exact lp14 _ r10 r13 0 ⟨by decide, by decide⟩ (Nat.lt_succ_self _) _ _ _ hP hD hS (lv_sub hl [0, 1, 2, 3, 4, 5, 6] rfl)
        · skip
          have zc12 : ¬ (l4_11.toInt < 0) := by rw [fa_lt, show (0 : Int32).toInt = 0 from by decide] at c12; exact c12
          refine lv_iload_n hx hb dX11_wings_30 rfl (lv_at hl 2 rfl) ?_
          refine lv_iload hx hb dX11_wings_31 (lv_at hl 0 rfl) ?_
          refine lv_ishr hx hb dX11_wings_33 ?_
          refine lv_topi (fun t57 et57 => ?_)
          refine lv_iconst (v := 1) hx hb dX11_wings_34 rfl ?_
          refine lv_iand hx hb dX11_wings_35 ?_
          refine lv_topi (fun t58 et58 => ?_)
          have zt58 : 0 ≤ t58.toInt ∧ t58.toInt < 2 := by rw [et58]; exact and_rng _ (k := 1) (by decide) (by decide)
          refine lv_iconst (v := 1) hx hb dX11_wings_36 rfl ?_
          refine lv_icmp_ne (tgt := 47) hx hb dX11_wings_37 rfl (fun c59 => ?_) (fun c59 => ?_)
          · skip
            have zc59 : ¬ (t58.toInt = 1) := by rw [fa_eq, show (1 : Int32).toInt = 1 from by decide] at c59; exact c59
            refine lv_iload_n hx hb dX11_wings_47 rfl (lv_at hl 1 rfl) ?_
            refine lv_istore_n (lv' := [(3, .int l3_11), (4, .int l4_11), (2, .int r10), (0, .ref y0), (1, .int p1)]) hx hb dX11_wings_48 rfl hl (Nat.le_of_ble_eq_true rfl) rfl (fun ls hl => ?_)
            obtain ⟨t60, et60⟩ : ∃ y : Int32, y = l4_11 + (-1) := ⟨_, rfl⟩
            have rg61 := fb_rng l4_11
            have zt60 : t60.toInt = l4_11.toInt + (-1) := by rw [et60]; exact add_i rfl (by decide) (by omega) (by omega)
            refine lv_iinc (v := t60) (lv' := [(4, .int t60), (3, .int l3_11), (2, .int r10), (0, .ref y0), (1, .int p1)]) hx hb dX11_wings_49 hl (k := 1) rfl (by rw [et60]; rfl) (by decide) rfl (fun ls hl => ?_)
            refine lv_goto (tgt := 25) hx hb dX11_wings_52 rfl ?_
            have rg62 := fb_rng t60
            exact ih11 l3_11 t60 ⟨show (-2147483648 : Int) ≤ t60.toInt by omega, show t60.toInt ≤ (5 : Int) by omega⟩ (by show (t60.toInt + 2147483648).toNat < n11; omega) _ _ _ hP hD hS (lv_sub hl [0, 1, 2, 3, 4] rfl)
          · skip
            have zc59 : t58.toInt = 1 := by rw [fa_eq, show (1 : Int32).toInt = 1 from by decide] at c59; exact c59
            refine lv_iconst (v := 1) hx hb dX11_wings_40 rfl ?_
            refine lv_iload hx hb dX11_wings_41 (lv_at hl 0 rfl) ?_
            refine lv_ishl hx hb dX11_wings_43 ?_
            refine lv_topi (fun t63 et63 => ?_)
            have zt63 : 1 ≤ t63.toInt ∧ t63.toInt ≤ 32 := by rw [et63]; exact shl1_rng (by omega) (by omega)
            refine lv_goto (tgt := 48) hx hb dX11_wings_44 rfl ?_
            refine lv_istore_n (lv' := [(3, .int t63), (4, .int l4_11), (2, .int r10), (0, .ref y0), (1, .int p1)]) hx hb dX11_wings_48 rfl hl (Nat.le_of_ble_eq_true rfl) rfl (fun ls hl => ?_)
            obtain ⟨t64, et64⟩ : ∃ y : Int32, y = l4_11 + (-1) := ⟨_, rfl⟩
            have rg65 := fb_rng l4_11
            have zt64 : t64.toInt = l4_11.toInt + (-1) := by rw [et64]; exact add_i rfl (by decide) (by omega) (by omega)
            refine lv_iinc (v := t64) (lv' := [(4, .int t64), (3, .int t63), (2, .int r10), (0, .ref y0), (1, .int p1)]) hx hb dX11_wings_49 hl (k := 1) rfl (by rw [et64]; rfl) (by decide) rfl (fun ls hl => ?_)
            refine lv_goto (tgt := 25) hx hb dX11_wings_52 rfl ?_
            have rg66 := fb_rng t64
            exact ih11 t63 t64 ⟨show (-2147483648 : Int) ≤ t64.toInt by omega, show t64.toInt ≤ (5 : Int) by omega⟩ (by show (t64.toInt + 2147483648).toNat < n11; omega) _ _ _ hP hD hS (lv_sub hl [0, 1, 2, 3, 4] rfl)
    exact lp11 _ 0 5 ⟨by decide, by decide⟩ (Nat.lt_succ_self _) _ _ _ hP hD hS (lv_sub hl [0, 1, 2, 3, 4] rfl)
  · skip
    subst g5
    refine lv_if_ne (tgt := 11) hx hb dX11_wings_6 rfl (fun c0 => absurd (by decide) c0) (fun _ => ?_)
    refine lv_iconst (v := (-1)) hx hb dX11_wings_9 rfl ?_
    exact ret (-1) (v, f, w, g) _ _ _ _ _ _ rfl ⟨hM_v, hA_f, hIv, hCf, hRf, rfl, rfl, rfl, rfl, rfl, rfl, rfl, rfl, rfl, rfl, rfl, rfl, rfl, rfl, rfl, rfl, rfl, rfl, rfl, rfl⟩ hP hD hS dX11_wings_10 (Nat.le_refl _) (Nat.le_refl _)
