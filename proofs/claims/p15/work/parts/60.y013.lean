set_option maxHeartbeats 4000000 in
set_option maxRecDepth 100000 in
theorem sY_X11_day_1 (NF : Nat) (l : Launch) (dC : Nat → ClassId) (dI : Nat → Nat → Nat) (cy : Nat → ClassId) (y0 : Nat) (r : Nat → Nat)  (v : Nat → Int32) (f : Nat → Nat → Int32) (w : Int64) (g : Nat → Int64) (hIv : YI v) (hCf : YC f) (hRf : progOK (f 4) (f 5) (v 9).toInt.toNat)  : ctI l (dC, dI) cy yX11_day cX11_day 3 .int 8 214 0 0 ((Nat → Int32) × (Nat → Nat → Int32) × (Int64) × (Nat → Int64)) [.ref y0] (YW cy y0 r v f w g) (fun r u => gsY_X11_day_1 NF v f w g = (r, u) ∧ KV [35, 36] u.1 v ∧ KF [7, 8, 23, 24, 25] u.2.1 f ∧ YI u.1 ∧ YC u.2.1 ∧ progOK (u.2.1 4) (u.2.1 5) (u.1 9).toInt.toNat ∧ u.1 0 = v 0 ∧ u.1 1 = v 1 ∧ u.1 2 = v 2 ∧ u.1 3 = v 3 ∧ u.1 4 = v 4 ∧ u.1 5 = v 5 ∧ u.1 8 = v 8 ∧ u.1 9 = v 9 ∧ u.1 10 = v 10 ∧ u.1 13 = v 13 ∧ u.1 14 = v 14 ∧ u.1 15 = v 15 ∧ u.1 17 = v 17 ∧ u.1 18 = v 18 ∧ u.1 24 = v 24 ∧ u.1 25 = v 25 ∧ u.1 38 = v 38 ∧ u.1 39 = v 39) (fun u => YW cy y0 r u.1 u.2.1 u.2.2.1 u.2.2.2) := by
  refine ctI_of (by decide) (Nat.le_of_ble_eq_true rfl) (fun p e s m below meth c A ls Q hx hb hml hts hown hE hP hD hA hl ret => ?_)
  have hUv : (v 35).toInt + (v 36).toInt ≤ 40 := hIv.2
  have hM_v : KV [35, 36] v v := fun _ _ => rfl
  have hA_f : KF [7, 8, 23, 24, 25] f f := fun _ _ => rfl
  have hown : s.vm.findClass RX11 = some m.cls := hown
  have hS : va_S A s.heap s.heap [] := va_S.rf
  have hl : lv_has ls 3 [(0, .ref y0)] := hl
  refine lv_aload_n hx hb dX11_day_0 rfl (lv_at hl 0 rfl) ?_
  refine va_get (D := (dC, dI)) (ci := 11) (v := .ref (r 59)) (C := RX11) (T := TX11) (N := 79) hx hb hts inB_11 hown hE.1 hP 0 rfl rfl 59 (by decide) (hts _ k_1379) (fun _ h9 => h9) rfl dX11_day_1 ?_
  refine lv_bipush (v := 37) hx hb dX11_day_4 (by decide) ?_
  refine ldI hx hb hE hP 24 rfl (vp_in_nI (n := 37) (by decide) (by decide)) rfl rfl dX11_day_6 ?_
  refine lv_topi (fun t1 et1 => ?_)
  have zt1 : 37 % 39 < 6 ∨ 12 ≤ 37 % 39 ∨ (-1 ≤ t1.toInt ∧ t1.toInt ≤ 5) := by rw [et1]; exact wear_ld hCf.1 (show 37 < 39 by omega)
  refine lv_sipush (v := 999) hx hb dX11_day_7 (by decide) ?_
  refine lv_icmp_ne (tgt := 15) hx hb dX11_day_10 (by decide) (fun c2 => ?_) (fun c2 => ?_)
  · skip
    have zc2 : ¬ (t1.toInt = 999) := by rw [fa_eq, show (999 : Int32).toInt = 999 from by decide] at c2; exact c2
    refine lv_aload_n hx hb dX11_day_15 rfl (lv_at hl 0 rfl) ?_
    refine cbVv (n := 0) (rest := []) hx hb hml hown hts hE hP hD hS hA (sY_X11_act_1 NF l dC dI cy y0 r  v f w g hIv hCf hRf ) k_1787 k_1789 k_77 k_114 k_1790 (by decide +kernel) ⟨Nat.le_of_ble_eq_true rfl, Nat.le_of_ble_eq_true rfl⟩ 0 11 rfl rfl (rfl) hl.1 rfl (Nat.le_of_ble_eq_true rfl) dX11_day_16 (fun u H locs hw hP hD hS => ?_)
    obtain ⟨hG3, hw⟩ := hw
    obtain ⟨v4, f5, w6, g7⟩ := u
    obtain ⟨kV_v4, kF_f5, hIv4, hCf5, hRf5, hk0_v4, hk1_v4, hk2_v4, hk3_v4, hk4_v4, hk5_v4, hk8_v4, hk9_v4, hk10_v4, hk13_v4, hk14_v4, hk15_v4, hk17_v4, hk18_v4, hk24_v4, hk25_v4, hk38_v4, hk39_v4⟩ := hw
    have hM_v4 : KV [35, 36] v4 v := KV.tr kV_v4 hM_v rfl
    have hA_f5 : KF [7, 8, 23, 24, 25] f5 f := KF.tr kF_f5 hA_f rfl
    have hP : va_P (dC, dI) vwCl (YW cy y0 r v4 f5 w6 g7) H := hP
    have hD : va_D A (YW cy y0 r v4 f5 w6 g7) := hD
    have hUv4 : (v4 35).toInt + (v4 36).toInt ≤ 40 := hIv4.2
    have hq9_v4 : v4 9 = (v 9) := hk9_v4
    have zq9_v4 := congrArg Int32.toInt hq9_v4
    refine lv_aload_n hx hb dX11_day_19 rfl (lv_at hl 0 rfl) ?_
    refine cbVi (n := 0) (rest := []) hx hb hml hown hts hE hP hD hS hA (sY_X11_drawRain_1 NF l dC dI cy y0 r  v4 f5 w6 g7 hIv4 hCf5 hRf5 ) k_1791 k_1793 k_78 k_114 k_1794 (by decide +kernel) ⟨Nat.le_of_ble_eq_true rfl, Nat.le_of_ble_eq_true rfl⟩ 0 11 rfl rfl (rfl) hl.1 rfl (Nat.le_of_ble_eq_true rfl) dX11_day_20 (fun r8 u H locs hw hP hD hS => ?_)
    obtain ⟨hG9, hw⟩ := hw
    obtain ⟨v10, f11, w12, g13⟩ := u
    obtain ⟨kV_v10, kF_f11, hIv10, hCf11, hRf11, hk0_v10, hk1_v10, hk2_v10, hk3_v10, hk4_v10, hk5_v10, hk8_v10, hk9_v10, hk10_v10, hk13_v10, hk14_v10, hk15_v10, hk17_v10, hk18_v10, hk24_v10, hk25_v10, hk35_v10, hk36_v10, hk38_v10, hk39_v10, hw⟩ := hw
    have hM_v10 : KV [35, 36] v10 v := KV.tr kV_v10 hM_v4 rfl
    have hA_f11 : KF [7, 8, 23, 24, 25] f11 f := KF.tr kF_f11 hA_f5 rfl
    have hP : va_P (dC, dI) vwCl (YW cy y0 r v10 f11 w12 g13) H := hP
    have hD : va_D A (YW cy y0 r v10 f11 w12 g13) := hD
    have hUv10 : (v10 35).toInt + (v10 36).toInt ≤ 40 := hIv10.2
    have hq9_v10 : v10 9 = (v 9) := hk9_v10.trans hq9_v4
    have zq9_v10 := congrArg Int32.toInt hq9_v10
    rcases hw with ⟨g14⟩ | ⟨g14⟩
    · skip
      subst g14
      refine lv_istore_n (lv' := [(1, .int 1), (0, .ref y0)]) hx hb dX11_day_23 rfl hl (by decide) rfl (fun ls hl => ?_)
      refine lv_aload_n hx hb dX11_day_24 rfl (lv_at hl 1 rfl) ?_
      refine lv_iload_n hx hb dX11_day_25 rfl (lv_at hl 0 rfl) ?_
      refine cbVi (n := 1) (rest := []) hx hb hml hown hts hE hP hD hS hA (sY_X11_goDay_1 NF l dC dI cy y0 r 1 v10 f11 w12 g13 hIv10 hCf11 hRf11 ) k_1795 k_1797 k_79 k_114 k_1798 (by decide +kernel) ⟨Nat.le_of_ble_eq_true rfl, Nat.le_of_ble_eq_true rfl⟩ 0 11 rfl rfl (rfl) hl.1 rfl (Nat.le_of_ble_eq_true rfl) dX11_day_26 (fun r15 u H locs hw hP hD hS => ?_)
      obtain ⟨hG16, hw⟩ := hw
      obtain ⟨v17, f18, w19, g20⟩ := u
      obtain ⟨kV_v17, kF_f18, hIv17, hCf18, hRf18, hk0_v17, hk1_v17, hk2_v17, hk3_v17, hk4_v17, hk5_v17, hk8_v17, hk9_v17, hk10_v17, hk13_v17, hk14_v17, hk15_v17, hk17_v17, hk18_v17, hk24_v17, hk25_v17, hk35_v17, hk36_v17, hk38_v17, hk39_v17⟩ := hw
      have hM_v17 : KV [35, 36] v17 v := KV.tr kV_v17 hM_v10 rfl
      have hA_f18 : KF [7, 8, 23, 24, 25] f18 f := KF.tr kF_f18 hA_f11 rfl
      have hP : va_P (dC, dI) vwCl (YW cy y0 r v17 f18 w19 g20) H := hP
      have hD : va_D A (YW cy y0 r v17 f18 w19 g20) := hD
      have hUv17 : (v17 35).toInt + (v17 36).toInt ≤ 40 := hIv17.2
      have hq9_v17 : v17 9 = (v 9) := hk9_v17.trans hq9_v10
      have zq9_v17 := congrArg Int32.toInt hq9_v17
      refine lv_istore_n (lv' := [(2, .int r15), (1, .int 1), (0, .ref y0)]) hx hb dX11_day_29 rfl hl (by decide) rfl (fun ls hl => ?_)
      refine lv_aload_n hx hb dX11_day_30 rfl (lv_at hl 2 rfl) ?_
      refine cbVv (n := 0) (rest := []) hx hb hml hown hts hE hP hD hS hA (sY_X11_keepAir_1 NF l dC dI cy y0 r  v17 f18 w19 g20 hIv17 hCf18 hRf18 ) k_1720 k_1722 k_69 k_114 k_1723 (by decide +kernel) ⟨Nat.le_of_ble_eq_true rfl, Nat.le_of_ble_eq_true rfl⟩ 0 11 rfl rfl (rfl) hl.1 rfl (Nat.le_of_ble_eq_true rfl) dX11_day_31 (fun u H locs hw hP hD hS => ?_)
      obtain ⟨hG21, hw⟩ := hw
      obtain ⟨v22, f23, w24, g25⟩ := u
      obtain ⟨kV_v22, kF_f23, hIv22, hCf23, hRf23, hk0_v22, hk1_v22, hk2_v22, hk3_v22, hk4_v22, hk5_v22, hk8_v22, hk9_v22, hk10_v22, hk13_v22, hk14_v22, hk15_v22, hk17_v22, hk18_v22, hk24_v22, hk25_v22, hk35_v22, hk36_v22, hk38_v22, hk39_v22⟩ := hw
      have hM_v22 : KV [35, 36] v22 v := KV.tr kV_v22 hM_v17 rfl
      have hA_f23 : KF [7, 8, 23, 24, 25] f23 f := KF.tr kF_f23 hA_f18 rfl
      have hP : va_P (dC, dI) vwCl (YW cy y0 r v22 f23 w24 g25) H := hP
      have hD : va_D A (YW cy y0 r v22 f23 w24 g25) := hD
      have hUv22 : (v22 35).toInt + (v22 36).toInt ≤ 40 := hIv22.2
      have hq9_v22 : v22 9 = (v 9) := hk9_v22.trans hq9_v17
      have zq9_v22 := congrArg Int32.toInt hq9_v22
      refine lv_iload_n hx hb dX11_day_34 rfl (lv_at hl 0 rfl) ?_
      exact ret r15 (v22, f23, w24, g25) _ _ _ _ _ _ rfl ⟨(gsY_X11_day_1_q0 et1 c2 hG3 hG9 hG16 hG21), hM_v22, hA_f23, hIv22, hCf23, hRf23, (hk0_v22.trans (hk0_v17.trans (hk0_v10.trans hk0_v4))), (hk1_v22.trans (hk1_v17.trans (hk1_v10.trans hk1_v4))), (hk2_v22.trans (hk2_v17.trans (hk2_v10.trans hk2_v4))), (hk3_v22.trans (hk3_v17.trans (hk3_v10.trans hk3_v4))), (hk4_v22.trans (hk4_v17.trans (hk4_v10.trans hk4_v4))), (hk5_v22.trans (hk5_v17.trans (hk5_v10.trans hk5_v4))), (hk8_v22.trans (hk8_v17.trans (hk8_v10.trans hk8_v4))), (hk9_v22.trans (hk9_v17.trans (hk9_v10.trans hk9_v4))), (hk10_v22.trans (hk10_v17.trans (hk10_v10.trans hk10_v4))), (hk13_v22.trans (hk13_v17.trans (hk13_v10.trans hk13_v4))), (hk14_v22.trans (hk14_v17.trans (hk14_v10.trans hk14_v4))), (hk15_v22.trans (hk15_v17.trans (hk15_v10.trans hk15_v4))), (hk17_v22.trans (hk17_v17.trans (hk17_v10.trans hk17_v4))), (hk18_v22.trans (hk18_v17.trans (hk18_v10.trans hk18_v4))), (hk24_v22.trans (hk24_v17.trans (hk24_v10.trans hk24_v4))), (hk25_v22.trans (hk25_v17.trans (hk25_v10.trans hk25_v4))), (hk38_v22.trans (hk38_v17.trans (hk38_v10.trans hk38_v4))), (hk39_v22.trans (hk39_v17.trans (hk39_v10.trans hk39_v4)))⟩ hP hD hS dX11_day_35 (Nat.le_refl _) (Nat.le_refl _)
    · skip
      subst g14
      refine lv_istore_n (lv' := [(1, .int 0), (0, .ref y0)]) hx hb dX11_day_23 rfl hl (by decide) rfl (fun ls hl => ?_)
      refine lv_aload_n hx hb dX11_day_24 rfl (lv_at hl 1 rfl) ?_
      refine lv_iload_n hx hb dX11_day_25 rfl (lv_at hl 0 rfl) ?_
      refine cbVi (n := 1) (rest := []) hx hb hml hown hts hE hP hD hS hA (sY_X11_goDay_1 NF l dC dI cy y0 r 0 v10 f11 w12 g13 hIv10 hCf11 hRf11 ) k_1795 k_1797 k_79 k_114 k_1798 (by decide +kernel) ⟨Nat.le_of_ble_eq_true rfl, Nat.le_of_ble_eq_true rfl⟩ 0 11 rfl rfl (rfl) hl.1 rfl (Nat.le_of_ble_eq_true rfl) dX11_day_26 (fun r26 u H locs hw hP hD hS => ?_)
      obtain ⟨hG27, hw⟩ := hw
      obtain ⟨v28, f29, w30, g31⟩ := u
      obtain ⟨kV_v28, kF_f29, hIv28, hCf29, hRf29, hk0_v28, hk1_v28, hk2_v28, hk3_v28, hk4_v28, hk5_v28, hk8_v28, hk9_v28, hk10_v28, hk13_v28, hk14_v28, hk15_v28, hk17_v28, hk18_v28, hk24_v28, hk25_v28, hk35_v28, hk36_v28, hk38_v28, hk39_v28⟩ := hw
      have hM_v28 : KV [35, 36] v28 v := KV.tr kV_v28 hM_v10 rfl
      have hA_f29 : KF [7, 8, 23, 24, 25] f29 f := KF.tr kF_f29 hA_f11 rfl
      have hP : va_P (dC, dI) vwCl (YW cy y0 r v28 f29 w30 g31) H := hP
      have hD : va_D A (YW cy y0 r v28 f29 w30 g31) := hD
      have hUv28 : (v28 35).toInt + (v28 36).toInt ≤ 40 := hIv28.2
      have hq9_v28 : v28 9 = (v 9) := hk9_v28.trans hq9_v10
      have zq9_v28 := congrArg Int32.toInt hq9_v28
      refine lv_istore_n (lv' := [(2, .int r26), (1, .int 0), (0, .ref y0)]) hx hb dX11_day_29 rfl hl (by decide) rfl (fun ls hl => ?_)
      refine lv_aload_n hx hb dX11_day_30 rfl (lv_at hl 2 rfl) ?_
      refine cbVv (n := 0) (rest := []) hx hb hml hown hts hE hP hD hS hA (sY_X11_keepAir_1 NF l dC dI cy y0 r  v28 f29 w30 g31 hIv28 hCf29 hRf29 ) k_1720 k_1722 k_69 k_114 k_1723 (by decide +kernel) ⟨Nat.le_of_ble_eq_true rfl, Nat.le_of_ble_eq_true rfl⟩ 0 11 rfl rfl (rfl) hl.1 rfl (Nat.le_of_ble_eq_true rfl) dX11_day_31 (fun u H locs hw hP hD hS => ?_)
      obtain ⟨hG32, hw⟩ := hw
      obtain ⟨v33, f34, w35, g36⟩ := u
      obtain ⟨kV_v33, kF_f34, hIv33, hCf34, hRf34, hk0_v33, hk1_v33, hk2_v33, hk3_v33, hk4_v33, hk5_v33, hk8_v33, hk9_v33, hk10_v33, hk13_v33, hk14_v33, hk15_v33, hk17_v33, hk18_v33, hk24_v33, hk25_v33, hk35_v33, hk36_v33, hk38_v33, hk39_v33⟩ := hw
      have hM_v33 : KV [35, 36] v33 v := KV.tr kV_v33 hM_v28 rfl
      have hA_f34 : KF [7, 8, 23, 24, 25] f34 f := KF.tr kF_f34 hA_f29 rfl
      have hP : va_P (dC, dI) vwCl (YW cy y0 r v33 f34 w35 g36) H := hP
      have hD : va_D A (YW cy y0 r v33 f34 w35 g36) := hD
      have hUv33 : (v33 35).toInt + (v33 36).toInt ≤ 40 := hIv33.2
      have hq9_v33 : v33 9 = (v 9) := hk9_v33.trans hq9_v28
      have zq9_v33 := congrArg Int32.toInt hq9_v33
      refine lv_iload_n hx hb dX11_day_34 rfl (lv_at hl 0 rfl) ?_
      exact ret r26 (v33, f34, w35, g36) _ _ _ _ _ _ rfl ⟨(gsY_X11_day_1_q1 et1 c2 hG3 hG9 hG27 hG32), hM_v33, hA_f34, hIv33, hCf34, hRf34, (hk0_v33.trans (hk0_v28.trans (hk0_v10.trans hk0_v4))), (hk1_v33.trans (hk1_v28.trans (hk1_v10.trans hk1_v4))), (hk2_v33.trans (hk2_v28.trans (hk2_v10.trans hk2_v4))), (hk3_v33.trans (hk3_v28.trans (hk3_v10.trans hk3_v4))), (hk4_v33.trans (hk4_v28.trans (hk4_v10.trans hk4_v4))), (hk5_v33.trans (hk5_v28.trans (hk5_v10.trans hk5_v4))), (hk8_v33.trans (hk8_v28.trans (hk8_v10.trans hk8_v4))), (hk9_v33.trans (hk9_v28.trans (hk9_v10.trans hk9_v4))), (hk10_v33.trans (hk10_v28.trans (hk10_v10.trans hk10_v4))), (hk13_v33.trans (hk13_v28.trans (hk13_v10.trans hk13_v4))), (hk14_v33.trans (hk14_v28.trans (hk14_v10.trans hk14_v4))), (hk15_v33.trans (hk15_v28.trans (hk15_v10.trans hk15_v4))), (hk17_v33.trans (hk17_v28.trans (hk17_v10.trans hk17_v4))), (hk18_v33.trans (hk18_v28.trans (hk18_v10.trans hk18_v4))), (hk24_v33.trans (hk24_v28.trans (hk24_v10.trans hk24_v4))), (hk25_v33.trans (hk25_v28.trans (hk25_v10.trans hk25_v4))), (hk38_v33.trans (hk38_v28.trans (hk38_v10.trans hk38_v4))), (hk39_v33.trans (hk39_v28.trans (hk39_v10.trans hk39_v4)))⟩ hP hD hS dX11_day_35 (Nat.le_refl _) (Nat.le_refl _)
  · skip
    have zc2 : t1.toInt = 999 := by rw [fa_eq, show (999 : Int32).toInt = 999 from by decide] at c2; exact c2
    refine lv_iconst (v := (-1)) hx hb dX11_day_13 (by decide) ?_
    exact ret (-1) (v, f, w, g) _ _ _ _ _ _ rfl ⟨(gsY_X11_day_1_q2 et1 c2), hM_v, hA_f, hIv, hCf, hRf, rfl, rfl, rfl, rfl, rfl, rfl, rfl, rfl, rfl, rfl, rfl, rfl, rfl, rfl, rfl, rfl, rfl, rfl⟩ hP hD hS dX11_day_14 (Nat.le_refl _) (Nat.le_refl _)
set_option maxHeartbeats 4000000 in
set_option maxRecDepth 100000 in
theorem sY_X11_don_1 (NF : Nat) (l : Launch) (dC : Nat → ClassId) (dI : Nat → Nat → Nat) (cy : Nat → ClassId) (y0 : Nat) (r : Nat → Nat) (p1 : Int32) (p2 : Int32) (v : Nat → Int32) (f : Nat → Nat → Int32) (w : Int64) (g : Nat → Int64) (hIv : YI v) (hCf : YC f) (hRf : progOK (f 4) (f 5) (v 9).toInt.toNat)  : ctI l (dC, dI) cy yX11_don cX11_don 4 .int 3 103 0 0 ((Nat → Int32) × (Nat → Nat → Int32) × (Int64) × (Nat → Int64)) [.ref y0, .int p1, .int p2] (YW cy y0 r v f w g) (fun r u => gsY_X11_don_1 NF p1 p2 v f w g = (r, u) ∧ KV [35, 36] u.1 v ∧ KF [23, 24, 25] u.2.1 f ∧ YI u.1 ∧ YC u.2.1 ∧ progOK (u.2.1 4) (u.2.1 5) (u.1 9).toInt.toNat ∧ u.1 0 = v 0 ∧ u.1 1 = v 1 ∧ u.1 2 = v 2 ∧ u.1 3 = v 3 ∧ u.1 4 = v 4 ∧ u.1 5 = v 5 ∧ u.1 8 = v 8 ∧ u.1 9 = v 9 ∧ u.1 10 = v 10 ∧ u.1 13 = v 13 ∧ u.1 14 = v 14 ∧ u.1 15 = v 15 ∧ u.1 17 = v 17 ∧ u.1 18 = v 18 ∧ u.1 24 = v 24 ∧ u.1 25 = v 25 ∧ u.1 38 = v 38 ∧ u.1 39 = v 39) (fun u => YW cy y0 r u.1 u.2.1 u.2.2.1 u.2.2.2) := by
  refine ctI_of (by decide) (Nat.le_of_ble_eq_true rfl) (fun p e s m below meth c A ls Q hx hb hml hts hown hE hP hD hA hl ret => ?_)
  have hUv : (v 35).toInt + (v 36).toInt ≤ 40 := hIv.2
  have hM_v : KV [35, 36] v v := fun _ _ => rfl
  have hA_f : KF [23, 24, 25] f f := fun _ _ => rfl
  have hown : s.vm.findClass RX11 = some m.cls := hown
  have hS : va_S A s.heap s.heap [] := va_S.rf
  have hl : lv_has ls 4 [(0, .ref y0), (1, .int p1), (2, .int p2)] := hl
  refine lv_aload_n hx hb dX11_don_0 rfl (lv_at hl 0 rfl) ?_
  refine cbVv (n := 0) (rest := []) hx hb hml hown hts hE hP hD hS hA (sY_X11_fill_1 NF l dC dI cy y0 r  v f w g hIv hCf hRf ) k_1739 k_1741 k_71 k_114 k_1742 (by decide +kernel) ⟨Nat.le_of_ble_eq_true rfl, Nat.le_of_ble_eq_true rfl⟩ 0 11 rfl rfl (rfl) hl.1 rfl (Nat.le_of_ble_eq_true rfl) dX11_don_1 (fun u H locs hw hP hD hS => ?_)
  obtain ⟨hG1, hw⟩ := hw
  obtain ⟨v2, f3, w4, g5⟩ := u
  obtain ⟨kV_v2, kF_f3, hIv2, hCf3, hRf3, hk0_v2, hk1_v2, hk2_v2, hk3_v2, hk4_v2, hk5_v2, hk8_v2, hk9_v2, hk10_v2, hk13_v2, hk14_v2, hk15_v2, hk17_v2, hk18_v2, hk24_v2, hk25_v2, hk35_v2, hk36_v2, hk38_v2, hk39_v2⟩ := hw
  have hM_v2 : KV [35, 36] v2 v := KV.tr kV_v2 hM_v rfl
  have hA_f3 : KF [23, 24, 25] f3 f := KF.tr kF_f3 hA_f rfl
  have hP : va_P (dC, dI) vwCl (YW cy y0 r v2 f3 w4 g5) H := hP
  have hD : va_D A (YW cy y0 r v2 f3 w4 g5) := hD
  have hUv2 : (v2 35).toInt + (v2 36).toInt ≤ 40 := hIv2.2
  have hq9_v2 : v2 9 = (v 9) := hk9_v2
  have zq9_v2 := congrArg Int32.toInt hq9_v2
  refine lv_aload_n hx hb dX11_don_4 rfl (lv_at hl 0 rfl) ?_
  refine lv_iload_n hx hb dX11_don_5 rfl (lv_at hl 1 rfl) ?_
  refine cbVi (n := 1) (rest := []) hx hb hml hown hts hE hP hD hS hA (sY_X11_isMan_1 NF l dC dI cy y0 r p1 v2 f3 w4 g5 hIv2 hCf3 hRf3 ) k_1732 k_1734 k_70 k_114 k_1735 (by decide +kernel) ⟨Nat.le_of_ble_eq_true rfl, Nat.le_of_ble_eq_true rfl⟩ 0 11 rfl rfl (rfl) hl.1 rfl (Nat.le_of_ble_eq_true rfl) dX11_don_6 (fun r6 u H locs hw hP hD hS => ?_)
  obtain ⟨hG7, hw⟩ := hw
  rcases hw with ⟨g8, g8_0, g8_1, g8_2⟩ | ⟨g8⟩
  · skip
    subst g8
    refine lv_if_eq (tgt := 28) hx hb dX11_don_9 (by decide) (fun c0 => absurd c0 (by decide)) (fun _ => ?_)
    refine lv_aload_n hx hb dX11_don_12 rfl (lv_at hl 0 rfl) ?_
    refine lv_iload_n hx hb dX11_don_13 rfl (lv_at hl 2 rfl) ?_
    refine cbVi (n := 1) (rest := []) hx hb hml hown hts hE hP hD hS hA (sY_X11_isCoat_1 NF l dC dI cy y0 r p2 v2 f3 w4 g5 hIv2 hCf3 hRf3 ) k_1771 k_1773 k_75 k_114 k_1774 (by decide +kernel) ⟨Nat.le_of_ble_eq_true rfl, Nat.le_of_ble_eq_true rfl⟩ 0 11 rfl rfl (rfl) hl.1 rfl (Nat.le_of_ble_eq_true rfl) dX11_don_14 (fun r9 u H locs hw hP hD hS => ?_)
    obtain ⟨hG10, hw⟩ := hw
    rcases hw with ⟨g11, g11_0, g11_1, g11_2⟩ | ⟨g11⟩
    · skip
      subst g11
      refine lv_if_eq (tgt := 28) hx hb dX11_don_17 (by decide) (fun c0 => absurd c0 (by decide)) (fun _ => ?_)
      refine lv_aload_n hx hb dX11_don_20 rfl (lv_at hl 0 rfl) ?_
      refine lv_iload_n hx hb dX11_don_21 rfl (lv_at hl 2 rfl) ?_
      refine cbVi (n := 1) (rest := []) hx hb hml hown hts hE hP hD hS hA (sY_X11_wearer_1 NF l dC dI cy y0 r p2 v2 f3 w4 g5 hIv2 hCf3 hRf3 ) k_1775 k_1777 k_76 k_114 k_1778 (by decide +kernel) ⟨Nat.le_of_ble_eq_true rfl, Nat.le_of_ble_eq_true rfl⟩ 0 11 rfl rfl (rfl) hl.1 rfl (Nat.le_of_ble_eq_true rfl) dX11_don_22 (fun r12 u H locs hw hP hD hS => ?_)
      have hG13 := hw
      refine lv_if_lt (tgt := 31) hx hb dX11_don_25 (by decide) (fun c14 => ?_) (fun c14 => ?_)
      · skip
        have zc14 : r12.toInt < 0 := by rw [fa_lt, show (0 : Int32).toInt = 0 from by decide] at c14; exact c14
        refine lv_aload_n hx hb dX11_don_31 rfl (lv_at hl 0 rfl) ?_
        refine cbVv (n := 0) (rest := []) hx hb hml hown hts hE hP hD hS hA (sY_X11_act_1 NF l dC dI cy y0 r  v2 f3 w4 g5 hIv2 hCf3 hRf3 ) k_1787 k_1789 k_77 k_114 k_1790 (by decide +kernel) ⟨Nat.le_of_ble_eq_true rfl, Nat.le_of_ble_eq_true rfl⟩ 0 11 rfl rfl (rfl) hl.1 rfl (Nat.le_of_ble_eq_true rfl) dX11_don_32 (fun u H locs hw hP hD hS => ?_)
        obtain ⟨hG15, hw⟩ := hw
        obtain ⟨v16, f17, w18, g19⟩ := u
        obtain ⟨kV_v16, kF_f17, hIv16, hCf17, hRf17, hk0_v16, hk1_v16, hk2_v16, hk3_v16, hk4_v16, hk5_v16, hk8_v16, hk9_v16, hk10_v16, hk13_v16, hk14_v16, hk15_v16, hk17_v16, hk18_v16, hk24_v16, hk25_v16, hk38_v16, hk39_v16⟩ := hw
        have hM_v16 : KV [35, 36] v16 v := KV.tr kV_v16 hM_v2 rfl
        have hA_f17 : KF [23, 24, 25] f17 f := KF.tr kF_f17 hA_f3 rfl
        have hP : va_P (dC, dI) vwCl (YW cy y0 r v16 f17 w18 g19) H := hP
        have hD : va_D A (YW cy y0 r v16 f17 w18 g19) := hD
        have hUv16 : (v16 35).toInt + (v16 36).toInt ≤ 40 := hIv16.2
        have hq9_v16 : v16 9 = (v 9) := hk9_v16.trans hq9_v2
        have zq9_v16 := congrArg Int32.toInt hq9_v16
        refine lv_aload_n hx hb dX11_don_35 rfl (lv_at hl 0 rfl) ?_
        refine va_get (D := (dC, dI)) (ci := 11) (v := .ref (r 59)) (C := RX11) (T := TX11) (N := 79) hx hb hts inB_11 hown hE.1 hP 0 rfl rfl 59 (by decide) (hts _ k_1379) (fun _ h9 => h9) rfl dX11_don_36 ?_
        refine lv_bipush (v := 6) hx hb dX11_don_39 (by decide) ?_
        refine lv_iload_n hx hb dX11_don_41 rfl (lv_at hl 1 rfl) ?_
        refine lv_iadd hx hb dX11_don_42 ?_
        refine lv_topi (fun t20 et20 => ?_)
        have rg21 := fb_rng p1
        have zt20 : t20.toInt = 6 + p1.toInt := by rw [et20]; exact add_i (by decide) rfl (by omega) (by omega)
        refine ldI hx hb hE hP 24 rfl (vp_in_iff.mpr ⟨by omega, by omega⟩) rfl rfl dX11_don_43 ?_
        refine lv_topi (fun t22 et22 => ?_)
        have zt22 : t20.toInt.toNat % 39 < 6 ∨ 12 ≤ t20.toInt.toNat % 39 ∨ (-1 ≤ t22.toInt ∧ t22.toInt ≤ 5) := by rw [et22]; exact wear_ld hCf17.1 (show t20.toInt.toNat < 39 by omega)
        refine lv_istore_n (lv' := [(3, .int t22), (0, .ref y0), (1, .int p1), (2, .int p2)]) hx hb dX11_don_44 rfl hl (by decide) rfl (fun ls hl => ?_)
        refine lv_aload_n hx hb dX11_don_45 rfl (lv_at hl 1 rfl) ?_
        refine va_get (D := (dC, dI)) (ci := 11) (v := .ref (r 59)) (C := RX11) (T := TX11) (N := 79) hx hb hts inB_11 hown hE.1 hP 0 rfl rfl 59 (by decide) (hts _ k_1379) (fun _ h9 => h9) rfl dX11_don_46 ?_
        refine lv_bipush (v := 6) hx hb dX11_don_49 (by decide) ?_
        refine lv_iload_n hx hb dX11_don_51 rfl (lv_at hl 2 rfl) ?_
        refine lv_iadd hx hb dX11_don_52 ?_
        refine tI (y := t20) et20.symm ?_
        refine lv_iload_n hx hb dX11_don_53 rfl (lv_at hl 3 rfl) ?_
        refine stI hx hb hE hP hD hS 24 rfl (vp_in_iff.mpr ⟨by omega, by omega⟩) rfl dX11_don_54 (fun H locs hP hD hS => ?_)
        obtain ⟨f23, ef23, hP, hD⟩ : ∃ fz9, fz9 = upd2 f17 23 (upd (f17 23) t20.toNatClampNeg p2) ∧ va_P (dC, dI) vwCl (YW cy y0 r v16 fz9 w18 g19) H ∧ va_D A (YW cy y0 r v16 fz9 w18 g19) := ⟨_, rfl, hP, hD⟩
        have hCf23 : YC f23 := by rw [ef23]; exact ⟨(wear_st hCf17.1 (by show t20.toInt.toNat % 39 < 6 ∨ 12 ≤ t20.toInt.toNat % 39 ∨ (-1 ≤ p2.toInt ∧ p2.toInt ≤ 5); omega)), hCf17.2.1, hCf17.2.2.1, hCf17.2.2.2.1, hCf17.2.2.2.2.1, hCf17.2.2.2.2.2⟩
        have hRf23 : progOK (f23 4) (f23 5) (v16 9).toInt.toNat := by rw [ef23]; exact hRf17
        have hA_f23 : KF [23, 24, 25] f23 f := by rw [ef23]; exact KF.up hA_f17 rfl
        refine lv_iload_n hx hb dX11_don_55 rfl (lv_at hl 0 rfl) ?_
        exact ret t22 (v16, f23, w18, g19) _ _ _ _ _ _ rfl ⟨(gsY_X11_don_1_q0 hG1 hG7 hG10 hG13.symm c14 hG15 et20 et22 ef23), hM_v16, hA_f23, hIv16, hCf23, hRf23, (hk0_v16.trans hk0_v2), (hk1_v16.trans hk1_v2), (hk2_v16.trans hk2_v2), (hk3_v16.trans hk3_v2), (hk4_v16.trans hk4_v2), (hk5_v16.trans hk5_v2), (hk8_v16.trans hk8_v2), (hk9_v16.trans hk9_v2), (hk10_v16.trans hk10_v2), (hk13_v16.trans hk13_v2), (hk14_v16.trans hk14_v2), (hk15_v16.trans hk15_v2), (hk17_v16.trans hk17_v2), (hk18_v16.trans hk18_v2), (hk24_v16.trans hk24_v2), (hk25_v16.trans hk25_v2), (hk38_v16.trans hk38_v2), (hk39_v16.trans hk39_v2)⟩ hP hD hS dX11_don_56 (Nat.le_refl _) (Nat.le_refl _)
      · skip
        have zc14 : ¬ (r12.toInt < 0) := by rw [fa_lt, show (0 : Int32).toInt = 0 from by decide] at c14; exact c14
        refine lv_bipush (v := (-2)) hx hb dX11_don_28 (by decide) ?_
        exact ret (-2) (v2, f3, w4, g5) _ _ _ _ _ _ rfl ⟨(gsY_X11_don_1_q1 hG1 hG7 hG10 hG13.symm c14), hM_v2, hA_f3, hIv2, hCf3, hRf3, hk0_v2, hk1_v2, hk2_v2, hk3_v2, hk4_v2, hk5_v2, hk8_v2, hk9_v2, hk10_v2, hk13_v2, hk14_v2, hk15_v2, hk17_v2, hk18_v2, hk24_v2, hk25_v2, hk38_v2, hk39_v2⟩ hP hD hS dX11_don_30 (Nat.le_refl _) (Nat.le_refl _)
    · skip
      subst g11
      refine lv_if_eq (tgt := 28) hx hb dX11_don_17 (by decide) (fun _ => ?_) (fun c0 => absurd (by decide) c0)
      refine lv_bipush (v := (-2)) hx hb dX11_don_28 (by decide) ?_
      exact ret (-2) (v2, f3, w4, g5) _ _ _ _ _ _ rfl ⟨(gsY_X11_don_1_q2 hG1 hG7 hG10), hM_v2, hA_f3, hIv2, hCf3, hRf3, hk0_v2, hk1_v2, hk2_v2, hk3_v2, hk4_v2, hk5_v2, hk8_v2, hk9_v2, hk10_v2, hk13_v2, hk14_v2, hk15_v2, hk17_v2, hk18_v2, hk24_v2, hk25_v2, hk38_v2, hk39_v2⟩ hP hD hS dX11_don_30 (Nat.le_refl _) (Nat.le_refl _)
  · skip
    subst g8
    refine lv_if_eq (tgt := 28) hx hb dX11_don_9 (by decide) (fun _ => ?_) (fun c0 => absurd (by decide) c0)
    refine lv_bipush (v := (-2)) hx hb dX11_don_28 (by decide) ?_
    exact ret (-2) (v2, f3, w4, g5) _ _ _ _ _ _ rfl ⟨(gsY_X11_don_1_q3 hG1 hG7), hM_v2, hA_f3, hIv2, hCf3, hRf3, hk0_v2, hk1_v2, hk2_v2, hk3_v2, hk4_v2, hk5_v2, hk8_v2, hk9_v2, hk10_v2, hk13_v2, hk14_v2, hk15_v2, hk17_v2, hk18_v2, hk24_v2, hk25_v2, hk38_v2, hk39_v2⟩ hP hD hS dX11_don_30 (Nat.le_refl _) (Nat.le_refl _)
set_option maxHeartbeats 4000000 in
set_option maxRecDepth 100000 in
theorem sY_X11_doff_1 (NF : Nat) (l : Launch) (dC : Nat → ClassId) (dI : Nat → Nat → Nat) (cy : Nat → ClassId) (y0 : Nat) (r : Nat → Nat) (p1 : Int32) (v : Nat → Int32) (f : Nat → Nat → Int32) (w : Int64) (g : Nat → Int64) (hIv : YI v) (hCf : YC f) (hRf : progOK (f 4) (f 5) (v 9).toInt.toNat)  : ctI l (dC, dI) cy yX11_doff cX11_doff 3 .int 3 103 0 0 ((Nat → Int32) × (Nat → Nat → Int32) × (Int64) × (Nat → Int64)) [.ref y0, .int p1] (YW cy y0 r v f w g) (fun r u => gsY_X11_doff_1 NF p1 v f w g = (r, u) ∧ KV [35, 36] u.1 v ∧ KF [23, 24, 25] u.2.1 f ∧ YI u.1 ∧ YC u.2.1 ∧ progOK (u.2.1 4) (u.2.1 5) (u.1 9).toInt.toNat ∧ u.1 0 = v 0 ∧ u.1 1 = v 1 ∧ u.1 2 = v 2 ∧ u.1 3 = v 3 ∧ u.1 4 = v 4 ∧ u.1 5 = v 5 ∧ u.1 8 = v 8 ∧ u.1 9 = v 9 ∧ u.1 10 = v 10 ∧ u.1 13 = v 13 ∧ u.1 14 = v 14 ∧ u.1 15 = v 15 ∧ u.1 17 = v 17 ∧ u.1 18 = v 18 ∧ u.1 24 = v 24 ∧ u.1 25 = v 25 ∧ u.1 38 = v 38 ∧ u.1 39 = v 39) (fun u => YW cy y0 r u.1 u.2.1 u.2.2.1 u.2.2.2) := by
  refine ctI_of (by decide) (Nat.le_of_ble_eq_true rfl) (fun p e s m below meth c A ls Q hx hb hml hts hown hE hP hD hA hl ret => ?_)
  have hUv : (v 35).toInt + (v 36).toInt ≤ 40 := hIv.2
  have hM_v : KV [35, 36] v v := fun _ _ => rfl
  have hA_f : KF [23, 24, 25] f f := fun _ _ => rfl
  have hown : s.vm.findClass RX11 = some m.cls := hown
  have hS : va_S A s.heap s.heap [] := va_S.rf
  have hl : lv_has ls 3 [(0, .ref y0), (1, .int p1)] := hl
  refine lv_aload_n hx hb dX11_doff_0 rfl (lv_at hl 0 rfl) ?_
  refine lv_iload_n hx hb dX11_doff_1 rfl (lv_at hl 1 rfl) ?_
  refine cbVi (n := 1) (rest := []) hx hb hml hown hts hE hP hD hS hA (sY_X11_isMan_1 NF l dC dI cy y0 r p1 v f w g hIv hCf hRf ) k_1732 k_1734 k_70 k_114 k_1735 (by decide +kernel) ⟨Nat.le_of_ble_eq_true rfl, Nat.le_of_ble_eq_true rfl⟩ 0 11 rfl rfl (rfl) hl.1 rfl (Nat.le_of_ble_eq_true rfl) dX11_doff_2 (fun r1 u H locs hw hP hD hS => ?_)
  obtain ⟨hG2, hw⟩ := hw
  rcases hw with ⟨g3, g3_0, g3_1, g3_2⟩ | ⟨g3⟩
  · skip
    subst g3
    refine lv_if_eq (tgt := 20) hx hb dX11_doff_5 (by decide) (fun c0 => absurd c0 (by decide)) (fun _ => ?_)
    refine lv_aload_n hx hb dX11_doff_8 rfl (lv_at hl 0 rfl) ?_
    refine va_get (D := (dC, dI)) (ci := 11) (v := .ref (r 59)) (C := RX11) (T := TX11) (N := 79) hx hb hts inB_11 hown hE.1 hP 0 rfl rfl 59 (by decide) (hts _ k_1379) (fun _ h9 => h9) rfl dX11_doff_9 ?_
    refine lv_bipush (v := 6) hx hb dX11_doff_12 (by decide) ?_
    refine lv_iload_n hx hb dX11_doff_14 rfl (lv_at hl 1 rfl) ?_
    refine lv_iadd hx hb dX11_doff_15 ?_
    refine lv_topi (fun t4 et4 => ?_)
    have rg5 := fb_rng p1
    have zt4 : t4.toInt = 6 + p1.toInt := by rw [et4]; exact add_i (by decide) rfl (by omega) (by omega)
    refine ldI hx hb hE hP 24 rfl (vp_in_iff.mpr ⟨by omega, by omega⟩) rfl rfl dX11_doff_16 ?_
    refine lv_topi (fun t6 et6 => ?_)
    have zt6 : t4.toInt.toNat % 39 < 6 ∨ 12 ≤ t4.toInt.toNat % 39 ∨ (-1 ≤ t6.toInt ∧ t6.toInt ≤ 5) := by rw [et6]; exact wear_ld hCf.1 (show t4.toInt.toNat < 39 by omega)
    refine lv_if_ge (tgt := 22) hx hb dX11_doff_17 (by decide) (fun c7 => ?_) (fun c7 => ?_)
    · skip
      have zc7 : 0 ≤ t6.toInt := by rw [fa_le, show (0 : Int32).toInt = 0 from by decide] at c7; exact c7
      refine lv_aload_n hx hb dX11_doff_22 rfl (lv_at hl 0 rfl) ?_
      refine cbVv (n := 0) (rest := []) hx hb hml hown hts hE hP hD hS hA (sY_X11_act_1 NF l dC dI cy y0 r  v f w g hIv hCf hRf ) k_1787 k_1789 k_77 k_114 k_1790 (by decide +kernel) ⟨Nat.le_of_ble_eq_true rfl, Nat.le_of_ble_eq_true rfl⟩ 0 11 rfl rfl (rfl) hl.1 rfl (Nat.le_of_ble_eq_true rfl) dX11_doff_23 (fun u H locs hw hP hD hS => ?_)
      obtain ⟨hG8, hw⟩ := hw
      obtain ⟨v9, f10, w11, g12⟩ := u
      obtain ⟨kV_v9, kF_f10, hIv9, hCf10, hRf10, hk0_v9, hk1_v9, hk2_v9, hk3_v9, hk4_v9, hk5_v9, hk8_v9, hk9_v9, hk10_v9, hk13_v9, hk14_v9, hk15_v9, hk17_v9, hk18_v9, hk24_v9, hk25_v9, hk38_v9, hk39_v9⟩ := hw
      have hM_v9 : KV [35, 36] v9 v := KV.tr kV_v9 hM_v rfl
      have hA_f10 : KF [23, 24, 25] f10 f := KF.tr kF_f10 hA_f rfl
      have hP : va_P (dC, dI) vwCl (YW cy y0 r v9 f10 w11 g12) H := hP
      have hD : va_D A (YW cy y0 r v9 f10 w11 g12) := hD
      have hUv9 : (v9 35).toInt + (v9 36).toInt ≤ 40 := hIv9.2
      have hq9_v9 : v9 9 = (v 9) := hk9_v9
      have zq9_v9 := congrArg Int32.toInt hq9_v9
      refine lv_aload_n hx hb dX11_doff_26 rfl (lv_at hl 0 rfl) ?_
      refine va_get (D := (dC, dI)) (ci := 11) (v := .ref (r 59)) (C := RX11) (T := TX11) (N := 79) hx hb hts inB_11 hown hE.1 hP 0 rfl rfl 59 (by decide) (hts _ k_1379) (fun _ h9 => h9) rfl dX11_doff_27 ?_
      refine lv_bipush (v := 6) hx hb dX11_doff_30 (by decide) ?_
      refine lv_iload_n hx hb dX11_doff_32 rfl (lv_at hl 1 rfl) ?_
      refine lv_iadd hx hb dX11_doff_33 ?_
      refine tI (y := t4) et4.symm ?_
      refine ldI hx hb hE hP 24 rfl (vp_in_iff.mpr ⟨by omega, by omega⟩) rfl rfl dX11_doff_34 ?_
      refine lv_topi (fun t13 et13 => ?_)
      have zt13 : t4.toInt.toNat % 39 < 6 ∨ 12 ≤ t4.toInt.toNat % 39 ∨ (-1 ≤ t13.toInt ∧ t13.toInt ≤ 5) := by rw [et13]; exact wear_ld hCf10.1 (show t4.toInt.toNat < 39 by omega)
      refine lv_istore_n (lv' := [(2, .int t13), (0, .ref y0), (1, .int p1)]) hx hb dX11_doff_35 rfl hl (by decide) rfl (fun ls hl => ?_)
      refine lv_aload_n hx hb dX11_doff_36 rfl (lv_at hl 1 rfl) ?_
      refine va_get (D := (dC, dI)) (ci := 11) (v := .ref (r 59)) (C := RX11) (T := TX11) (N := 79) hx hb hts inB_11 hown hE.1 hP 0 rfl rfl 59 (by decide) (hts _ k_1379) (fun _ h9 => h9) rfl dX11_doff_37 ?_
      refine lv_bipush (v := 6) hx hb dX11_doff_40 (by decide) ?_
      refine lv_iload_n hx hb dX11_doff_42 rfl (lv_at hl 2 rfl) ?_
      refine lv_iadd hx hb dX11_doff_43 ?_
      refine tI (y := t4) et4.symm ?_
      refine lv_iconst (v := (-1)) hx hb dX11_doff_44 (by decide) ?_
      refine stI hx hb hE hP hD hS 24 rfl (vp_in_iff.mpr ⟨by omega, by omega⟩) rfl dX11_doff_45 (fun H locs hP hD hS => ?_)
      obtain ⟨f14, ef14, hP, hD⟩ : ∃ fz9, fz9 = upd2 f10 23 (upd (f10 23) t4.toNatClampNeg (-1)) ∧ va_P (dC, dI) vwCl (YW cy y0 r v9 fz9 w11 g12) H ∧ va_D A (YW cy y0 r v9 fz9 w11 g12) := ⟨_, rfl, hP, hD⟩
      have hCf14 : YC f14 := by rw [ef14]; exact ⟨(wear_st hCf10.1 (by have q9 : ((-1) : Int32).toInt = -1 := (by decide); show t4.toInt.toNat % 39 < 6 ∨ 12 ≤ t4.toInt.toNat % 39 ∨ (-1 ≤ ((-1) : Int32).toInt ∧ ((-1) : Int32).toInt ≤ 5); omega)), hCf10.2.1, hCf10.2.2.1, hCf10.2.2.2.1, hCf10.2.2.2.2.1, hCf10.2.2.2.2.2⟩
      have hRf14 : progOK (f14 4) (f14 5) (v9 9).toInt.toNat := by rw [ef14]; exact hRf10
      have hA_f14 : KF [23, 24, 25] f14 f := by rw [ef14]; exact KF.up hA_f10 rfl
      refine lv_iload_n hx hb dX11_doff_46 rfl (lv_at hl 0 rfl) ?_
      exact ret t13 (v9, f14, w11, g12) _ _ _ _ _ _ rfl ⟨(gsY_X11_doff_1_q0 hG2 et4 et6 c7 hG8 et13 ef14), hM_v9, hA_f14, hIv9, hCf14, hRf14, hk0_v9, hk1_v9, hk2_v9, hk3_v9, hk4_v9, hk5_v9, hk8_v9, hk9_v9, hk10_v9, hk13_v9, hk14_v9, hk15_v9, hk17_v9, hk18_v9, hk24_v9, hk25_v9, hk38_v9, hk39_v9⟩ hP hD hS dX11_doff_47 (Nat.le_refl _) (Nat.le_refl _)
    · skip
      have zc7 : ¬ (0 ≤ t6.toInt) := by rw [fa_le, show (0 : Int32).toInt = 0 from by decide] at c7; exact c7
      refine lv_iconst (v := (-1)) hx hb dX11_doff_20 (by decide) ?_
      exact ret (-1) (v, f, w, g) _ _ _ _ _ _ rfl ⟨(gsY_X11_doff_1_q1 hG2 et4 et6 c7), hM_v, hA_f, hIv, hCf, hRf, rfl, rfl, rfl, rfl, rfl, rfl, rfl, rfl, rfl, rfl, rfl, rfl, rfl, rfl, rfl, rfl, rfl, rfl⟩ hP hD hS dX11_doff_21 (Nat.le_refl _) (Nat.le_refl _)
  · skip
    subst g3
    refine lv_if_eq (tgt := 20) hx hb dX11_doff_5 (by decide) (fun _ => ?_) (fun c0 => absurd (by decide) c0)
    refine lv_iconst (v := (-1)) hx hb dX11_doff_20 (by decide) ?_
    exact ret (-1) (v, f, w, g) _ _ _ _ _ _ rfl ⟨(gsY_X11_doff_1_q2 hG2), hM_v, hA_f, hIv, hCf, hRf, rfl, rfl, rfl, rfl, rfl, rfl, rfl, rfl, rfl, rfl, rfl, rfl, rfl, rfl, rfl, rfl, rfl, rfl⟩ hP hD hS dX11_doff_21 (Nat.le_refl _) (Nat.le_refl _)
set_option maxHeartbeats 4000000 in
set_option maxRecDepth 100000 in
theorem sY_X11_letout_1 (NF : Nat) (l : Launch) (dC : Nat → ClassId) (dI : Nat → Nat → Nat) (cy : Nat → ClassId) (y0 : Nat) (r : Nat → Nat) (p1 : Int32) (p2 : Int32) (v : Nat → Int32) (f : Nat → Nat → Int32) (w : Int64) (g : Nat → Int64) (hIv : YI v) (hCf : YC f) (hRf : progOK (f 4) (f 5) (v 9).toInt.toNat)  : ctI l (dC, dI) cy yX11_letout cX11_letout 3 .int 3 103 0 0 ((Nat → Int32) × (Nat → Nat → Int32) × (Int64) × (Nat → Int64)) [.ref y0, .int p1, .int p2] (YW cy y0 r v f w g) (fun r u => gsY_X11_letout_1 NF p1 p2 v f w g = (r, u) ∧ KV [35, 36] u.1 v ∧ KF [23, 24, 25] u.2.1 f ∧ YI u.1 ∧ YC u.2.1 ∧ progOK (u.2.1 4) (u.2.1 5) (u.1 9).toInt.toNat ∧ u.1 0 = v 0 ∧ u.1 1 = v 1 ∧ u.1 2 = v 2 ∧ u.1 3 = v 3 ∧ u.1 4 = v 4 ∧ u.1 5 = v 5 ∧ u.1 8 = v 8 ∧ u.1 9 = v 9 ∧ u.1 10 = v 10 ∧ u.1 13 = v 13 ∧ u.1 14 = v 14 ∧ u.1 15 = v 15 ∧ u.1 17 = v 17 ∧ u.1 18 = v 18 ∧ u.1 24 = v 24 ∧ u.1 25 = v 25 ∧ u.1 38 = v 38 ∧ u.1 39 = v 39) (fun u => YW cy y0 r u.1 u.2.1 u.2.2.1 u.2.2.2) := by
  refine ctI_of (by decide) (Nat.le_of_ble_eq_true rfl) (fun p e s m below meth c A ls Q hx hb hml hts hown hE hP hD hA hl ret => ?_)
  have hUv : (v 35).toInt + (v 36).toInt ≤ 40 := hIv.2
  have hM_v : KV [35, 36] v v := fun _ _ => rfl
  have hA_f : KF [23, 24, 25] f f := fun _ _ => rfl
  have hown : s.vm.findClass RX11 = some m.cls := hown
  have hS : va_S A s.heap s.heap [] := va_S.rf
  have hl : lv_has ls 3 [(0, .ref y0), (1, .int p1), (2, .int p2)] := hl
  refine lv_aload_n hx hb dX11_letout_0 rfl (lv_at hl 0 rfl) ?_
  refine lv_iload_n hx hb dX11_letout_1 rfl (lv_at hl 1 rfl) ?_
  refine cbVi (n := 1) (rest := []) hx hb hml hown hts hE hP hD hS hA (sY_X11_isCoat_1 NF l dC dI cy y0 r p1 v f w g hIv hCf hRf ) k_1771 k_1773 k_75 k_114 k_1774 (by decide +kernel) ⟨Nat.le_of_ble_eq_true rfl, Nat.le_of_ble_eq_true rfl⟩ 0 11 rfl rfl (rfl) hl.1 rfl (Nat.le_of_ble_eq_true rfl) dX11_letout_2 (fun r1 u H locs hw hP hD hS => ?_)
  obtain ⟨hG2, hw⟩ := hw
  rcases hw with ⟨g3, g3_0, g3_1, g3_2⟩ | ⟨g3⟩
  · skip
    subst g3
    refine lv_if_eq (tgt := 41) hx hb dX11_letout_5 (by decide) (fun c0 => absurd c0 (by decide)) (fun _ => ?_)
    refine lv_iload_n hx hb dX11_letout_8 rfl (lv_at hl 2 rfl) ?_
    refine lv_iconst (v := 1) hx hb dX11_letout_9 (by decide) ?_
    refine lv_aload_n hx hb dX11_letout_10 rfl (lv_at hl 0 rfl) ?_
    refine va_get (D := (dC, dI)) (ci := 11) (v := .ref (r 59)) (C := RX11) (T := TX11) (N := 79) hx hb hts inB_11 hown hE.1 hP 0 rfl rfl 59 (by decide) (hts _ k_1379) (fun _ h9 => h9) rfl dX11_letout_11 ?_
    refine lv_bipush (v := 24) hx hb dX11_letout_14 (by decide) ?_
    refine lv_iload_n hx hb dX11_letout_16 rfl (lv_at hl 1 rfl) ?_
    refine lv_iadd hx hb dX11_letout_17 ?_
    refine lv_topi (fun t4 et4 => ?_)
    have rg5 := fb_rng p1
    have zt4 : t4.toInt = 24 + p1.toInt := by rw [et4]; exact add_i (by decide) rfl (by omega) (by omega)
    refine ldI hx hb hE hP 24 rfl (vp_in_iff.mpr ⟨by omega, by omega⟩) rfl rfl dX11_letout_18 ?_
    refine lv_topi (fun t6 et6 => ?_)
    have zt6 : t4.toInt.toNat % 39 < 6 ∨ 12 ≤ t4.toInt.toNat % 39 ∨ (-1 ≤ t6.toInt ∧ t6.toInt ≤ 5) := by rw [et6]; exact wear_ld hCf.1 (show t4.toInt.toNat < 39 by omega)
    have lt7 : (1 : Int32).toInt = 1 := by decide
    refine cbSi (n := 3) (rest := []) hx hb hml hown hts hE hP hD hS hA (sY_X11_isIn_1 NF l dC dI cy y0 r p2 1 t6 v f w g hIv hCf hRf ) k_1736 k_1737 k_114 k_1738 (by decide +kernel) ⟨Nat.le_of_ble_eq_true rfl, Nat.le_of_ble_eq_true rfl⟩ (rfl) hl.1 rfl (Nat.le_of_ble_eq_true rfl) dX11_letout_19 (fun r8 u H locs hw hP hD hS => ?_)
    obtain ⟨hG9, hw⟩ := hw
    rcases hw with ⟨g10, g10_0, g10_1⟩ | ⟨g10⟩
    · skip
      subst g10
      refine lv_if_eq (tgt := 41) hx hb dX11_letout_22 (by decide) (fun c0 => absurd c0 (by decide)) (fun _ => ?_)
      refine lv_aload_n hx hb dX11_letout_25 rfl (lv_at hl 0 rfl) ?_
      refine va_get (D := (dC, dI)) (ci := 11) (v := .ref (r 59)) (C := RX11) (T := TX11) (N := 79) hx hb hts inB_11 hown hE.1 hP 0 rfl rfl 59 (by decide) (hts _ k_1379) (fun _ h9 => h9) rfl dX11_letout_26 ?_
      refine lv_bipush (v := 18) hx hb dX11_letout_29 (by decide) ?_
      refine lv_iload_n hx hb dX11_letout_31 rfl (lv_at hl 1 rfl) ?_
      refine lv_iadd hx hb dX11_letout_32 ?_
      refine lv_topi (fun t11 et11 => ?_)
      have zt11 : t11.toInt = 18 + p1.toInt := by rw [et11]; exact add_i (by decide) rfl (by omega) (by omega)
      refine ldI hx hb hE hP 24 rfl (vp_in_iff.mpr ⟨by omega, by omega⟩) rfl rfl dX11_letout_33 ?_
      refine lv_topi (fun t12 et12 => ?_)
      have zt12 : t11.toInt.toNat % 39 < 6 ∨ 12 ≤ t11.toInt.toNat % 39 ∨ (-1 ≤ t12.toInt ∧ t12.toInt ≤ 5) := by rw [et12]; exact wear_ld hCf.1 (show t11.toInt.toNat < 39 by omega)
      refine lv_iload_n hx hb dX11_letout_34 rfl (lv_at hl 2 rfl) ?_
      refine lv_iadd hx hb dX11_letout_35 ?_
      refine lv_topi (fun t13 et13 => ?_)
      refine lv_bipush (v := 99) hx hb dX11_letout_36 (by decide) ?_
      refine lv_icmp_le (tgt := 43) hx hb dX11_letout_38 (by decide) (fun c14 => ?_) (fun c14 => ?_)
      · skip
        have zc14 : t13.toInt ≤ 99 := by rw [fa_le, show (99 : Int32).toInt = 99 from by decide] at c14; exact c14
        refine lv_aload_n hx hb dX11_letout_43 rfl (lv_at hl 0 rfl) ?_
        refine cbVv (n := 0) (rest := []) hx hb hml hown hts hE hP hD hS hA (sY_X11_act_1 NF l dC dI cy y0 r  v f w g hIv hCf hRf ) k_1787 k_1789 k_77 k_114 k_1790 (by decide +kernel) ⟨Nat.le_of_ble_eq_true rfl, Nat.le_of_ble_eq_true rfl⟩ 0 11 rfl rfl (rfl) hl.1 rfl (Nat.le_of_ble_eq_true rfl) dX11_letout_44 (fun u H locs hw hP hD hS => ?_)
        obtain ⟨hG15, hw⟩ := hw
        obtain ⟨v16, f17, w18, g19⟩ := u
        obtain ⟨kV_v16, kF_f17, hIv16, hCf17, hRf17, hk0_v16, hk1_v16, hk2_v16, hk3_v16, hk4_v16, hk5_v16, hk8_v16, hk9_v16, hk10_v16, hk13_v16, hk14_v16, hk15_v16, hk17_v16, hk18_v16, hk24_v16, hk25_v16, hk38_v16, hk39_v16⟩ := hw
        have hM_v16 : KV [35, 36] v16 v := KV.tr kV_v16 hM_v rfl
        have hA_f17 : KF [23, 24, 25] f17 f := KF.tr kF_f17 hA_f rfl
        have hP : va_P (dC, dI) vwCl (YW cy y0 r v16 f17 w18 g19) H := hP
        have hD : va_D A (YW cy y0 r v16 f17 w18 g19) := hD
        have hUv16 : (v16 35).toInt + (v16 36).toInt ≤ 40 := hIv16.2
        have hq9_v16 : v16 9 = (v 9) := hk9_v16
        have zq9_v16 := congrArg Int32.toInt hq9_v16
        refine lv_aload_n hx hb dX11_letout_47 rfl (lv_at hl 0 rfl) ?_
        refine va_get (D := (dC, dI)) (ci := 11) (v := .ref (r 59)) (C := RX11) (T := TX11) (N := 79) hx hb hts inB_11 hown hE.1 hP 0 rfl rfl 59 (by decide) (hts _ k_1379) (fun _ h9 => h9) rfl dX11_letout_48 ?_
        refine lv_bipush (v := 24) hx hb dX11_letout_51 (by decide) ?_
        refine lv_iload_n hx hb dX11_letout_53 rfl (lv_at hl 1 rfl) ?_
        refine lv_iadd hx hb dX11_letout_54 ?_
        refine tI (y := t4) et4.symm ?_
        refine lv_dup2_11 hx hb dX11_letout_55 rfl rfl ?_
        refine ldI hx hb hE hP 24 rfl (vp_in_iff.mpr ⟨by omega, by omega⟩) rfl rfl dX11_letout_56 ?_
        refine lv_topi (fun t20 et20 => ?_)
        have zt20 : t4.toInt.toNat % 39 < 6 ∨ 12 ≤ t4.toInt.toNat % 39 ∨ (-1 ≤ t20.toInt ∧ t20.toInt ≤ 5) := by rw [et20]; exact wear_ld hCf17.1 (show t4.toInt.toNat < 39 by omega)
        refine lv_iload_n hx hb dX11_letout_57 rfl (lv_at hl 2 rfl) ?_
        refine lv_isub hx hb dX11_letout_58 ?_
        refine lv_topi (fun t21 et21 => ?_)
        refine stI hx hb hE hP hD hS 24 rfl (vp_in_iff.mpr ⟨by omega, by omega⟩) rfl dX11_letout_59 (fun H locs hP hD hS => ?_)
        obtain ⟨f22, ef22, hP, hD⟩ : ∃ fz9, fz9 = upd2 f17 23 (upd (f17 23) t4.toNatClampNeg t21) ∧ va_P (dC, dI) vwCl (YW cy y0 r v16 fz9 w18 g19) H ∧ va_D A (YW cy y0 r v16 fz9 w18 g19) := ⟨_, rfl, hP, hD⟩
        have hCf22 : YC f22 := by rw [ef22]; exact ⟨(wear_st hCf17.1 (by show t4.toInt.toNat % 39 < 6 ∨ 12 ≤ t4.toInt.toNat % 39 ∨ (-1 ≤ t21.toInt ∧ t21.toInt ≤ 5); omega)), hCf17.2.1, hCf17.2.2.1, hCf17.2.2.2.1, hCf17.2.2.2.2.1, hCf17.2.2.2.2.2⟩
        have hRf22 : progOK (f22 4) (f22 5) (v16 9).toInt.toNat := by rw [ef22]; exact hRf17
        have hA_f22 : KF [23, 24, 25] f22 f := by rw [ef22]; exact KF.up hA_f17 rfl
        refine lv_aload_n hx hb dX11_letout_60 rfl (lv_at hl 0 rfl) ?_
        refine va_get (D := (dC, dI)) (ci := 11) (v := .ref (r 59)) (C := RX11) (T := TX11) (N := 79) hx hb hts inB_11 hown hE.1 hP 0 rfl rfl 59 (by decide) (hts _ k_1379) (fun _ h9 => h9) rfl dX11_letout_61 ?_
        refine lv_bipush (v := 18) hx hb dX11_letout_64 (by decide) ?_
        refine lv_iload_n hx hb dX11_letout_66 rfl (lv_at hl 1 rfl) ?_
        refine lv_iadd hx hb dX11_letout_67 ?_
        refine tI (y := t11) et11.symm ?_
        refine lv_dup2_11 hx hb dX11_letout_68 rfl rfl ?_
        refine ldI hx hb hE hP 24 rfl (vp_in_iff.mpr ⟨by omega, by omega⟩) rfl rfl dX11_letout_69 ?_
        refine lv_topi (fun t23 et23 => ?_)
        have zt23 : t11.toInt.toNat % 39 < 6 ∨ 12 ≤ t11.toInt.toNat % 39 ∨ (-1 ≤ t23.toInt ∧ t23.toInt ≤ 5) := by rw [et23]; exact wear_ld hCf22.1 (show t11.toInt.toNat < 39 by omega)
        refine lv_iload_n hx hb dX11_letout_70 rfl (lv_at hl 2 rfl) ?_
        refine lv_iadd hx hb dX11_letout_71 ?_
        refine lv_topi (fun t24 et24 => ?_)
        refine stI hx hb hE hP hD hS 24 rfl (vp_in_iff.mpr ⟨by omega, by omega⟩) rfl dX11_letout_72 (fun H locs hP hD hS => ?_)
        obtain ⟨f25, ef25, hP, hD⟩ : ∃ fz9, fz9 = upd2 f22 23 (upd (f22 23) t11.toNatClampNeg t24) ∧ va_P (dC, dI) vwCl (YW cy y0 r v16 fz9 w18 g19) H ∧ va_D A (YW cy y0 r v16 fz9 w18 g19) := ⟨_, rfl, hP, hD⟩
        have hCf25 : YC f25 := by rw [ef25]; exact ⟨(wear_st hCf22.1 (by show t11.toInt.toNat % 39 < 6 ∨ 12 ≤ t11.toInt.toNat % 39 ∨ (-1 ≤ t24.toInt ∧ t24.toInt ≤ 5); omega)), hCf22.2.1, hCf22.2.2.1, hCf22.2.2.2.1, hCf22.2.2.2.2.1, hCf22.2.2.2.2.2⟩
        have hRf25 : progOK (f25 4) (f25 5) (v16 9).toInt.toNat := by rw [ef25]; exact hRf22
        have hA_f25 : KF [23, 24, 25] f25 f := by rw [ef25]; exact KF.up hA_f22 rfl
        refine lv_aload_n hx hb dX11_letout_73 rfl (lv_at hl 0 rfl) ?_
        refine va_get (D := (dC, dI)) (ci := 11) (v := .ref (r 59)) (C := RX11) (T := TX11) (N := 79) hx hb hts inB_11 hown hE.1 hP 0 rfl rfl 59 (by decide) (hts _ k_1379) (fun _ h9 => h9) rfl dX11_letout_74 ?_
        refine lv_bipush (v := 18) hx hb dX11_letout_77 (by decide) ?_
        refine lv_iload_n hx hb dX11_letout_79 rfl (lv_at hl 1 rfl) ?_
        refine lv_iadd hx hb dX11_letout_80 ?_
        refine tI (y := t11) et11.symm ?_
        refine ldI hx hb hE hP 24 rfl (vp_in_iff.mpr ⟨by omega, by omega⟩) rfl rfl dX11_letout_81 ?_
        refine lv_topi (fun t26 et26 => ?_)
        have zt26 : t11.toInt.toNat % 39 < 6 ∨ 12 ≤ t11.toInt.toNat % 39 ∨ (-1 ≤ t26.toInt ∧ t26.toInt ≤ 5) := by rw [et26]; exact wear_ld hCf25.1 (show t11.toInt.toNat < 39 by omega)
        exact ret t26 (v16, f25, w18, g19) _ _ _ _ _ _ rfl ⟨(gsY_X11_letout_1_q0 hG2 et4 et6 hG9 et11 et12 et13 c14 hG15 et20 et21 ef22 et23 et24 ef25 et26), hM_v16, hA_f25, hIv16, hCf25, hRf25, hk0_v16, hk1_v16, hk2_v16, hk3_v16, hk4_v16, hk5_v16, hk8_v16, hk9_v16, hk10_v16, hk13_v16, hk14_v16, hk15_v16, hk17_v16, hk18_v16, hk24_v16, hk25_v16, hk38_v16, hk39_v16⟩ hP hD hS dX11_letout_82 (Nat.le_refl _) (Nat.le_refl _)
      · skip
        have zc14 : ¬ (t13.toInt ≤ 99) := by rw [fa_le, show (99 : Int32).toInt = 99 from by decide] at c14; exact c14
        refine lv_iconst (v := (-1)) hx hb dX11_letout_41 (by decide) ?_
        exact ret (-1) (v, f, w, g) _ _ _ _ _ _ rfl ⟨(gsY_X11_letout_1_q1 hG2 et4 et6 hG9 et11 et12 et13 c14), hM_v, hA_f, hIv, hCf, hRf, rfl, rfl, rfl, rfl, rfl, rfl, rfl, rfl, rfl, rfl, rfl, rfl, rfl, rfl, rfl, rfl, rfl, rfl⟩ hP hD hS dX11_letout_42 (Nat.le_refl _) (Nat.le_refl _)
    · skip
      subst g10
      refine lv_if_eq (tgt := 41) hx hb dX11_letout_22 (by decide) (fun _ => ?_) (fun c0 => absurd (by decide) c0)
      refine lv_iconst (v := (-1)) hx hb dX11_letout_41 (by decide) ?_
      exact ret (-1) (v, f, w, g) _ _ _ _ _ _ rfl ⟨(gsY_X11_letout_1_q2 hG2 et4 et6 hG9), hM_v, hA_f, hIv, hCf, hRf, rfl, rfl, rfl, rfl, rfl, rfl, rfl, rfl, rfl, rfl, rfl, rfl, rfl, rfl, rfl, rfl, rfl, rfl⟩ hP hD hS dX11_letout_42 (Nat.le_refl _) (Nat.le_refl _)
  · skip
    subst g3
    refine lv_if_eq (tgt := 41) hx hb dX11_letout_5 (by decide) (fun _ => ?_) (fun c0 => absurd (by decide) c0)
    refine lv_iconst (v := (-1)) hx hb dX11_letout_41 (by decide) ?_
    exact ret (-1) (v, f, w, g) _ _ _ _ _ _ rfl ⟨(gsY_X11_letout_1_q3 hG2), hM_v, hA_f, hIv, hCf, hRf, rfl, rfl, rfl, rfl, rfl, rfl, rfl, rfl, rfl, rfl, rfl, rfl, rfl, rfl, rfl, rfl, rfl, rfl⟩ hP hD hS dX11_letout_42 (Nat.le_refl _) (Nat.le_refl _)
set_option maxHeartbeats 4000000 in
set_option maxRecDepth 100000 in
theorem sY_X11_takein_1 (NF : Nat) (l : Launch) (dC : Nat → ClassId) (dI : Nat → Nat → Nat) (cy : Nat → ClassId) (y0 : Nat) (r : Nat → Nat) (p1 : Int32) (p2 : Int32) (v : Nat → Int32) (f : Nat → Nat → Int32) (w : Int64) (g : Nat → Int64) (hIv : YI v) (hCf : YC f) (hRf : progOK (f 4) (f 5) (v 9).toInt.toNat)  : ctI l (dC, dI) cy yX11_takein cX11_takein 3 .int 3 103 0 0 ((Nat → Int32) × (Nat → Nat → Int32) × (Int64) × (Nat → Int64)) [.ref y0, .int p1, .int p2] (YW cy y0 r v f w g) (fun r u => gsY_X11_takein_1 NF p1 p2 v f w g = (r, u) ∧ KV [35, 36] u.1 v ∧ KF [23, 24, 25] u.2.1 f ∧ YI u.1 ∧ YC u.2.1 ∧ progOK (u.2.1 4) (u.2.1 5) (u.1 9).toInt.toNat ∧ u.1 0 = v 0 ∧ u.1 1 = v 1 ∧ u.1 2 = v 2 ∧ u.1 3 = v 3 ∧ u.1 4 = v 4 ∧ u.1 5 = v 5 ∧ u.1 8 = v 8 ∧ u.1 9 = v 9 ∧ u.1 10 = v 10 ∧ u.1 13 = v 13 ∧ u.1 14 = v 14 ∧ u.1 15 = v 15 ∧ u.1 17 = v 17 ∧ u.1 18 = v 18 ∧ u.1 24 = v 24 ∧ u.1 25 = v 25 ∧ u.1 38 = v 38 ∧ u.1 39 = v 39) (fun u => YW cy y0 r u.1 u.2.1 u.2.2.1 u.2.2.2) := by
  refine ctI_of (by decide) (Nat.le_of_ble_eq_true rfl) (fun p e s m below meth c A ls Q hx hb hml hts hown hE hP hD hA hl ret => ?_)
  have hUv : (v 35).toInt + (v 36).toInt ≤ 40 := hIv.2
  have hM_v : KV [35, 36] v v := fun _ _ => rfl
  have hA_f : KF [23, 24, 25] f f := fun _ _ => rfl
  have hown : s.vm.findClass RX11 = some m.cls := hown
  have hS : va_S A s.heap s.heap [] := va_S.rf
  have hl : lv_has ls 3 [(0, .ref y0), (1, .int p1), (2, .int p2)] := hl
  refine lv_aload_n hx hb dX11_takein_0 rfl (lv_at hl 0 rfl) ?_
  refine lv_iload_n hx hb dX11_takein_1 rfl (lv_at hl 1 rfl) ?_
  refine cbVi (n := 1) (rest := []) hx hb hml hown hts hE hP hD hS hA (sY_X11_isCoat_1 NF l dC dI cy y0 r p1 v f w g hIv hCf hRf ) k_1771 k_1773 k_75 k_114 k_1774 (by decide +kernel) ⟨Nat.le_of_ble_eq_true rfl, Nat.le_of_ble_eq_true rfl⟩ 0 11 rfl rfl (rfl) hl.1 rfl (Nat.le_of_ble_eq_true rfl) dX11_takein_2 (fun r1 u H locs hw hP hD hS => ?_)
  obtain ⟨hG2, hw⟩ := hw
  rcases hw with ⟨g3, g3_0, g3_1, g3_2⟩ | ⟨g3⟩
  · skip
    subst g3
    refine lv_if_eq (tgt := 41) hx hb dX11_takein_5 (by decide) (fun c0 => absurd c0 (by decide)) (fun _ => ?_)
    refine lv_iload_n hx hb dX11_takein_8 rfl (lv_at hl 2 rfl) ?_
    refine lv_iconst (v := 1) hx hb dX11_takein_9 (by decide) ?_
    refine lv_aload_n hx hb dX11_takein_10 rfl (lv_at hl 0 rfl) ?_
    refine va_get (D := (dC, dI)) (ci := 11) (v := .ref (r 59)) (C := RX11) (T := TX11) (N := 79) hx hb hts inB_11 hown hE.1 hP 0 rfl rfl 59 (by decide) (hts _ k_1379) (fun _ h9 => h9) rfl dX11_takein_11 ?_
    refine lv_bipush (v := 18) hx hb dX11_takein_14 (by decide) ?_
    refine lv_iload_n hx hb dX11_takein_16 rfl (lv_at hl 1 rfl) ?_
    refine lv_iadd hx hb dX11_takein_17 ?_
    refine lv_topi (fun t4 et4 => ?_)
    have rg5 := fb_rng p1
    have zt4 : t4.toInt = 18 + p1.toInt := by rw [et4]; exact add_i (by decide) rfl (by omega) (by omega)
    refine ldI hx hb hE hP 24 rfl (vp_in_iff.mpr ⟨by omega, by omega⟩) rfl rfl dX11_takein_18 ?_
    refine lv_topi (fun t6 et6 => ?_)
    have zt6 : t4.toInt.toNat % 39 < 6 ∨ 12 ≤ t4.toInt.toNat % 39 ∨ (-1 ≤ t6.toInt ∧ t6.toInt ≤ 5) := by rw [et6]; exact wear_ld hCf.1 (show t4.toInt.toNat < 39 by omega)
    have lt7 : (1 : Int32).toInt = 1 := by decide
    refine cbSi (n := 3) (rest := []) hx hb hml hown hts hE hP hD hS hA (sY_X11_isIn_1 NF l dC dI cy y0 r p2 1 t6 v f w g hIv hCf hRf ) k_1736 k_1737 k_114 k_1738 (by decide +kernel) ⟨Nat.le_of_ble_eq_true rfl, Nat.le_of_ble_eq_true rfl⟩ (rfl) hl.1 rfl (Nat.le_of_ble_eq_true rfl) dX11_takein_19 (fun r8 u H locs hw hP hD hS => ?_)
    obtain ⟨hG9, hw⟩ := hw
    rcases hw with ⟨g10, g10_0, g10_1⟩ | ⟨g10⟩
    · skip
      subst g10
      refine lv_if_eq (tgt := 41) hx hb dX11_takein_22 (by decide) (fun c0 => absurd c0 (by decide)) (fun _ => ?_)
      refine lv_aload_n hx hb dX11_takein_25 rfl (lv_at hl 0 rfl) ?_
      refine va_get (D := (dC, dI)) (ci := 11) (v := .ref (r 59)) (C := RX11) (T := TX11) (N := 79) hx hb hts inB_11 hown hE.1 hP 0 rfl rfl 59 (by decide) (hts _ k_1379) (fun _ h9 => h9) rfl dX11_takein_26 ?_
      refine lv_bipush (v := 24) hx hb dX11_takein_29 (by decide) ?_
      refine lv_iload_n hx hb dX11_takein_31 rfl (lv_at hl 1 rfl) ?_
      refine lv_iadd hx hb dX11_takein_32 ?_
      refine lv_topi (fun t11 et11 => ?_)
      have zt11 : t11.toInt = 24 + p1.toInt := by rw [et11]; exact add_i (by decide) rfl (by omega) (by omega)
      refine ldI hx hb hE hP 24 rfl (vp_in_iff.mpr ⟨by omega, by omega⟩) rfl rfl dX11_takein_33 ?_
      refine lv_topi (fun t12 et12 => ?_)
      have zt12 : t11.toInt.toNat % 39 < 6 ∨ 12 ≤ t11.toInt.toNat % 39 ∨ (-1 ≤ t12.toInt ∧ t12.toInt ≤ 5) := by rw [et12]; exact wear_ld hCf.1 (show t11.toInt.toNat < 39 by omega)
      refine lv_iload_n hx hb dX11_takein_34 rfl (lv_at hl 2 rfl) ?_
      refine lv_iadd hx hb dX11_takein_35 ?_
      refine lv_topi (fun t13 et13 => ?_)
      refine lv_bipush (v := 99) hx hb dX11_takein_36 (by decide) ?_
      refine lv_icmp_le (tgt := 43) hx hb dX11_takein_38 (by decide) (fun c14 => ?_) (fun c14 => ?_)
      · skip
        have zc14 : t13.toInt ≤ 99 := by rw [fa_le, show (99 : Int32).toInt = 99 from by decide] at c14; exact c14
        refine lv_aload_n hx hb dX11_takein_43 rfl (lv_at hl 0 rfl) ?_
        refine cbVv (n := 0) (rest := []) hx hb hml hown hts hE hP hD hS hA (sY_X11_act_1 NF l dC dI cy y0 r  v f w g hIv hCf hRf ) k_1787 k_1789 k_77 k_114 k_1790 (by decide +kernel) ⟨Nat.le_of_ble_eq_true rfl, Nat.le_of_ble_eq_true rfl⟩ 0 11 rfl rfl (rfl) hl.1 rfl (Nat.le_of_ble_eq_true rfl) dX11_takein_44 (fun u H locs hw hP hD hS => ?_)
        obtain ⟨hG15, hw⟩ := hw
        obtain ⟨v16, f17, w18, g19⟩ := u
        obtain ⟨kV_v16, kF_f17, hIv16, hCf17, hRf17, hk0_v16, hk1_v16, hk2_v16, hk3_v16, hk4_v16, hk5_v16, hk8_v16, hk9_v16, hk10_v16, hk13_v16, hk14_v16, hk15_v16, hk17_v16, hk18_v16, hk24_v16, hk25_v16, hk38_v16, hk39_v16⟩ := hw
        have hM_v16 : KV [35, 36] v16 v := KV.tr kV_v16 hM_v rfl
        have hA_f17 : KF [23, 24, 25] f17 f := KF.tr kF_f17 hA_f rfl
        have hP : va_P (dC, dI) vwCl (YW cy y0 r v16 f17 w18 g19) H := hP
        have hD : va_D A (YW cy y0 r v16 f17 w18 g19) := hD
        have hUv16 : (v16 35).toInt + (v16 36).toInt ≤ 40 := hIv16.2
        have hq9_v16 : v16 9 = (v 9) := hk9_v16
        have zq9_v16 := congrArg Int32.toInt hq9_v16
        refine lv_aload_n hx hb dX11_takein_47 rfl (lv_at hl 0 rfl) ?_
        refine va_get (D := (dC, dI)) (ci := 11) (v := .ref (r 59)) (C := RX11) (T := TX11) (N := 79) hx hb hts inB_11 hown hE.1 hP 0 rfl rfl 59 (by decide) (hts _ k_1379) (fun _ h9 => h9) rfl dX11_takein_48 ?_
        refine lv_bipush (v := 24) hx hb dX11_takein_51 (by decide) ?_
        refine lv_iload_n hx hb dX11_takein_53 rfl (lv_at hl 1 rfl) ?_
        refine lv_iadd hx hb dX11_takein_54 ?_
        refine tI (y := t11) et11.symm ?_
        refine lv_dup2_11 hx hb dX11_takein_55 rfl rfl ?_
        refine ldI hx hb hE hP 24 rfl (vp_in_iff.mpr ⟨by omega, by omega⟩) rfl rfl dX11_takein_56 ?_
        refine lv_topi (fun t20 et20 => ?_)
        have zt20 : t11.toInt.toNat % 39 < 6 ∨ 12 ≤ t11.toInt.toNat % 39 ∨ (-1 ≤ t20.toInt ∧ t20.toInt ≤ 5) := by rw [et20]; exact wear_ld hCf17.1 (show t11.toInt.toNat < 39 by omega)
        refine lv_iload_n hx hb dX11_takein_57 rfl (lv_at hl 2 rfl) ?_
        refine lv_iadd hx hb dX11_takein_58 ?_
        refine lv_topi (fun t21 et21 => ?_)
        refine stI hx hb hE hP hD hS 24 rfl (vp_in_iff.mpr ⟨by omega, by omega⟩) rfl dX11_takein_59 (fun H locs hP hD hS => ?_)
        obtain ⟨f22, ef22, hP, hD⟩ : ∃ fz9, fz9 = upd2 f17 23 (upd (f17 23) t11.toNatClampNeg t21) ∧ va_P (dC, dI) vwCl (YW cy y0 r v16 fz9 w18 g19) H ∧ va_D A (YW cy y0 r v16 fz9 w18 g19) := ⟨_, rfl, hP, hD⟩
        have hCf22 : YC f22 := by rw [ef22]; exact ⟨(wear_st hCf17.1 (by show t11.toInt.toNat % 39 < 6 ∨ 12 ≤ t11.toInt.toNat % 39 ∨ (-1 ≤ t21.toInt ∧ t21.toInt ≤ 5); omega)), hCf17.2.1, hCf17.2.2.1, hCf17.2.2.2.1, hCf17.2.2.2.2.1, hCf17.2.2.2.2.2⟩
        have hRf22 : progOK (f22 4) (f22 5) (v16 9).toInt.toNat := by rw [ef22]; exact hRf17
        have hA_f22 : KF [23, 24, 25] f22 f := by rw [ef22]; exact KF.up hA_f17 rfl
        refine lv_aload_n hx hb dX11_takein_60 rfl (lv_at hl 0 rfl) ?_
        refine va_get (D := (dC, dI)) (ci := 11) (v := .ref (r 59)) (C := RX11) (T := TX11) (N := 79) hx hb hts inB_11 hown hE.1 hP 0 rfl rfl 59 (by decide) (hts _ k_1379) (fun _ h9 => h9) rfl dX11_takein_61 ?_
        refine lv_bipush (v := 18) hx hb dX11_takein_64 (by decide) ?_
        refine lv_iload_n hx hb dX11_takein_66 rfl (lv_at hl 1 rfl) ?_
        refine lv_iadd hx hb dX11_takein_67 ?_
        refine tI (y := t4) et4.symm ?_
        refine lv_dup2_11 hx hb dX11_takein_68 rfl rfl ?_
        refine ldI hx hb hE hP 24 rfl (vp_in_iff.mpr ⟨by omega, by omega⟩) rfl rfl dX11_takein_69 ?_
        refine lv_topi (fun t23 et23 => ?_)
        have zt23 : t4.toInt.toNat % 39 < 6 ∨ 12 ≤ t4.toInt.toNat % 39 ∨ (-1 ≤ t23.toInt ∧ t23.toInt ≤ 5) := by rw [et23]; exact wear_ld hCf22.1 (show t4.toInt.toNat < 39 by omega)
        refine lv_iload_n hx hb dX11_takein_70 rfl (lv_at hl 2 rfl) ?_
        refine lv_isub hx hb dX11_takein_71 ?_
        refine lv_topi (fun t24 et24 => ?_)
        refine stI hx hb hE hP hD hS 24 rfl (vp_in_iff.mpr ⟨by omega, by omega⟩) rfl dX11_takein_72 (fun H locs hP hD hS => ?_)
        obtain ⟨f25, ef25, hP, hD⟩ : ∃ fz9, fz9 = upd2 f22 23 (upd (f22 23) t4.toNatClampNeg t24) ∧ va_P (dC, dI) vwCl (YW cy y0 r v16 fz9 w18 g19) H ∧ va_D A (YW cy y0 r v16 fz9 w18 g19) := ⟨_, rfl, hP, hD⟩
        have hCf25 : YC f25 := by rw [ef25]; exact ⟨(wear_st hCf22.1 (by show t4.toInt.toNat % 39 < 6 ∨ 12 ≤ t4.toInt.toNat % 39 ∨ (-1 ≤ t24.toInt ∧ t24.toInt ≤ 5); omega)), hCf22.2.1, hCf22.2.2.1, hCf22.2.2.2.1, hCf22.2.2.2.2.1, hCf22.2.2.2.2.2⟩
        have hRf25 : progOK (f25 4) (f25 5) (v16 9).toInt.toNat := by rw [ef25]; exact hRf22
        have hA_f25 : KF [23, 24, 25] f25 f := by rw [ef25]; exact KF.up hA_f22 rfl
        refine lv_aload_n hx hb dX11_takein_73 rfl (lv_at hl 0 rfl) ?_
        refine va_get (D := (dC, dI)) (ci := 11) (v := .ref (r 59)) (C := RX11) (T := TX11) (N := 79) hx hb hts inB_11 hown hE.1 hP 0 rfl rfl 59 (by decide) (hts _ k_1379) (fun _ h9 => h9) rfl dX11_takein_74 ?_
        refine lv_bipush (v := 18) hx hb dX11_takein_77 (by decide) ?_
        refine lv_iload_n hx hb dX11_takein_79 rfl (lv_at hl 1 rfl) ?_
        refine lv_iadd hx hb dX11_takein_80 ?_
        refine tI (y := t4) et4.symm ?_
        refine ldI hx hb hE hP 24 rfl (vp_in_iff.mpr ⟨by omega, by omega⟩) rfl rfl dX11_takein_81 ?_
        refine lv_topi (fun t26 et26 => ?_)
        have zt26 : t4.toInt.toNat % 39 < 6 ∨ 12 ≤ t4.toInt.toNat % 39 ∨ (-1 ≤ t26.toInt ∧ t26.toInt ≤ 5) := by rw [et26]; exact wear_ld hCf25.1 (show t4.toInt.toNat < 39 by omega)
        exact ret t26 (v16, f25, w18, g19) _ _ _ _ _ _ rfl ⟨(gsY_X11_takein_1_q0 hG2 et4 et6 hG9 et11 et12 et13 c14 hG15 et20 et21 ef22 et23 et24 ef25 et26), hM_v16, hA_f25, hIv16, hCf25, hRf25, hk0_v16, hk1_v16, hk2_v16, hk3_v16, hk4_v16, hk5_v16, hk8_v16, hk9_v16, hk10_v16, hk13_v16, hk14_v16, hk15_v16, hk17_v16, hk18_v16, hk24_v16, hk25_v16, hk38_v16, hk39_v16⟩ hP hD hS dX11_takein_82 (Nat.le_refl _) (Nat.le_refl _)
      · skip
        have zc14 : ¬ (t13.toInt ≤ 99) := by rw [fa_le, show (99 : Int32).toInt = 99 from by decide] at c14; exact c14
        refine lv_iconst (v := (-1)) hx hb dX11_takein_41 (by decide) ?_
        exact ret (-1) (v, f, w, g) _ _ _ _ _ _ rfl ⟨(gsY_X11_takein_1_q1 hG2 et4 et6 hG9 et11 et12 et13 c14), hM_v, hA_f, hIv, hCf, hRf, rfl, rfl, rfl, rfl, rfl, rfl, rfl, rfl, rfl, rfl, rfl, rfl, rfl, rfl, rfl, rfl, rfl, rfl⟩ hP hD hS dX11_takein_42 (Nat.le_refl _) (Nat.le_refl _)
    · skip
      subst g10
      refine lv_if_eq (tgt := 41) hx hb dX11_takein_22 (by decide) (fun _ => ?_) (fun c0 => absurd (by decide) c0)
      refine lv_iconst (v := (-1)) hx hb dX11_takein_41 (by decide) ?_
      exact ret (-1) (v, f, w, g) _ _ _ _ _ _ rfl ⟨(gsY_X11_takein_1_q2 hG2 et4 et6 hG9), hM_v, hA_f, hIv, hCf, hRf, rfl, rfl, rfl, rfl, rfl, rfl, rfl, rfl, rfl, rfl, rfl, rfl, rfl, rfl, rfl, rfl, rfl, rfl⟩ hP hD hS dX11_takein_42 (Nat.le_refl _) (Nat.le_refl _)
  · skip
    subst g3
    refine lv_if_eq (tgt := 41) hx hb dX11_takein_5 (by decide) (fun _ => ?_) (fun c0 => absurd (by decide) c0)
    refine lv_iconst (v := (-1)) hx hb dX11_takein_41 (by decide) ?_
    exact ret (-1) (v, f, w, g) _ _ _ _ _ _ rfl ⟨(gsY_X11_takein_1_q3 hG2), hM_v, hA_f, hIv, hCf, hRf, rfl, rfl, rfl, rfl, rfl, rfl, rfl, rfl, rfl, rfl, rfl, rfl, rfl, rfl, rfl, rfl, rfl, rfl⟩ hP hD hS dX11_takein_42 (Nat.le_refl _) (Nat.le_refl _)
set_option maxHeartbeats 4000000 in
set_option maxRecDepth 100000 in
theorem sY_X11_hem_1 (NF : Nat) (l : Launch) (dC : Nat → ClassId) (dI : Nat → Nat → Nat) (cy : Nat → ClassId) (y0 : Nat) (r : Nat → Nat) (p1 : Int32) (p2 : Int32) (v : Nat → Int32) (f : Nat → Nat → Int32) (w : Int64) (g : Nat → Int64) (hIv : YI v) (hCf : YC f) (hRf : progOK (f 4) (f 5) (v 9).toInt.toNat)  : ctI l (dC, dI) cy yX11_hem cX11_hem 3 .int 3 103 0 0 ((Nat → Int32) × (Nat → Nat → Int32) × (Int64) × (Nat → Int64)) [.ref y0, .int p1, .int p2] (YW cy y0 r v f w g) (fun r u => gsY_X11_hem_1 NF p1 p2 v f w g = (r, u) ∧ KV [35, 36] u.1 v ∧ KF [23, 24, 25] u.2.1 f ∧ YI u.1 ∧ YC u.2.1 ∧ progOK (u.2.1 4) (u.2.1 5) (u.1 9).toInt.toNat ∧ u.1 0 = v 0 ∧ u.1 1 = v 1 ∧ u.1 2 = v 2 ∧ u.1 3 = v 3 ∧ u.1 4 = v 4 ∧ u.1 5 = v 5 ∧ u.1 8 = v 8 ∧ u.1 9 = v 9 ∧ u.1 10 = v 10 ∧ u.1 13 = v 13 ∧ u.1 14 = v 14 ∧ u.1 15 = v 15 ∧ u.1 17 = v 17 ∧ u.1 18 = v 18 ∧ u.1 24 = v 24 ∧ u.1 25 = v 25 ∧ u.1 38 = v 38 ∧ u.1 39 = v 39) (fun u => YW cy y0 r u.1 u.2.1 u.2.2.1 u.2.2.2) := by
  refine ctI_of (by decide) (Nat.le_of_ble_eq_true rfl) (fun p e s m below meth c A ls Q hx hb hml hts hown hE hP hD hA hl ret => ?_)
  have hUv : (v 35).toInt + (v 36).toInt ≤ 40 := hIv.2
  have hM_v : KV [35, 36] v v := fun _ _ => rfl
  have hA_f : KF [23, 24, 25] f f := fun _ _ => rfl
  have hown : s.vm.findClass RX11 = some m.cls := hown
  have hS : va_S A s.heap s.heap [] := va_S.rf
  have hl : lv_has ls 3 [(0, .ref y0), (1, .int p1), (2, .int p2)] := hl
  refine lv_aload_n hx hb dX11_hem_0 rfl (lv_at hl 0 rfl) ?_
  refine lv_iload_n hx hb dX11_hem_1 rfl (lv_at hl 1 rfl) ?_
  refine cbVi (n := 1) (rest := []) hx hb hml hown hts hE hP hD hS hA (sY_X11_isCoat_1 NF l dC dI cy y0 r p1 v f w g hIv hCf hRf ) k_1771 k_1773 k_75 k_114 k_1774 (by decide +kernel) ⟨Nat.le_of_ble_eq_true rfl, Nat.le_of_ble_eq_true rfl⟩ 0 11 rfl rfl (rfl) hl.1 rfl (Nat.le_of_ble_eq_true rfl) dX11_hem_2 (fun r1 u H locs hw hP hD hS => ?_)
  obtain ⟨hG2, hw⟩ := hw
  rcases hw with ⟨g3, g3_0, g3_1, g3_2⟩ | ⟨g3⟩
  · skip
    subst g3
    refine lv_if_eq (tgt := 25) hx hb dX11_hem_5 (by decide) (fun c0 => absurd c0 (by decide)) (fun _ => ?_)
    refine lv_iload_n hx hb dX11_hem_8 rfl (lv_at hl 2 rfl) ?_
    refine lv_iconst (v := 1) hx hb dX11_hem_9 (by decide) ?_
    refine lv_aload_n hx hb dX11_hem_10 rfl (lv_at hl 0 rfl) ?_
    refine va_get (D := (dC, dI)) (ci := 11) (v := .ref (r 59)) (C := RX11) (T := TX11) (N := 79) hx hb hts inB_11 hown hE.1 hP 0 rfl rfl 59 (by decide) (hts _ k_1379) (fun _ h9 => h9) rfl dX11_hem_11 ?_
    refine lv_bipush (v := 12) hx hb dX11_hem_14 (by decide) ?_
    refine lv_iload_n hx hb dX11_hem_16 rfl (lv_at hl 1 rfl) ?_
    refine lv_iadd hx hb dX11_hem_17 ?_
    refine lv_topi (fun t4 et4 => ?_)
    have rg5 := fb_rng p1
    have zt4 : t4.toInt = 12 + p1.toInt := by rw [et4]; exact add_i (by decide) rfl (by omega) (by omega)
    refine ldI hx hb hE hP 24 rfl (vp_in_iff.mpr ⟨by omega, by omega⟩) rfl rfl dX11_hem_18 ?_
    refine lv_topi (fun t6 et6 => ?_)
    have zt6 : t4.toInt.toNat % 39 < 6 ∨ 12 ≤ t4.toInt.toNat % 39 ∨ (-1 ≤ t6.toInt ∧ t6.toInt ≤ 5) := by rw [et6]; exact wear_ld hCf.1 (show t4.toInt.toNat < 39 by omega)
    have lt7 : (1 : Int32).toInt = 1 := by decide
    refine cbSi (n := 3) (rest := []) hx hb hml hown hts hE hP hD hS hA (sY_X11_isIn_1 NF l dC dI cy y0 r p2 1 t6 v f w g hIv hCf hRf ) k_1736 k_1737 k_114 k_1738 (by decide +kernel) ⟨Nat.le_of_ble_eq_true rfl, Nat.le_of_ble_eq_true rfl⟩ (rfl) hl.1 rfl (Nat.le_of_ble_eq_true rfl) dX11_hem_19 (fun r8 u H locs hw hP hD hS => ?_)
    obtain ⟨hG9, hw⟩ := hw
    rcases hw with ⟨g10, g10_0, g10_1⟩ | ⟨g10⟩
    · skip
      subst g10
      refine lv_if_ne (tgt := 27) hx hb dX11_hem_22 (by decide) (fun _ => ?_) (fun c0 => absurd c0 (by decide))
      refine lv_aload_n hx hb dX11_hem_27 rfl (lv_at hl 0 rfl) ?_
      refine cbVv (n := 0) (rest := []) hx hb hml hown hts hE hP hD hS hA (sY_X11_act_1 NF l dC dI cy y0 r  v f w g hIv hCf hRf ) k_1787 k_1789 k_77 k_114 k_1790 (by decide +kernel) ⟨Nat.le_of_ble_eq_true rfl, Nat.le_of_ble_eq_true rfl⟩ 0 11 rfl rfl (rfl) hl.1 rfl (Nat.le_of_ble_eq_true rfl) dX11_hem_28 (fun u H locs hw hP hD hS => ?_)
      obtain ⟨hG11, hw⟩ := hw
      obtain ⟨v12, f13, w14, g15⟩ := u
      obtain ⟨kV_v12, kF_f13, hIv12, hCf13, hRf13, hk0_v12, hk1_v12, hk2_v12, hk3_v12, hk4_v12, hk5_v12, hk8_v12, hk9_v12, hk10_v12, hk13_v12, hk14_v12, hk15_v12, hk17_v12, hk18_v12, hk24_v12, hk25_v12, hk38_v12, hk39_v12⟩ := hw
      have hM_v12 : KV [35, 36] v12 v := KV.tr kV_v12 hM_v rfl
      have hA_f13 : KF [23, 24, 25] f13 f := KF.tr kF_f13 hA_f rfl
      have hP : va_P (dC, dI) vwCl (YW cy y0 r v12 f13 w14 g15) H := hP
      have hD : va_D A (YW cy y0 r v12 f13 w14 g15) := hD
      have hUv12 : (v12 35).toInt + (v12 36).toInt ≤ 40 := hIv12.2
      have hq9_v12 : v12 9 = (v 9) := hk9_v12
      have zq9_v12 := congrArg Int32.toInt hq9_v12
      refine lv_aload_n hx hb dX11_hem_31 rfl (lv_at hl 0 rfl) ?_
      refine va_get (D := (dC, dI)) (ci := 11) (v := .ref (r 59)) (C := RX11) (T := TX11) (N := 79) hx hb hts inB_11 hown hE.1 hP 0 rfl rfl 59 (by decide) (hts _ k_1379) (fun _ h9 => h9) rfl dX11_hem_32 ?_
      refine lv_bipush (v := 12) hx hb dX11_hem_35 (by decide) ?_
      refine lv_iload_n hx hb dX11_hem_37 rfl (lv_at hl 1 rfl) ?_
      refine lv_iadd hx hb dX11_hem_38 ?_
      refine tI (y := t4) et4.symm ?_
      refine lv_dup2_11 hx hb dX11_hem_39 rfl rfl ?_
      refine ldI hx hb hE hP 24 rfl (vp_in_iff.mpr ⟨by omega, by omega⟩) rfl rfl dX11_hem_40 ?_
      refine lv_topi (fun t16 et16 => ?_)
      have zt16 : t4.toInt.toNat % 39 < 6 ∨ 12 ≤ t4.toInt.toNat % 39 ∨ (-1 ≤ t16.toInt ∧ t16.toInt ≤ 5) := by rw [et16]; exact wear_ld hCf13.1 (show t4.toInt.toNat < 39 by omega)
      refine lv_iload_n hx hb dX11_hem_41 rfl (lv_at hl 2 rfl) ?_
      refine lv_isub hx hb dX11_hem_42 ?_
      refine lv_topi (fun t17 et17 => ?_)
      refine stI hx hb hE hP hD hS 24 rfl (vp_in_iff.mpr ⟨by omega, by omega⟩) rfl dX11_hem_43 (fun H locs hP hD hS => ?_)
      obtain ⟨f18, ef18, hP, hD⟩ : ∃ fz9, fz9 = upd2 f13 23 (upd (f13 23) t4.toNatClampNeg t17) ∧ va_P (dC, dI) vwCl (YW cy y0 r v12 fz9 w14 g15) H ∧ va_D A (YW cy y0 r v12 fz9 w14 g15) := ⟨_, rfl, hP, hD⟩
      have hCf18 : YC f18 := by rw [ef18]; exact ⟨(wear_st hCf13.1 (by show t4.toInt.toNat % 39 < 6 ∨ 12 ≤ t4.toInt.toNat % 39 ∨ (-1 ≤ t17.toInt ∧ t17.toInt ≤ 5); omega)), hCf13.2.1, hCf13.2.2.1, hCf13.2.2.2.1, hCf13.2.2.2.2.1, hCf13.2.2.2.2.2⟩
      have hRf18 : progOK (f18 4) (f18 5) (v12 9).toInt.toNat := by rw [ef18]; exact hRf13
      have hA_f18 : KF [23, 24, 25] f18 f := by rw [ef18]; exact KF.up hA_f13 rfl
      refine lv_aload_n hx hb dX11_hem_44 rfl (lv_at hl 0 rfl) ?_
      refine va_get (D := (dC, dI)) (ci := 11) (v := .ref (r 59)) (C := RX11) (T := TX11) (N := 79) hx hb hts inB_11 hown hE.1 hP 0 rfl rfl 59 (by decide) (hts _ k_1379) (fun _ h9 => h9) rfl dX11_hem_45 ?_
      refine lv_bipush (v := 12) hx hb dX11_hem_48 (by decide) ?_
      refine lv_iload_n hx hb dX11_hem_50 rfl (lv_at hl 1 rfl) ?_
      refine lv_iadd hx hb dX11_hem_51 ?_
      refine tI (y := t4) et4.symm ?_
      refine ldI hx hb hE hP 24 rfl (vp_in_iff.mpr ⟨by omega, by omega⟩) rfl rfl dX11_hem_52 ?_
      refine lv_topi (fun t19 et19 => ?_)
      have zt19 : t4.toInt.toNat % 39 < 6 ∨ 12 ≤ t4.toInt.toNat % 39 ∨ (-1 ≤ t19.toInt ∧ t19.toInt ≤ 5) := by rw [et19]; exact wear_ld hCf18.1 (show t4.toInt.toNat < 39 by omega)
      exact ret t19 (v12, f18, w14, g15) _ _ _ _ _ _ rfl ⟨(gsY_X11_hem_1_q0 hG2 et4 et6 hG9 hG11 et16 et17 ef18 et19), hM_v12, hA_f18, hIv12, hCf18, hRf18, hk0_v12, hk1_v12, hk2_v12, hk3_v12, hk4_v12, hk5_v12, hk8_v12, hk9_v12, hk10_v12, hk13_v12, hk14_v12, hk15_v12, hk17_v12, hk18_v12, hk24_v12, hk25_v12, hk38_v12, hk39_v12⟩ hP hD hS dX11_hem_53 (Nat.le_refl _) (Nat.le_refl _)
    · skip
      subst g10
      refine lv_if_ne (tgt := 27) hx hb dX11_hem_22 (by decide) (fun c0 => absurd (by decide) c0) (fun _ => ?_)
      refine lv_iconst (v := (-1)) hx hb dX11_hem_25 (by decide) ?_
      exact ret (-1) (v, f, w, g) _ _ _ _ _ _ rfl ⟨(gsY_X11_hem_1_q1 hG2 et4 et6 hG9), hM_v, hA_f, hIv, hCf, hRf, rfl, rfl, rfl, rfl, rfl, rfl, rfl, rfl, rfl, rfl, rfl, rfl, rfl, rfl, rfl, rfl, rfl, rfl⟩ hP hD hS dX11_hem_26 (Nat.le_refl _) (Nat.le_refl _)
  · skip
    subst g3
    refine lv_if_eq (tgt := 25) hx hb dX11_hem_5 (by decide) (fun _ => ?_) (fun c0 => absurd (by decide) c0)
    refine lv_iconst (v := (-1)) hx hb dX11_hem_25 (by decide) ?_
    exact ret (-1) (v, f, w, g) _ _ _ _ _ _ rfl ⟨(gsY_X11_hem_1_q2 hG2), hM_v, hA_f, hIv, hCf, hRf, rfl, rfl, rfl, rfl, rfl, rfl, rfl, rfl, rfl, rfl, rfl, rfl, rfl, rfl, rfl, rfl, rfl, rfl⟩ hP hD hS dX11_hem_26 (Nat.le_refl _) (Nat.le_refl _)
set_option maxHeartbeats 4000000 in
set_option maxRecDepth 100000 in
theorem sY_X11_turn_1 (NF : Nat) (l : Launch) (dC : Nat → ClassId) (dI : Nat → Nat → Nat) (cy : Nat → ClassId) (y0 : Nat) (r : Nat → Nat) (p1 : Int32) (v : Nat → Int32) (f : Nat → Nat → Int32) (w : Int64) (g : Nat → Int64) (hIv : YI v) (hCf : YC f) (hRf : progOK (f 4) (f 5) (v 9).toInt.toNat)  : ctI l (dC, dI) cy yX11_turn cX11_turn 3 .int 3 103 0 0 ((Nat → Int32) × (Nat → Nat → Int32) × (Int64) × (Nat → Int64)) [.ref y0, .int p1] (YW cy y0 r v f w g) (fun r u => gsY_X11_turn_1 NF p1 v f w g = (r, u) ∧ KV [35, 36] u.1 v ∧ KF [23, 24, 25] u.2.1 f ∧ YI u.1 ∧ YC u.2.1 ∧ progOK (u.2.1 4) (u.2.1 5) (u.1 9).toInt.toNat ∧ u.1 0 = v 0 ∧ u.1 1 = v 1 ∧ u.1 2 = v 2 ∧ u.1 3 = v 3 ∧ u.1 4 = v 4 ∧ u.1 5 = v 5 ∧ u.1 8 = v 8 ∧ u.1 9 = v 9 ∧ u.1 10 = v 10 ∧ u.1 13 = v 13 ∧ u.1 14 = v 14 ∧ u.1 15 = v 15 ∧ u.1 17 = v 17 ∧ u.1 18 = v 18 ∧ u.1 24 = v 24 ∧ u.1 25 = v 25 ∧ u.1 38 = v 38 ∧ u.1 39 = v 39) (fun u => YW cy y0 r u.1 u.2.1 u.2.2.1 u.2.2.2) := by
  refine ctI_of (by decide) (Nat.le_of_ble_eq_true rfl) (fun p e s m below meth c A ls Q hx hb hml hts hown hE hP hD hA hl ret => ?_)
  have hUv : (v 35).toInt + (v 36).toInt ≤ 40 := hIv.2
  have hM_v : KV [35, 36] v v := fun _ _ => rfl
  have hA_f : KF [23, 24, 25] f f := fun _ _ => rfl
  have hown : s.vm.findClass RX11 = some m.cls := hown
  have hS : va_S A s.heap s.heap [] := va_S.rf
  have hl : lv_has ls 3 [(0, .ref y0), (1, .int p1)] := hl
  refine lv_aload_n hx hb dX11_turn_0 rfl (lv_at hl 0 rfl) ?_
  refine lv_iload_n hx hb dX11_turn_1 rfl (lv_at hl 1 rfl) ?_
  refine cbVi (n := 1) (rest := []) hx hb hml hown hts hE hP hD hS hA (sY_X11_isCoat_1 NF l dC dI cy y0 r p1 v f w g hIv hCf hRf ) k_1771 k_1773 k_75 k_114 k_1774 (by decide +kernel) ⟨Nat.le_of_ble_eq_true rfl, Nat.le_of_ble_eq_true rfl⟩ 0 11 rfl rfl (rfl) hl.1 rfl (Nat.le_of_ble_eq_true rfl) dX11_turn_2 (fun r1 u H locs hw hP hD hS => ?_)
  obtain ⟨hG2, hw⟩ := hw
  rcases hw with ⟨g3, g3_0, g3_1, g3_2⟩ | ⟨g3⟩
  · skip
    subst g3
    refine lv_if_eq (tgt := 23) hx hb dX11_turn_5 (by decide) (fun c0 => absurd c0 (by decide)) (fun _ => ?_)
    refine lv_aload_n hx hb dX11_turn_8 rfl (lv_at hl 0 rfl) ?_
    refine va_get (D := (dC, dI)) (ci := 11) (v := .ref (r 59)) (C := RX11) (T := TX11) (N := 79) hx hb hts inB_11 hown hE.1 hP 0 rfl rfl 59 (by decide) (hts _ k_1379) (fun _ h9 => h9) rfl dX11_turn_9 ?_
    refine lv_bipush (v := 36) hx hb dX11_turn_12 (by decide) ?_
    refine ldI hx hb hE hP 24 rfl (vp_in_nI (n := 36) (by decide) (by decide)) rfl rfl dX11_turn_14 ?_
    refine lv_topi (fun t4 et4 => ?_)
    have zt4 : 36 % 39 < 6 ∨ 12 ≤ 36 % 39 ∨ (-1 ≤ t4.toInt ∧ t4.toInt ≤ 5) := by rw [et4]; exact wear_ld hCf.1 (show 36 < 39 by omega)
    refine lv_iload_n hx hb dX11_turn_15 rfl (lv_at hl 1 rfl) ?_
    refine lv_ishr hx hb dX11_turn_16 ?_
    refine lv_topi (fun t5 et5 => ?_)
    refine lv_iconst (v := 1) hx hb dX11_turn_17 (by decide) ?_
    refine lv_iand hx hb dX11_turn_18 ?_
    refine lv_topi (fun t6 et6 => ?_)
    have zt6 : 0 ≤ t6.toInt ∧ t6.toInt < 2 := by rw [et6]; exact and_rng _ (k := 1) (by decide) (by decide)
    refine lv_iconst (v := 1) hx hb dX11_turn_19 (by decide) ?_
    refine lv_icmp_ne (tgt := 25) hx hb dX11_turn_20 (by decide) (fun c7 => ?_) (fun c7 => ?_)
    · skip
      have zc7 : ¬ (t6.toInt = 1) := by rw [fa_eq, show (1 : Int32).toInt = 1 from by decide] at c7; exact c7
      refine lv_aload_n hx hb dX11_turn_25 rfl (lv_at hl 0 rfl) ?_
      refine cbVv (n := 0) (rest := []) hx hb hml hown hts hE hP hD hS hA (sY_X11_act_1 NF l dC dI cy y0 r  v f w g hIv hCf hRf ) k_1787 k_1789 k_77 k_114 k_1790 (by decide +kernel) ⟨Nat.le_of_ble_eq_true rfl, Nat.le_of_ble_eq_true rfl⟩ 0 11 rfl rfl (rfl) hl.1 rfl (Nat.le_of_ble_eq_true rfl) dX11_turn_26 (fun u H locs hw hP hD hS => ?_)
      obtain ⟨hG8, hw⟩ := hw
      obtain ⟨v9, f10, w11, g12⟩ := u
      obtain ⟨kV_v9, kF_f10, hIv9, hCf10, hRf10, hk0_v9, hk1_v9, hk2_v9, hk3_v9, hk4_v9, hk5_v9, hk8_v9, hk9_v9, hk10_v9, hk13_v9, hk14_v9, hk15_v9, hk17_v9, hk18_v9, hk24_v9, hk25_v9, hk38_v9, hk39_v9⟩ := hw
      have hM_v9 : KV [35, 36] v9 v := KV.tr kV_v9 hM_v rfl
      have hA_f10 : KF [23, 24, 25] f10 f := KF.tr kF_f10 hA_f rfl
      have hP : va_P (dC, dI) vwCl (YW cy y0 r v9 f10 w11 g12) H := hP
      have hD : va_D A (YW cy y0 r v9 f10 w11 g12) := hD
      have hUv9 : (v9 35).toInt + (v9 36).toInt ≤ 40 := hIv9.2
      have hq9_v9 : v9 9 = (v 9) := hk9_v9
      have zq9_v9 := congrArg Int32.toInt hq9_v9
      refine lv_aload_n hx hb dX11_turn_29 rfl (lv_at hl 0 rfl) ?_
      refine va_get (D := (dC, dI)) (ci := 11) (v := .ref (r 59)) (C := RX11) (T := TX11) (N := 79) hx hb hts inB_11 hown hE.1 hP 0 rfl rfl 59 (by decide) (hts _ k_1379) (fun _ h9 => h9) rfl dX11_turn_30 ?_
      refine lv_bipush (v := 30) hx hb dX11_turn_33 (by decide) ?_
      refine lv_iload_n hx hb dX11_turn_35 rfl (lv_at hl 1 rfl) ?_
      refine lv_iadd hx hb dX11_turn_36 ?_
      refine lv_topi (fun t13 et13 => ?_)
      have rg14 := fb_rng p1
      have zt13 : t13.toInt = 30 + p1.toInt := by rw [et13]; exact add_i (by decide) rfl (by omega) (by omega)
      refine ldI hx hb hE hP 24 rfl (vp_in_iff.mpr ⟨by omega, by omega⟩) rfl rfl dX11_turn_37 ?_
      refine lv_topi (fun t15 et15 => ?_)
      have zt15 : t13.toInt.toNat % 39 < 6 ∨ 12 ≤ t13.toInt.toNat % 39 ∨ (-1 ≤ t15.toInt ∧ t15.toInt ≤ 5) := by rw [et15]; exact wear_ld hCf10.1 (show t13.toInt.toNat < 39 by omega)
      refine lv_istore_n (lv' := [(2, .int t15), (0, .ref y0), (1, .int p1)]) hx hb dX11_turn_38 rfl hl (by decide) rfl (fun ls hl => ?_)
      refine lv_aload_n hx hb dX11_turn_39 rfl (lv_at hl 1 rfl) ?_
      refine va_get (D := (dC, dI)) (ci := 11) (v := .ref (r 59)) (C := RX11) (T := TX11) (N := 79) hx hb hts inB_11 hown hE.1 hP 0 rfl rfl 59 (by decide) (hts _ k_1379) (fun _ h9 => h9) rfl dX11_turn_40 ?_
      refine lv_bipush (v := 30) hx hb dX11_turn_43 (by decide) ?_
      refine lv_iload_n hx hb dX11_turn_45 rfl (lv_at hl 2 rfl) ?_
      refine lv_iadd hx hb dX11_turn_46 ?_
      refine tI (y := t13) et13.symm ?_
      refine lv_iconst (v := 0) hx hb dX11_turn_47 (by decide) ?_
      refine stI hx hb hE hP hD hS 24 rfl (vp_in_iff.mpr ⟨by omega, by omega⟩) rfl dX11_turn_48 (fun H locs hP hD hS => ?_)
      obtain ⟨f16, ef16, hP, hD⟩ : ∃ fz9, fz9 = upd2 f10 23 (upd (f10 23) t13.toNatClampNeg 0) ∧ va_P (dC, dI) vwCl (YW cy y0 r v9 fz9 w11 g12) H ∧ va_D A (YW cy y0 r v9 fz9 w11 g12) := ⟨_, rfl, hP, hD⟩
      have hCf16 : YC f16 := by rw [ef16]; exact ⟨(wear_st hCf10.1 (by have q9 : (0 : Int32).toInt = 0 := (by decide); show t13.toInt.toNat % 39 < 6 ∨ 12 ≤ t13.toInt.toNat % 39 ∨ (-1 ≤ (0 : Int32).toInt ∧ (0 : Int32).toInt ≤ 5); omega)), hCf10.2.1, hCf10.2.2.1, hCf10.2.2.2.1, hCf10.2.2.2.2.1, hCf10.2.2.2.2.2⟩
      have hRf16 : progOK (f16 4) (f16 5) (v9 9).toInt.toNat := by rw [ef16]; exact hRf10
      have hA_f16 : KF [23, 24, 25] f16 f := by rw [ef16]; exact KF.up hA_f10 rfl
      refine lv_aload_n hx hb dX11_turn_49 rfl (lv_at hl 1 rfl) ?_
      refine va_get (D := (dC, dI)) (ci := 11) (v := .ref (r 59)) (C := RX11) (T := TX11) (N := 79) hx hb hts inB_11 hown hE.1 hP 0 rfl rfl 59 (by decide) (hts _ k_1379) (fun _ h9 => h9) rfl dX11_turn_50 ?_
      refine lv_bipush (v := 36) hx hb dX11_turn_53 (by decide) ?_
      refine lv_dup2_11 hx hb dX11_turn_55 rfl rfl ?_
      refine ldI hx hb hE hP 24 rfl (vp_in_nI (n := 36) (by decide) (by decide)) rfl rfl dX11_turn_56 ?_
      refine lv_topi (fun t17 et17 => ?_)
      have zt17 : 36 % 39 < 6 ∨ 12 ≤ 36 % 39 ∨ (-1 ≤ t17.toInt ∧ t17.toInt ≤ 5) := by rw [et17]; exact wear_ld hCf16.1 (show 36 < 39 by omega)
      refine lv_iconst (v := 1) hx hb dX11_turn_57 (by decide) ?_
      refine lv_iload_n hx hb dX11_turn_58 rfl (lv_at hl 2 rfl) ?_
      refine lv_ishl hx hb dX11_turn_59 ?_
      refine lv_topi (fun t18 et18 => ?_)
      have zt18 : 1 ≤ t18.toInt ∧ t18.toInt ≤ 32 := by rw [et18]; exact shl1_rng (by omega) (by omega)
      refine lv_ior hx hb dX11_turn_60 ?_
      refine lv_topi (fun t19 et19 => ?_)
      refine stI hx hb hE hP hD hS 24 rfl (vp_in_nI (n := 36) (by decide) (by decide)) rfl dX11_turn_61 (fun H locs hP hD hS => ?_)
      obtain ⟨f20, ef20, hP, hD⟩ : ∃ fz9, fz9 = upd2 f16 23 (upd (f16 23) (36 : Int32).toNatClampNeg t19) ∧ va_P (dC, dI) vwCl (YW cy y0 r v9 fz9 w11 g12) H ∧ va_D A (YW cy y0 r v9 fz9 w11 g12) := ⟨_, rfl, hP, hD⟩
      have hCf20 : YC f20 := by rw [ef20]; exact ⟨(wear_st hCf16.1 (by show 36 % 39 < 6 ∨ 12 ≤ 36 % 39 ∨ (-1 ≤ t19.toInt ∧ t19.toInt ≤ 5); omega)), hCf16.2.1, hCf16.2.2.1, hCf16.2.2.2.1, hCf16.2.2.2.2.1, hCf16.2.2.2.2.2⟩
      have hRf20 : progOK (f20 4) (f20 5) (v9 9).toInt.toNat := by rw [ef20]; exact hRf16
      have hA_f20 : KF [23, 24, 25] f20 f := by rw [ef20]; exact KF.up hA_f16 rfl
      refine lv_iload_n hx hb dX11_turn_62 rfl (lv_at hl 0 rfl) ?_
      exact ret t15 (v9, f20, w11, g12) _ _ _ _ _ _ rfl ⟨(gsY_X11_turn_1_q0 hG2 et4 et5 et6 c7 hG8 et13 et15 ef16 et17 et18 et19 ef20), hM_v9, hA_f20, hIv9, hCf20, hRf20, hk0_v9, hk1_v9, hk2_v9, hk3_v9, hk4_v9, hk5_v9, hk8_v9, hk9_v9, hk10_v9, hk13_v9, hk14_v9, hk15_v9, hk17_v9, hk18_v9, hk24_v9, hk25_v9, hk38_v9, hk39_v9⟩ hP hD hS dX11_turn_63 (Nat.le_refl _) (Nat.le_refl _)
    · skip
      have zc7 : t6.toInt = 1 := by rw [fa_eq, show (1 : Int32).toInt = 1 from by decide] at c7; exact c7
      refine lv_iconst (v := (-1)) hx hb dX11_turn_23 (by decide) ?_
      exact ret (-1) (v, f, w, g) _ _ _ _ _ _ rfl ⟨(gsY_X11_turn_1_q1 hG2 et4 et5 et6 c7), hM_v, hA_f, hIv, hCf, hRf, rfl, rfl, rfl, rfl, rfl, rfl, rfl, rfl, rfl, rfl, rfl, rfl, rfl, rfl, rfl, rfl, rfl, rfl⟩ hP hD hS dX11_turn_24 (Nat.le_refl _) (Nat.le_refl _)
  · skip
    subst g3
    refine lv_if_eq (tgt := 23) hx hb dX11_turn_5 (by decide) (fun _ => ?_) (fun c0 => absurd (by decide) c0)
    refine lv_iconst (v := (-1)) hx hb dX11_turn_23 (by decide) ?_
    exact ret (-1) (v, f, w, g) _ _ _ _ _ _ rfl ⟨(gsY_X11_turn_1_q2 hG2), hM_v, hA_f, hIv, hCf, hRf, rfl, rfl, rfl, rfl, rfl, rfl, rfl, rfl, rfl, rfl, rfl, rfl, rfl, rfl, rfl, rfl, rfl, rfl⟩ hP hD hS dX11_turn_24 (Nat.le_refl _) (Nat.le_refl _)
set_option maxHeartbeats 4000000 in
set_option maxRecDepth 100000 in
theorem sY_X11_exchange_1 (NF : Nat) (l : Launch) (dC : Nat → ClassId) (dI : Nat → Nat → Nat) (cy : Nat → ClassId) (y0 : Nat) (r : Nat → Nat) (p1 : Int32) (v : Nat → Int32) (f : Nat → Nat → Int32) (w : Int64) (g : Nat → Int64) (hIv : YI v) (hCf : YC f) (hRf : progOK (f 4) (f 5) (v 9).toInt.toNat) (hp1 : (0 : Int) ≤ p1.toInt ∧ p1.toInt ≤ 1521) (hf0 : p1.toInt % 39 = 0) : ctV l (dC, dI) cy yX11_exchange cX11_exchange 4 1 60 0 0 ((Nat → Int32) × (Nat → Nat → Int32) × (Int64) × (Nat → Int64)) [.ref y0, .int p1] (YW cy y0 r v f w g) (fun u => gsY_X11_exchange_1 NF p1 v f w g = u ∧ KV [] u.1 v ∧ KF [23, 25] u.2.1 f ∧ YI u.1 ∧ YC u.2.1 ∧ progOK (u.2.1 4) (u.2.1 5) (u.1 9).toInt.toNat ∧ u.1 0 = v 0 ∧ u.1 1 = v 1 ∧ u.1 2 = v 2 ∧ u.1 3 = v 3 ∧ u.1 4 = v 4 ∧ u.1 5 = v 5 ∧ u.1 8 = v 8 ∧ u.1 9 = v 9 ∧ u.1 10 = v 10 ∧ u.1 13 = v 13 ∧ u.1 14 = v 14 ∧ u.1 15 = v 15 ∧ u.1 17 = v 17 ∧ u.1 18 = v 18 ∧ u.1 24 = v 24 ∧ u.1 25 = v 25 ∧ u.1 35 = v 35 ∧ u.1 36 = v 36 ∧ u.1 38 = v 38 ∧ u.1 39 = v 39) (fun u => YW cy y0 r u.1 u.2.1 u.2.2.1 u.2.2.2) := by
  refine ctV_of (by decide) (Nat.le_of_ble_eq_true rfl) (fun p e s m below meth c A ls Q hx hb hml hts hown hnm hE hP hD hA hl ret => ?_)
  have hUv : (v 35).toInt + (v 36).toInt ≤ 40 := hIv.2
  have hM_v : KV [] v v := fun _ _ => rfl
  have hA_f : KF [23, 25] f f := fun _ _ => rfl
  have hown : s.vm.findClass RX11 = some m.cls := hown
  have hS : va_S A s.heap s.heap [] := va_S.rf
  have hl : lv_has ls 4 [(0, .ref y0), (1, .int p1)] := hl
  refine lv_iconst (v := 0) hx hb dX11_exchange_0 (by decide) ?_
  refine lv_istore_n (lv' := [(2, .int 0), (0, .ref y0), (1, .int p1)]) hx hb dX11_exchange_1 rfl hl (by decide) rfl (fun ls hl => ?_)
  have lp1 : ∀ (n1 : Nat) (l2_1 : Int32) (v1 : Nat → Int32) (f1 : Nat → Nat → Int32) (w1 : Int64) (g1 : Nat → Int64), YI v1 → YC f1 → progOK (f1 4) (f1 5) (v1 9).toInt.toNat → v1 0 = (v 0) → v1 1 = (v 1) → v1 2 = (v 2) → v1 3 = (v 3) → v1 4 = (v 4) → v1 5 = (v 5) → v1 8 = (v 8) → v1 9 = (v 9) → v1 10 = (v 10) → v1 13 = (v 13) → v1 14 = (v 14) → v1 15 = (v 15) → v1 17 = (v 17) → v1 18 = (v 18) → v1 24 = (v 24) → v1 25 = (v 25) → v1 35 = (v 35) → v1 36 = (v 36) → v1 38 = (v 38) → v1 39 = (v 39) → gsY_X11_exchange_1_L1 NF p1 n1 l2_1 v1 f1 w1 g1 = (gsY_X11_exchange_1 NF p1 v f w g) → ((0 : Int) ≤ l2_1.toInt ∧ l2_1.toInt ≤ 2147483647) → KV [] v1 v → KF [23, 25] f1 f → (2147483647 - l2_1.toInt).toNat < n1 → ∀ (H : Heap) (locs : List Loc) (ls : Array Slot), va_P (dC, dI) vwCl (YW cy y0 r v1 f1 w1 g1) H → va_D A (YW cy y0 r v1 f1 w1 g1) → va_S A s.heap H locs → lv_has ls 4 [(2, .int l2_1), (0, .ref y0), (1, .int p1)] → W p l e { frames := 1, cells := 0, slots := 0, locals := 60 } s m ([.ref y0, .int p1] : List Value).toArray below meth c H locs 0 0 Q (F0 m 2 ls []) := by
    intro n1
    induction n1 with
    | zero => intro l2_1 v1 f1 w1 g1 hIv1 hCf1 hRf1 hq0_v1 hq1_v1 hq2_v1 hq3_v1 hq4_v1 hq5_v1 hq8_v1 hq9_v1 hq10_v1 hq13_v1 hq14_v1 hq15_v1 hq17_v1 hq18_v1 hq24_v1 hq25_v1 hq35_v1 hq36_v1 hq38_v1 hq39_v1 hT1 hr2_1 hM_v1 hA_f1 hm; exact absurd hm (Nat.not_lt_zero _)
    | succ n1 ih1 =>
      intro l2_1 v1 f1 w1 g1 hIv1 hCf1 hRf1 hq0_v1 hq1_v1 hq2_v1 hq3_v1 hq4_v1 hq5_v1 hq8_v1 hq9_v1 hq10_v1 hq13_v1 hq14_v1 hq15_v1 hq17_v1 hq18_v1 hq24_v1 hq25_v1 hq35_v1 hq36_v1 hq38_v1 hq39_v1 hT1 hr2_1 hM_v1 hA_f1 hm1 H locs ls hP hD hS hl
      have hUv1 : (v1 35).toInt + (v1 36).toInt ≤ 40 := hIv1.2
      have zq9_v1 := congrArg Int32.toInt hq9_v1
      refine lv_iload_n hx hb dX11_exchange_2 rfl (lv_at hl 0 rfl) ?_
      refine lv_bipush (v := 39) hx hb dX11_exchange_3 (by decide) ?_
      refine lv_icmp_ge (tgt := 44) hx hb dX11_exchange_5 (by decide) (fun c2 => ?_) (fun c2 => ?_)
      · skip
        have zc2 : 39 ≤ l2_1.toInt := by rw [fa_le, show (39 : Int32).toInt = 39 from by decide] at c2; exact c2
        exact ret (v1, f1, w1, g1) _ _ _ _ _ _ ⟨(hT1.symm.trans (gsY_X11_exchange_1_q0 c2)), hM_v1, hA_f1, hIv1, hCf1, hRf1, (show v1 0 = v 0 from hq0_v1), (show v1 1 = v 1 from hq1_v1), (show v1 2 = v 2 from hq2_v1), (show v1 3 = v 3 from hq3_v1), (show v1 4 = v 4 from hq4_v1), (show v1 5 = v 5 from hq5_v1), (show v1 8 = v 8 from hq8_v1), (show v1 9 = v 9 from hq9_v1), (show v1 10 = v 10 from hq10_v1), (show v1 13 = v 13 from hq13_v1), (show v1 14 = v 14 from hq14_v1), (show v1 15 = v 15 from hq15_v1), (show v1 17 = v 17 from hq17_v1), (show v1 18 = v 18 from hq18_v1), (show v1 24 = v 24 from hq24_v1), (show v1 25 = v 25 from hq25_v1), (show v1 35 = v 35 from hq35_v1), (show v1 36 = v 36 from hq36_v1), (show v1 38 = v 38 from hq38_v1), (show v1 39 = v 39 from hq39_v1)⟩ hP hD hS dX11_exchange_44 (Nat.le_refl _) (Nat.le_refl _)
      · skip
        have zc2 : ¬ (39 ≤ l2_1.toInt) := by rw [fa_le, show (39 : Int32).toInt = 39 from by decide] at c2; exact c2
        refine lv_aload_n hx hb dX11_exchange_8 rfl (lv_at hl 1 rfl) ?_
        refine va_get (D := (dC, dI)) (ci := 11) (v := .ref (r 61)) (C := RX11) (T := TX11) (N := 79) hx hb hts inB_11 hown hE.1 hP 0 rfl rfl 61 (by decide) (hts _ k_1381) (fun _ h9 => h9) rfl dX11_exchange_9 ?_
        refine lv_iload_n hx hb dX11_exchange_12 rfl (lv_at hl 2 rfl) ?_
        refine lv_iload_n hx hb dX11_exchange_13 rfl (lv_at hl 0 rfl) ?_
        refine lv_iadd hx hb dX11_exchange_14 ?_
        refine lv_topi (fun t3 et3 => ?_)
        have rg4 := fb_rng p1
        have rg5 := fb_rng l2_1
        have zt3 : t3.toInt = p1.toInt + l2_1.toInt := by rw [et3]; exact add_i rfl rfl (by omega) (by omega)
        refine ldI hx hb hE hP 26 rfl (vp_in_iff.mpr ⟨by omega, by omega⟩) rfl rfl dX11_exchange_15 ?_
        refine lv_topi (fun t6 et6 => ?_)
        have zt6 : t3.toInt.toNat % 39 < 6 ∨ 12 ≤ t3.toInt.toNat % 39 ∨ (-1 ≤ t6.toInt ∧ t6.toInt ≤ 5) := by rw [et6]; exact wear_ld hCf1.2.2.1 (show t3.toInt.toNat < 1560 by omega)
        refine lv_istore_n (lv' := [(3, .int t6), (2, .int l2_1), (0, .ref y0), (1, .int p1)]) hx hb dX11_exchange_16 rfl hl (by decide) rfl (fun ls hl => ?_)
        refine lv_aload_n hx hb dX11_exchange_17 rfl (lv_at hl 2 rfl) ?_
        refine va_get (D := (dC, dI)) (ci := 11) (v := .ref (r 61)) (C := RX11) (T := TX11) (N := 79) hx hb hts inB_11 hown hE.1 hP 0 rfl rfl 61 (by decide) (hts _ k_1381) (fun _ h9 => h9) rfl dX11_exchange_18 ?_
        refine lv_iload_n hx hb dX11_exchange_21 rfl (lv_at hl 3 rfl) ?_
        refine lv_iload_n hx hb dX11_exchange_22 rfl (lv_at hl 1 rfl) ?_
        refine lv_iadd hx hb dX11_exchange_23 ?_
        refine tI (y := t3) et3.symm ?_
        refine lv_aload_n hx hb dX11_exchange_24 rfl (lv_at hl 2 rfl) ?_
        refine va_get (D := (dC, dI)) (ci := 11) (v := .ref (r 59)) (C := RX11) (T := TX11) (N := 79) hx hb hts inB_11 hown hE.1 hP 0 rfl rfl 59 (by decide) (hts _ k_1379) (fun _ h9 => h9) rfl dX11_exchange_25 ?_
        refine lv_iload_n hx hb dX11_exchange_28 rfl (lv_at hl 1 rfl) ?_
        refine ldI hx hb hE hP 24 rfl (vp_in_iff.mpr ⟨by omega, by omega⟩) rfl rfl dX11_exchange_29 ?_
        refine lv_topi (fun t7 et7 => ?_)
        have zt7 : l2_1.toInt.toNat % 39 < 6 ∨ 12 ≤ l2_1.toInt.toNat % 39 ∨ (-1 ≤ t7.toInt ∧ t7.toInt ≤ 5) := by rw [et7]; exact wear_ld hCf1.1 (show l2_1.toInt.toNat < 39 by omega)
        refine stI hx hb hE hP hD hS 26 rfl (vp_in_iff.mpr ⟨by omega, by omega⟩) rfl dX11_exchange_30 (fun H locs hP hD hS => ?_)
        obtain ⟨f8, ef8, hP, hD⟩ : ∃ fz9, fz9 = upd2 f1 25 (upd (f1 25) t3.toNatClampNeg t7) ∧ va_P (dC, dI) vwCl (YW cy y0 r v1 fz9 w1 g1) H ∧ va_D A (YW cy y0 r v1 fz9 w1 g1) := ⟨_, rfl, hP, hD⟩
        have hCf8 : YC f8 := by rw [ef8]; exact ⟨hCf1.1, hCf1.2.1, (wear_st hCf1.2.2.1 (by show t3.toInt.toNat % 39 < 6 ∨ 12 ≤ t3.toInt.toNat % 39 ∨ (-1 ≤ t7.toInt ∧ t7.toInt ≤ 5); omega)), hCf1.2.2.2.1, hCf1.2.2.2.2.1, hCf1.2.2.2.2.2⟩
        have hRf8 : progOK (f8 4) (f8 5) (v1 9).toInt.toNat := by rw [ef8]; exact hRf1
        have hA_f8 : KF [23, 25] f8 f := by rw [ef8]; exact KF.up hA_f1 rfl
        refine lv_aload_n hx hb dX11_exchange_31 rfl (lv_at hl 2 rfl) ?_
        refine va_get (D := (dC, dI)) (ci := 11) (v := .ref (r 59)) (C := RX11) (T := TX11) (N := 79) hx hb hts inB_11 hown hE.1 hP 0 rfl rfl 59 (by decide) (hts _ k_1379) (fun _ h9 => h9) rfl dX11_exchange_32 ?_
        refine lv_iload_n hx hb dX11_exchange_35 rfl (lv_at hl 1 rfl) ?_
        refine lv_iload_n hx hb dX11_exchange_36 rfl (lv_at hl 0 rfl) ?_
        refine stI hx hb hE hP hD hS 24 rfl (vp_in_iff.mpr ⟨by omega, by omega⟩) rfl dX11_exchange_37 (fun H locs hP hD hS => ?_)
        obtain ⟨f9, ef9, hP, hD⟩ : ∃ fz9, fz9 = upd2 f8 23 (upd (f8 23) l2_1.toNatClampNeg t6) ∧ va_P (dC, dI) vwCl (YW cy y0 r v1 fz9 w1 g1) H ∧ va_D A (YW cy y0 r v1 fz9 w1 g1) := ⟨_, rfl, hP, hD⟩
        have hCf9 : YC f9 := by rw [ef9]; exact ⟨(wear_st hCf8.1 (by show l2_1.toInt.toNat % 39 < 6 ∨ 12 ≤ l2_1.toInt.toNat % 39 ∨ (-1 ≤ t6.toInt ∧ t6.toInt ≤ 5); omega)), hCf8.2.1, hCf8.2.2.1, hCf8.2.2.2.1, hCf8.2.2.2.2.1, hCf8.2.2.2.2.2⟩
        have hRf9 : progOK (f9 4) (f9 5) (v1 9).toInt.toNat := by rw [ef9]; exact hRf8
        have hA_f9 : KF [23, 25] f9 f := by rw [ef9]; exact KF.up hA_f8 rfl
        obtain ⟨t10, et10⟩ : ∃ y : Int32, y = l2_1 + 1 := ⟨_, rfl⟩
        have zt10 : t10.toInt = l2_1.toInt + 1 := by rw [et10]; exact add_i rfl (by decide) (by omega) (by omega)
        refine lv_iinc (v := t10) (lv' := [(2, .int t10), (3, .int t6), (0, .ref y0), (1, .int p1)]) hx hb dX11_exchange_38 hl (k := 1) rfl (by rw [et10]; rfl) (by decide) rfl (fun ls hl => ?_)
        refine lv_goto (tgt := 2) hx hb dX11_exchange_41 (by decide) ?_
        have rg11 := fb_rng t10
        exact ih1 t10 v1 f9 w1 g1 hIv1 hCf9 hRf9 hq0_v1 hq1_v1 hq2_v1 hq3_v1 hq4_v1 hq5_v1 hq8_v1 hq9_v1 hq10_v1 hq13_v1 hq14_v1 hq15_v1 hq17_v1 hq18_v1 hq24_v1 hq25_v1 hq35_v1 hq36_v1 hq38_v1 hq39_v1 ((gsY_X11_exchange_1_q1 c2 et3 et6 et7 ef8 ef9 et10).symm.trans hT1) ⟨show (0 : Int) ≤ t10.toInt by omega, show t10.toInt ≤ (2147483647 : Int) by omega⟩ hM_v1 hA_f9 (by show (2147483647 - t10.toInt).toNat < n1; omega) _ _ _ hP hD hS (lv_sub hl [0, 2, 3] rfl)
  exact lp1 (4294967296 + NF) 0 v f w g hIv hCf hRf rfl rfl rfl rfl rfl rfl rfl rfl rfl rfl rfl rfl rfl rfl rfl rfl rfl rfl rfl rfl gsY_X11_exchange_1_q2.symm ⟨by decide, by decide⟩ hM_v hA_f (by have q2 : (0 : Int32).toInt = 0 := (by decide); show (2147483647 - (0 : Int32).toInt).toNat < 4294967296 + NF; omega) _ _ _ hP hD hS (lv_sub hl [0, 1, 2] rfl)
set_option maxHeartbeats 4000000 in
set_option maxRecDepth 100000 in
theorem sY_X11_undo_1 (NF : Nat) (l : Launch) (dC : Nat → ClassId) (dI : Nat → Nat → Nat) (cy : Nat → ClassId) (y0 : Nat) (r : Nat → Nat)  (v : Nat → Int32) (f : Nat → Nat → Int32) (w : Int64) (g : Nat → Int64) (hIv : YI v) (hCf : YC f) (hRf : progOK (f 4) (f 5) (v 9).toInt.toNat)  : ctI l (dC, dI) cy yX11_undo cX11_undo 1 .boolean 2 83 0 0 ((Nat → Int32) × (Nat → Nat → Int32) × (Int64) × (Nat → Int64)) [.ref y0] (YW cy y0 r v f w g) (fun r u => gsY_X11_undo_1 NF v f w g = (r, u) ∧ KV [35, 36] u.1 v ∧ KF [23, 25] u.2.1 f ∧ YI u.1 ∧ YC u.2.1 ∧ progOK (u.2.1 4) (u.2.1 5) (u.1 9).toInt.toNat ∧ u.1 0 = v 0 ∧ u.1 1 = v 1 ∧ u.1 2 = v 2 ∧ u.1 3 = v 3 ∧ u.1 4 = v 4 ∧ u.1 5 = v 5 ∧ u.1 8 = v 8 ∧ u.1 9 = v 9 ∧ u.1 10 = v 10 ∧ u.1 13 = v 13 ∧ u.1 14 = v 14 ∧ u.1 15 = v 15 ∧ u.1 17 = v 17 ∧ u.1 18 = v 18 ∧ u.1 24 = v 24 ∧ u.1 25 = v 25 ∧ u.1 38 = v 38 ∧ u.1 39 = v 39 ∧ ((r = 1) ∨ (r = 0))) (fun u => YW cy y0 r u.1 u.2.1 u.2.2.1 u.2.2.2) := by
  refine ctI_of (by decide) (Nat.le_of_ble_eq_true rfl) (fun p e s m below meth c A ls Q hx hb hml hts hown hE hP hD hA hl ret => ?_)
  have hUv : (v 35).toInt + (v 36).toInt ≤ 40 := hIv.2
  have hM_v : KV [35, 36] v v := fun _ _ => rfl
  have hA_f : KF [23, 25] f f := fun _ _ => rfl
  have hown : s.vm.findClass RX11 = some m.cls := hown
  have hS : va_S A s.heap s.heap [] := va_S.rf
  have hl : lv_has ls 1 [(0, .ref y0)] := hl
  refine lv_aload_n hx hb dX11_undo_0 rfl (lv_at hl 0 rfl) ?_
  refine va_get (D := (dC, dI)) (ci := 11) (v := .int (v 35)) (C := RX11) (T := TX11) (N := 79) hx hb hts inB_11 hown hE.1 hP 0 rfl rfl 62 (by decide) (hts _ k_1382) (fun _ h9 => h9) rfl dX11_undo_1 ?_
  have b35_v : 0 ≤ (v 35).toInt ∧ (v 35).toInt ≤ 40 := YIb.b hIv.1 35 (by decide)
  refine lv_if_ne (tgt := 9) hx hb dX11_undo_4 (by decide) (fun c1 => ?_) (fun c1 => ?_)
  · skip
    have zc1 : ¬ ((v 35).toInt = 0) := by rw [fa_eq, show (0 : Int32).toInt = 0 from by decide] at c1; exact c1
    refine lv_aload_n hx hb dX11_undo_9 rfl (lv_at hl 0 rfl) ?_
    refine lv_dup hx hb dX11_undo_10 rfl ?_
    refine va_get (D := (dC, dI)) (ci := 11) (v := .int (v 35)) (C := RX11) (T := TX11) (N := 79) hx hb hts inB_11 hown hE.1 hP 0 rfl rfl 62 (by decide) (hts _ k_1382) (fun _ h9 => h9) rfl dX11_undo_11 ?_
    refine lv_iconst (v := 1) hx hb dX11_undo_14 (by decide) ?_
    refine lv_isub hx hb dX11_undo_15 ?_
    refine lv_topi (fun t2 et2 => ?_)
    have rg3 := fb_rng (v 35)
    have zt2 : t2.toInt = (v 35).toInt - 1 := by rw [et2]; exact sub_i rfl (by decide) (by omega) (by omega)
    refine va_put (D := (dC, dI)) (ci := 11) (v := .int t2) (ty := tyX11 62) (C := RX11) (T := TX11) (N := 79) hx hb hts inB_11 tyX11 tyX11_ok nmX11 hown hE.1 hP hD hS 0 rfl rfl 62 (by decide) (hts _ k_1382) (fun _ h9 => h9) rfl (tyX11_ok 62 (by decide)) rfl rfl (Nat.le_of_ble_eq_true rfl) dX11_undo_16 (fun H locs hP hD hS => ?_)
    have hP : va_P (dC, dI) vwCl (YW cy y0 r (upd v 35 t2) f w g) H := hP
    have hD : va_D A (YW cy y0 r (upd v 35 t2) f w g) := hD
    refine lv_aload_n hx hb dX11_undo_19 rfl (lv_at hl 0 rfl) ?_
    refine lv_dup hx hb dX11_undo_20 rfl ?_
    refine va_get (D := (dC, dI)) (ci := 11) (v := .int (v 36)) (C := RX11) (T := TX11) (N := 79) hx hb hts inB_11 hown hE.1 hP 0 rfl rfl 63 (by decide) (hts _ k_1383) (fun _ h9 => h9) rfl dX11_undo_21 ?_
    have b36_v : 0 ≤ (v 36).toInt ∧ (v 36).toInt ≤ 40 := YIb.b hIv.1 36 (by decide)
    refine lv_iconst (v := 1) hx hb dX11_undo_24 (by decide) ?_
    refine lv_iadd hx hb dX11_undo_25 ?_
    refine lv_topi (fun t4 et4 => ?_)
    have rg5 := fb_rng (v 36)
    have zt4 : t4.toInt = (v 36).toInt + 1 := by rw [et4]; exact add_i rfl (by decide) (by omega) (by omega)
    refine va_put (D := (dC, dI)) (ci := 11) (v := .int t4) (ty := tyX11 63) (C := RX11) (T := TX11) (N := 79) hx hb hts inB_11 tyX11 tyX11_ok nmX11 hown hE.1 hP hD hS 0 rfl rfl 63 (by decide) (hts _ k_1383) (fun _ h9 => h9) rfl (tyX11_ok 63 (by decide)) rfl rfl (Nat.le_of_ble_eq_true rfl) dX11_undo_26 (fun H locs hP hD hS => ?_)
    have hP : va_P (dC, dI) vwCl (YW cy y0 r (upd (upd v 35 t2) 36 t4) f w g) H := hP
    have hD : va_D A (YW cy y0 r (upd (upd v 35 t2) 36 t4) f w g) := hD
    refine lv_aload_n hx hb dX11_undo_29 rfl (lv_at hl 0 rfl) ?_
    refine lv_bipush (v := 39) hx hb dX11_undo_30 (by decide) ?_
    refine lv_aload_n hx hb dX11_undo_32 rfl (lv_at hl 0 rfl) ?_
    refine va_get (D := (dC, dI)) (ci := 11) (v := .int t2) (C := RX11) (T := TX11) (N := 79) hx hb hts inB_11 hown hE.1 hP 0 rfl rfl 62 (by decide) (hts _ k_1382) (fun _ h9 => h9) rfl dX11_undo_33 ?_
    refine lv_imul hx hb dX11_undo_36 ?_
    refine lv_topi (fun t6 et6 => ?_)
    have rg7 := fb_rng t2
    have zt6 : t6.toInt = 39 * t2.toInt := by rw [et6]; exact mul_i (by decide) rfl (by omega) (by omega)
    refine cbVv (n := 1) (rest := []) hx hb hml hown hts hE hP hD hS hA (sY_X11_exchange_1 NF l dC dI cy y0 r t6 (upd (upd v 35 t2) 36 t4) f w g ⟨(YIb.upd (j := 36) (x := t4) (YIb.upd (j := 35) (x := t2) hIv.1 (show (0 : Int) ≤ t2.toInt by omega) (show t2.toInt ≤ (40 : Int) by omega)) (show (0 : Int) ≤ t4.toInt by omega) (show t4.toInt ≤ (40 : Int) by omega)), (by have q9 := hIv.2; show t2.toInt + t4.toInt ≤ 40; omega)⟩ hCf hRf ⟨show (0 : Int) ≤ t6.toInt by omega, show t6.toInt ≤ (1521 : Int) by omega⟩ (by show t6.toInt % 39 = 0; omega)) k_1845 k_1847 k_83 k_114 k_1848 (by decide +kernel) ⟨Nat.le_of_ble_eq_true rfl, Nat.le_of_ble_eq_true rfl⟩ 0 11 rfl rfl (rfl) hl.1 rfl (Nat.le_of_ble_eq_true rfl) dX11_undo_37 (fun u H locs hw hP hD hS => ?_)
    obtain ⟨hG8, hw⟩ := hw
    obtain ⟨v9, f10, w11, g12⟩ := u
    obtain ⟨kV_v9, kF_f10, hIv9, hCf10, hRf10, hk0_v9, hk1_v9, hk2_v9, hk3_v9, hk4_v9, hk5_v9, hk8_v9, hk9_v9, hk10_v9, hk13_v9, hk14_v9, hk15_v9, hk17_v9, hk18_v9, hk24_v9, hk25_v9, hk35_v9, hk36_v9, hk38_v9, hk39_v9⟩ := hw
    have hM_v9 : KV [35, 36] v9 v := KV.tr kV_v9 (KV.up (j := 36) (x := t4) (KV.up (j := 35) (x := t2) hM_v rfl) rfl) rfl
    have hA_f10 : KF [23, 25] f10 f := KF.tr kF_f10 hA_f rfl
    have hP : va_P (dC, dI) vwCl (YW cy y0 r v9 f10 w11 g12) H := hP
    have hD : va_D A (YW cy y0 r v9 f10 w11 g12) := hD
    have hUv9 : (v9 35).toInt + (v9 36).toInt ≤ 40 := hIv9.2
    have hq9_v9 : v9 9 = (v 9) := hk9_v9
    have zq9_v9 := congrArg Int32.toInt hq9_v9
    have hq35_v9 : v9 35 = t2 := hk35_v9
    have zq35_v9 := congrArg Int32.toInt hq35_v9
    have hq36_v9 : v9 36 = t4 := hk36_v9
    have zq36_v9 := congrArg Int32.toInt hq36_v9
    refine lv_iconst (v := 1) hx hb dX11_undo_40 (by decide) ?_
    exact ret 1 (v9, f10, w11, g12) _ _ _ _ _ _ rfl ⟨(gsY_X11_undo_1_q0 c1 et2 et4 et6 hG8), hM_v9, hA_f10, hIv9, hCf10, hRf10, hk0_v9, hk1_v9, hk2_v9, hk3_v9, hk4_v9, hk5_v9, hk8_v9, hk9_v9, hk10_v9, hk13_v9, hk14_v9, hk15_v9, hk17_v9, hk18_v9, hk24_v9, hk25_v9, hk38_v9, hk39_v9, (Or.inl rfl)⟩ hP hD hS dX11_undo_41 (Nat.le_refl _) (Nat.le_refl _)
  · skip
    have zc1 : (v 35).toInt = 0 := by rw [fa_eq, show (0 : Int32).toInt = 0 from by decide] at c1; exact c1
    refine lv_iconst (v := 0) hx hb dX11_undo_7 (by decide) ?_
    exact ret 0 (v, f, w, g) _ _ _ _ _ _ rfl ⟨(gsY_X11_undo_1_q1 c1), hM_v, hA_f, hIv, hCf, hRf, rfl, rfl, rfl, rfl, rfl, rfl, rfl, rfl, rfl, rfl, rfl, rfl, rfl, rfl, rfl, rfl, rfl, rfl, (Or.inr rfl)⟩ hP hD hS dX11_undo_8 (Nat.le_refl _) (Nat.le_refl _)
set_option maxHeartbeats 4000000 in
set_option maxRecDepth 100000 in
theorem sY_X11_redo_1 (NF : Nat) (l : Launch) (dC : Nat → ClassId) (dI : Nat → Nat → Nat) (cy : Nat → ClassId) (y0 : Nat) (r : Nat → Nat)  (v : Nat → Int32) (f : Nat → Nat → Int32) (w : Int64) (g : Nat → Int64) (hIv : YI v) (hCf : YC f) (hRf : progOK (f 4) (f 5) (v 9).toInt.toNat)  : ctI l (dC, dI) cy yX11_redo cX11_redo 1 .boolean 2 83 0 0 ((Nat → Int32) × (Nat → Nat → Int32) × (Int64) × (Nat → Int64)) [.ref y0] (YW cy y0 r v f w g) (fun r u => gsY_X11_redo_1 NF v f w g = (r, u) ∧ KV [35, 36] u.1 v ∧ KF [23, 25] u.2.1 f ∧ YI u.1 ∧ YC u.2.1 ∧ progOK (u.2.1 4) (u.2.1 5) (u.1 9).toInt.toNat ∧ u.1 0 = v 0 ∧ u.1 1 = v 1 ∧ u.1 2 = v 2 ∧ u.1 3 = v 3 ∧ u.1 4 = v 4 ∧ u.1 5 = v 5 ∧ u.1 8 = v 8 ∧ u.1 9 = v 9 ∧ u.1 10 = v 10 ∧ u.1 13 = v 13 ∧ u.1 14 = v 14 ∧ u.1 15 = v 15 ∧ u.1 17 = v 17 ∧ u.1 18 = v 18 ∧ u.1 24 = v 24 ∧ u.1 25 = v 25 ∧ u.1 38 = v 38 ∧ u.1 39 = v 39 ∧ ((r = 1) ∨ (r = 0))) (fun u => YW cy y0 r u.1 u.2.1 u.2.2.1 u.2.2.2) := by
  refine ctI_of (by decide) (Nat.le_of_ble_eq_true rfl) (fun p e s m below meth c A ls Q hx hb hml hts hown hE hP hD hA hl ret => ?_)
  have hUv : (v 35).toInt + (v 36).toInt ≤ 40 := hIv.2
  have hM_v : KV [35, 36] v v := fun _ _ => rfl
  have hA_f : KF [23, 25] f f := fun _ _ => rfl
  have hown : s.vm.findClass RX11 = some m.cls := hown
  have hS : va_S A s.heap s.heap [] := va_S.rf
  have hl : lv_has ls 1 [(0, .ref y0)] := hl
  refine lv_aload_n hx hb dX11_redo_0 rfl (lv_at hl 0 rfl) ?_
  refine va_get (D := (dC, dI)) (ci := 11) (v := .int (v 36)) (C := RX11) (T := TX11) (N := 79) hx hb hts inB_11 hown hE.1 hP 0 rfl rfl 63 (by decide) (hts _ k_1383) (fun _ h9 => h9) rfl dX11_redo_1 ?_
  have b36_v : 0 ≤ (v 36).toInt ∧ (v 36).toInt ≤ 40 := YIb.b hIv.1 36 (by decide)
  refine lv_if_ne (tgt := 9) hx hb dX11_redo_4 (by decide) (fun c1 => ?_) (fun c1 => ?_)
  · skip
    have zc1 : ¬ ((v 36).toInt = 0) := by rw [fa_eq, show (0 : Int32).toInt = 0 from by decide] at c1; exact c1
    refine lv_aload_n hx hb dX11_redo_9 rfl (lv_at hl 0 rfl) ?_
    refine lv_bipush (v := 39) hx hb dX11_redo_10 (by decide) ?_
    refine lv_aload_n hx hb dX11_redo_12 rfl (lv_at hl 0 rfl) ?_
    refine va_get (D := (dC, dI)) (ci := 11) (v := .int (v 35)) (C := RX11) (T := TX11) (N := 79) hx hb hts inB_11 hown hE.1 hP 0 rfl rfl 62 (by decide) (hts _ k_1382) (fun _ h9 => h9) rfl dX11_redo_13 ?_
    have b35_v : 0 ≤ (v 35).toInt ∧ (v 35).toInt ≤ 40 := YIb.b hIv.1 35 (by decide)
    refine lv_imul hx hb dX11_redo_16 ?_
    refine lv_topi (fun t2 et2 => ?_)
    have rg3 := fb_rng (v 35)
    have zt2 : t2.toInt = 39 * (v 35).toInt := by rw [et2]; exact mul_i (by decide) rfl (by omega) (by omega)
    refine cbVv (n := 1) (rest := []) hx hb hml hown hts hE hP hD hS hA (sY_X11_exchange_1 NF l dC dI cy y0 r t2 v f w g hIv hCf hRf ⟨show (0 : Int) ≤ t2.toInt by omega, show t2.toInt ≤ (1521 : Int) by omega⟩ (by show t2.toInt % 39 = 0; omega)) k_1845 k_1847 k_83 k_114 k_1848 (by decide +kernel) ⟨Nat.le_of_ble_eq_true rfl, Nat.le_of_ble_eq_true rfl⟩ 0 11 rfl rfl (rfl) hl.1 rfl (Nat.le_of_ble_eq_true rfl) dX11_redo_17 (fun u H locs hw hP hD hS => ?_)
    obtain ⟨hG4, hw⟩ := hw
    obtain ⟨v5, f6, w7, g8⟩ := u
    obtain ⟨kV_v5, kF_f6, hIv5, hCf6, hRf6, hk0_v5, hk1_v5, hk2_v5, hk3_v5, hk4_v5, hk5_v5, hk8_v5, hk9_v5, hk10_v5, hk13_v5, hk14_v5, hk15_v5, hk17_v5, hk18_v5, hk24_v5, hk25_v5, hk35_v5, hk36_v5, hk38_v5, hk39_v5⟩ := hw
    have hM_v5 : KV [35, 36] v5 v := KV.tr kV_v5 hM_v rfl
    have hA_f6 : KF [23, 25] f6 f := KF.tr kF_f6 hA_f rfl
    have hP : va_P (dC, dI) vwCl (YW cy y0 r v5 f6 w7 g8) H := hP
    have hD : va_D A (YW cy y0 r v5 f6 w7 g8) := hD
    have hUv5 : (v5 35).toInt + (v5 36).toInt ≤ 40 := hIv5.2
    have hq9_v5 : v5 9 = (v 9) := hk9_v5
    have zq9_v5 := congrArg Int32.toInt hq9_v5
    have hq35_v5 : v5 35 = (v 35) := hk35_v5
    have zq35_v5 := congrArg Int32.toInt hq35_v5
    have hq36_v5 : v5 36 = (v 36) := hk36_v5
    have zq36_v5 := congrArg Int32.toInt hq36_v5
    refine lv_aload_n hx hb dX11_redo_20 rfl (lv_at hl 0 rfl) ?_
    refine lv_dup hx hb dX11_redo_21 rfl ?_
    refine va_get (D := (dC, dI)) (ci := 11) (v := .int (v5 35)) (C := RX11) (T := TX11) (N := 79) hx hb hts inB_11 hown hE.1 hP 0 rfl rfl 62 (by decide) (hts _ k_1382) (fun _ h9 => h9) rfl dX11_redo_22 ?_
    refine tI (y := (v 35)) hq35_v5 ?_
    have b35_v : 0 ≤ (v 35).toInt ∧ (v 35).toInt ≤ 40 := YIb.b hIv.1 35 (by decide)
    refine lv_iconst (v := 1) hx hb dX11_redo_25 (by decide) ?_
    refine lv_iadd hx hb dX11_redo_26 ?_
    refine lv_topi (fun t9 et9 => ?_)
    have zt9 : t9.toInt = (v 35).toInt + 1 := by rw [et9]; exact add_i rfl (by decide) (by omega) (by omega)
    refine va_put (D := (dC, dI)) (ci := 11) (v := .int t9) (ty := tyX11 62) (C := RX11) (T := TX11) (N := 79) hx hb hts inB_11 tyX11 tyX11_ok nmX11 hown hE.1 hP hD hS 0 rfl rfl 62 (by decide) (hts _ k_1382) (fun _ h9 => h9) rfl (tyX11_ok 62 (by decide)) rfl rfl (Nat.le_of_ble_eq_true rfl) dX11_redo_27 (fun H locs hP hD hS => ?_)
    have hP : va_P (dC, dI) vwCl (YW cy y0 r (upd v5 35 t9) f6 w7 g8) H := hP
    have hD : va_D A (YW cy y0 r (upd v5 35 t9) f6 w7 g8) := hD
    refine lv_aload_n hx hb dX11_redo_30 rfl (lv_at hl 0 rfl) ?_
    refine lv_dup hx hb dX11_redo_31 rfl ?_
    refine va_get (D := (dC, dI)) (ci := 11) (v := .int (v5 36)) (C := RX11) (T := TX11) (N := 79) hx hb hts inB_11 hown hE.1 hP 0 rfl rfl 63 (by decide) (hts _ k_1383) (fun _ h9 => h9) rfl dX11_redo_32 ?_
    refine tI (y := (v 36)) hq36_v5 ?_
    have b36_v : 0 ≤ (v 36).toInt ∧ (v 36).toInt ≤ 40 := YIb.b hIv.1 36 (by decide)
    refine lv_iconst (v := 1) hx hb dX11_redo_35 (by decide) ?_
    refine lv_isub hx hb dX11_redo_36 ?_
    refine lv_topi (fun t10 et10 => ?_)
    have rg11 := fb_rng (v 36)
    have zt10 : t10.toInt = (v 36).toInt - 1 := by rw [et10]; exact sub_i rfl (by decide) (by omega) (by omega)
    refine va_put (D := (dC, dI)) (ci := 11) (v := .int t10) (ty := tyX11 63) (C := RX11) (T := TX11) (N := 79) hx hb hts inB_11 tyX11 tyX11_ok nmX11 hown hE.1 hP hD hS 0 rfl rfl 63 (by decide) (hts _ k_1383) (fun _ h9 => h9) rfl (tyX11_ok 63 (by decide)) rfl rfl (Nat.le_of_ble_eq_true rfl) dX11_redo_37 (fun H locs hP hD hS => ?_)
    have hP : va_P (dC, dI) vwCl (YW cy y0 r (upd (upd v5 35 t9) 36 t10) f6 w7 g8) H := hP
    have hD : va_D A (YW cy y0 r (upd (upd v5 35 t9) 36 t10) f6 w7 g8) := hD
    refine lv_iconst (v := 1) hx hb dX11_redo_40 (by decide) ?_
    exact ret 1 ((upd (upd v5 35 t9) 36 t10), f6, w7, g8) _ _ _ _ _ _ rfl ⟨(gsY_X11_redo_1_q0 c1 et2 hG4 et9 et10), (KV.up (j := 36) (x := t10) (KV.up (j := 35) (x := t9) hM_v5 rfl) rfl), hA_f6, ⟨(YIb.upd (j := 36) (x := t10) (YIb.upd (j := 35) (x := t9) hIv5.1 (show (0 : Int) ≤ t9.toInt by omega) (show t9.toInt ≤ (40 : Int) by omega)) (show (0 : Int) ≤ t10.toInt by omega) (show t10.toInt ≤ (40 : Int) by omega)), (by have q9 := hIv5.2; show t9.toInt + t10.toInt ≤ 40; omega)⟩, hCf6, hRf6, hk0_v5, hk1_v5, hk2_v5, hk3_v5, hk4_v5, hk5_v5, hk8_v5, hk9_v5, hk10_v5, hk13_v5, hk14_v5, hk15_v5, hk17_v5, hk18_v5, hk24_v5, hk25_v5, hk38_v5, hk39_v5, (Or.inl rfl)⟩ hP hD hS dX11_redo_41 (Nat.le_refl _) (Nat.le_refl _)
  · skip
    have zc1 : (v 36).toInt = 0 := by rw [fa_eq, show (0 : Int32).toInt = 0 from by decide] at c1; exact c1
    refine lv_iconst (v := 0) hx hb dX11_redo_7 (by decide) ?_
    exact ret 0 (v, f, w, g) _ _ _ _ _ _ rfl ⟨(gsY_X11_redo_1_q1 c1), hM_v, hA_f, hIv, hCf, hRf, rfl, rfl, rfl, rfl, rfl, rfl, rfl, rfl, rfl, rfl, rfl, rfl, rfl, rfl, rfl, rfl, rfl, rfl, (Or.inr rfl)⟩ hP hD hS dX11_redo_8 (Nat.le_refl _) (Nat.le_refl _)
set_option maxHeartbeats 4000000 in
set_option maxRecDepth 100000 in
theorem sY_X11_isBox_1 (NF : Nat) (l : Launch) (dC : Nat → ClassId) (dI : Nat → Nat → Nat) (cy : Nat → ClassId) (y0 : Nat) (r : Nat → Nat) (p0 : Int32) (v : Nat → Int32) (f : Nat → Nat → Int32) (w : Int64) (g : Nat → Int64) (hIv : YI v) (hCf : YC f) (hRf : progOK (f 4) (f 5) (v 9).toInt.toNat)  : ctI l (dC, dI) cy yX11_isBox cX11_isBox 1 .boolean 1 60 0 0 Unit [.int p0] (YW cy y0 r v f w g) (fun r u => gsY_X11_isBox_1 NF p0 v f w g = r ∧ ((r = 1 ∧ 0 ≤ p0.toInt ∧ p0.toInt ≤ 2) ∨ (r = 0))) (fun u => YW cy y0 r v f w g) := by
  refine ctI_of (by decide) (Nat.le_of_ble_eq_true rfl) (fun p e s m below meth c A ls Q hx hb hml hts hown hE hP hD hA hl ret => ?_)
  have hUv : (v 35).toInt + (v 36).toInt ≤ 40 := hIv.2
  have hown : s.vm.findClass RX11 = some m.cls := hown
  have hS : va_S A s.heap s.heap [] := va_S.rf
  have hl : lv_has ls 1 [(0, .int p0)] := hl
  refine lv_iload_n hx hb dX11_isBox_0 rfl (lv_at hl 0 rfl) ?_
  refine lv_if_lt (tgt := 13) hx hb dX11_isBox_1 (by decide) (fun c1 => ?_) (fun c1 => ?_)
  · skip
    have zc1 : p0.toInt < 0 := by rw [fa_lt, show (0 : Int32).toInt = 0 from by decide] at c1; exact c1
    refine lv_iconst (v := 0) hx hb dX11_isBox_13 (by decide) ?_
    exact ret 0 () _ _ _ _ _ _ rfl ⟨(gsY_X11_isBox_1_q0 c1), (Or.inr rfl)⟩ hP hD hS dX11_isBox_14 (Nat.le_refl _) (Nat.le_refl _)
  · skip
    have zc1 : ¬ (p0.toInt < 0) := by rw [fa_lt, show (0 : Int32).toInt = 0 from by decide] at c1; exact c1
    refine lv_iload_n hx hb dX11_isBox_4 rfl (lv_at hl 0 rfl) ?_
    refine lv_iconst (v := 3) hx hb dX11_isBox_5 (by decide) ?_
    refine lv_icmp_ge (tgt := 13) hx hb dX11_isBox_6 (by decide) (fun c2 => ?_) (fun c2 => ?_)
    · skip
      have zc2 : 3 ≤ p0.toInt := by rw [fa_le, show (3 : Int32).toInt = 3 from by decide] at c2; exact c2
      refine lv_iconst (v := 0) hx hb dX11_isBox_13 (by decide) ?_
      exact ret 0 () _ _ _ _ _ _ rfl ⟨(gsY_X11_isBox_1_q1 c1 c2), (Or.inr rfl)⟩ hP hD hS dX11_isBox_14 (Nat.le_refl _) (Nat.le_refl _)
    · skip
      have zc2 : ¬ (3 ≤ p0.toInt) := by rw [fa_le, show (3 : Int32).toInt = 3 from by decide] at c2; exact c2
      refine lv_iconst (v := 1) hx hb dX11_isBox_9 (by decide) ?_
      refine lv_goto (tgt := 14) hx hb dX11_isBox_10 (by decide) ?_
      exact ret 1 () _ _ _ _ _ _ rfl ⟨(gsY_X11_isBox_1_q2 c1 c2), (Or.inl ⟨rfl, by omega, by omega⟩)⟩ hP hD hS dX11_isBox_14 (Nat.le_refl _) (Nat.le_refl _)
set_option maxHeartbeats 4000000 in
set_option maxRecDepth 100000 in
theorem sY_X11_image_1 (NF : Nat) (l : Launch) (dC : Nat → ClassId) (dI : Nat → Nat → Nat) (cy : Nat → ClassId) (y0 : Nat) (r : Nat → Nat) (p1 : Int32) (v : Nat → Int32) (f : Nat → Nat → Int32) (w : Int64) (g : Nat → Int64) (hIv : YI v) (hCf : YC f) (hRf : progOK (f 4) (f 5) (v 9).toInt.toNat)  : ctI l (dC, dI) cy yX11_image cX11_image 3 .int 2 80 0 0 ((Nat → Int32) × (Nat → Nat → Int32) × (Int64) × (Nat → Int64)) [.ref y0, .int p1] (YW cy y0 r v f w g) (fun r u => gsY_X11_image_1 NF p1 v f w g = (r, u) ∧ KV [] u.1 v ∧ KF [36, 37] u.2.1 f ∧ YI u.1 ∧ YC u.2.1 ∧ progOK (u.2.1 4) (u.2.1 5) (u.1 9).toInt.toNat ∧ u.1 0 = v 0 ∧ u.1 1 = v 1 ∧ u.1 2 = v 2 ∧ u.1 3 = v 3 ∧ u.1 4 = v 4 ∧ u.1 5 = v 5 ∧ u.1 8 = v 8 ∧ u.1 9 = v 9 ∧ u.1 10 = v 10 ∧ u.1 13 = v 13 ∧ u.1 14 = v 14 ∧ u.1 15 = v 15 ∧ u.1 17 = v 17 ∧ u.1 18 = v 18 ∧ u.1 24 = v 24 ∧ u.1 25 = v 25 ∧ u.1 35 = v 35 ∧ u.1 36 = v 36 ∧ u.1 38 = v 38 ∧ u.1 39 = v 39) (fun u => YW cy y0 r u.1 u.2.1 u.2.2.1 u.2.2.2) := by
  refine ctI_of (by decide) (Nat.le_of_ble_eq_true rfl) (fun p e s m below meth c A ls Q hx hb hml hts hown hE hP hD hA hl ret => ?_)
  have hUv : (v 35).toInt + (v 36).toInt ≤ 40 := hIv.2
  have hM_v : KV [] v v := fun _ _ => rfl
  have hA_f : KF [36, 37] f f := fun _ _ => rfl
  have hown : s.vm.findClass RX11 = some m.cls := hown
  have hS : va_S A s.heap s.heap [] := va_S.rf
  have hl : lv_has ls 3 [(0, .ref y0), (1, .int p1)] := hl
  refine lv_iload_n hx hb dX11_image_0 rfl (lv_at hl 1 rfl) ?_
  refine cbSi (n := 1) (rest := []) hx hb hml hown hts hE hP hD hS hA (sY_X11_isBox_1 NF l dC dI cy y0 r p1 v f w g hIv hCf hRf ) k_2048 k_2049 k_114 k_2050 (by decide +kernel) ⟨Nat.le_of_ble_eq_true rfl, Nat.le_of_ble_eq_true rfl⟩ (rfl) hl.1 rfl (Nat.le_of_ble_eq_true rfl) dX11_image_1 (fun r1 u H locs hw hP hD hS => ?_)
  obtain ⟨hG2, hw⟩ := hw
  rcases hw with ⟨g3, g3_0, g3_1⟩ | ⟨g3⟩
  · skip
    subst g3
    refine lv_if_ne (tgt := 9) hx hb dX11_image_4 (by decide) (fun _ => ?_) (fun c0 => absurd c0 (by decide))
    refine lv_aload_n hx hb dX11_image_9 rfl (lv_at hl 0 rfl) ?_
    refine va_get (D := (dC, dI)) (ci := 11) (v := .ref (r 77)) (C := RX11) (T := TX11) (N := 79) hx hb hts inB_11 hown hE.1 hP 0 rfl rfl 77 (by decide) (hts _ k_1397) (fun _ h9 => h9) rfl dX11_image_10 ?_
    refine lv_iload_n hx hb dX11_image_13 rfl (lv_at hl 1 rfl) ?_
    refine lv_iconst (v := 1) hx hb dX11_image_14 (by decide) ?_
    refine stZ hx hb hE hP hD hS 37 rfl (vp_in_iff.mpr ⟨by omega, by omega⟩) rfl dX11_image_15 (fun H locs hP hD hS => ?_)
    obtain ⟨f4, ef4, hP, hD⟩ : ∃ fz9, fz9 = upd2 f 36 (upd (f 36) p1.toNatClampNeg (vp_nar .boolean 1)) ∧ va_P (dC, dI) vwCl (YW cy y0 r v fz9 w g) H ∧ va_D A (YW cy y0 r v fz9 w g) := ⟨_, rfl, hP, hD⟩
    have hCf4 : YC f4 := by rw [ef4]; exact hCf
    have hRf4 : progOK (f4 4) (f4 5) (v 9).toInt.toNat := by rw [ef4]; exact hRf
    have hA_f4 : KF [36, 37] f4 f := by rw [ef4]; exact KF.up hA_f rfl
    refine lv_iconst (v := 0) hx hb dX11_image_16 (by decide) ?_
    refine lv_istore_n (lv' := [(2, .int 0), (0, .ref y0), (1, .int p1)]) hx hb dX11_image_17 rfl hl (by decide) rfl (fun ls hl => ?_)
    have lp5 : ∀ (n5 : Nat) (l2_5 : Int32) (v5 : Nat → Int32) (f5 : Nat → Nat → Int32) (w5 : Int64) (g5 : Nat → Int64), YI v5 → YC f5 → progOK (f5 4) (f5 5) (v5 9).toInt.toNat → v5 0 = (v 0) → v5 1 = (v 1) → v5 2 = (v 2) → v5 3 = (v 3) → v5 4 = (v 4) → v5 5 = (v 5) → v5 8 = (v 8) → v5 9 = (v 9) → v5 10 = (v 10) → v5 13 = (v 13) → v5 14 = (v 14) → v5 15 = (v 15) → v5 17 = (v 17) → v5 18 = (v 18) → v5 24 = (v 24) → v5 25 = (v 25) → v5 35 = (v 35) → v5 36 = (v 36) → v5 38 = (v 38) → v5 39 = (v 39) → gsY_X11_image_1_L5 NF p1 n5 l2_5 v5 f5 w5 g5 = (gsY_X11_image_1 NF p1 v f w g) → ((0 : Int) ≤ l2_5.toInt ∧ l2_5.toInt ≤ 2147483647) → KV [] v5 v → KF [36, 37] f5 f → (2147483647 - l2_5.toInt).toNat < n5 → ∀ (H : Heap) (locs : List Loc) (ls : Array Slot), va_P (dC, dI) vwCl (YW cy y0 r v5 f5 w5 g5) H → va_D A (YW cy y0 r v5 f5 w5 g5) → va_S A s.heap H locs → lv_has ls 3 [(2, .int l2_5), (0, .ref y0), (1, .int p1)] → W p l e { frames := 2, cells := 0, slots := 0, locals := 80 } s m ([.ref y0, .int p1] : List Value).toArray below meth c H locs 0 0 Q (F0 m 18 ls []) := by
      intro n5
      induction n5 with
      | zero => intro l2_5 v5 f5 w5 g5 hIv5 hCf5 hRf5 hq0_v5 hq1_v5 hq2_v5 hq3_v5 hq4_v5 hq5_v5 hq8_v5 hq9_v5 hq10_v5 hq13_v5 hq14_v5 hq15_v5 hq17_v5 hq18_v5 hq24_v5 hq25_v5 hq35_v5 hq36_v5 hq38_v5 hq39_v5 hT5 hr2_5 hM_v5 hA_f5 hm; exact absurd hm (Nat.not_lt_zero _)
      | succ n5 ih5 =>
        intro l2_5 v5 f5 w5 g5 hIv5 hCf5 hRf5 hq0_v5 hq1_v5 hq2_v5 hq3_v5 hq4_v5 hq5_v5 hq8_v5 hq9_v5 hq10_v5 hq13_v5 hq14_v5 hq15_v5 hq17_v5 hq18_v5 hq24_v5 hq25_v5 hq35_v5 hq36_v5 hq38_v5 hq39_v5 hT5 hr2_5 hM_v5 hA_f5 hm5 H locs ls hP hD hS hl
        have hUv5 : (v5 35).toInt + (v5 36).toInt ≤ 40 := hIv5.2
        have zq9_v5 := congrArg Int32.toInt hq9_v5
        refine lv_iload_n hx hb dX11_image_18 rfl (lv_at hl 0 rfl) ?_
        refine lv_bipush (v := 39) hx hb dX11_image_19 (by decide) ?_
        refine lv_icmp_ge (tgt := 47) hx hb dX11_image_21 (by decide) (fun c6 => ?_) (fun c6 => ?_)
        · skip
          have zc6 : 39 ≤ l2_5.toInt := by rw [fa_le, show (39 : Int32).toInt = 39 from by decide] at c6; exact c6
          refine lv_aload_n hx hb dX11_image_47 rfl (lv_at hl 1 rfl) ?_
          refine va_get (D := (dC, dI)) (ci := 11) (v := .ref (r 59)) (C := RX11) (T := TX11) (N := 79) hx hb hts inB_11 hown hE.1 hP 0 rfl rfl 59 (by decide) (hts _ k_1379) (fun _ h9 => h9) rfl dX11_image_48 ?_
          refine lv_bipush (v := 37) hx hb dX11_image_51 (by decide) ?_
          refine ldI hx hb hE hP 24 rfl (vp_in_nI (n := 37) (by decide) (by decide)) rfl rfl dX11_image_53 ?_
          refine lv_topi (fun t7 et7 => ?_)
          have zt7 : 37 % 39 < 6 ∨ 12 ≤ 37 % 39 ∨ (-1 ≤ t7.toInt ∧ t7.toInt ≤ 5) := by rw [et7]; exact wear_ld hCf5.1 (show 37 < 39 by omega)
          exact ret t7 (v5, f5, w5, g5) _ _ _ _ _ _ rfl ⟨(hT5.symm.trans (gsY_X11_image_1_q0 c6 et7)), hM_v5, hA_f5, hIv5, hCf5, hRf5, (show v5 0 = v 0 from hq0_v5), (show v5 1 = v 1 from hq1_v5), (show v5 2 = v 2 from hq2_v5), (show v5 3 = v 3 from hq3_v5), (show v5 4 = v 4 from hq4_v5), (show v5 5 = v 5 from hq5_v5), (show v5 8 = v 8 from hq8_v5), (show v5 9 = v 9 from hq9_v5), (show v5 10 = v 10 from hq10_v5), (show v5 13 = v 13 from hq13_v5), (show v5 14 = v 14 from hq14_v5), (show v5 15 = v 15 from hq15_v5), (show v5 17 = v 17 from hq17_v5), (show v5 18 = v 18 from hq18_v5), (show v5 24 = v 24 from hq24_v5), (show v5 25 = v 25 from hq25_v5), (show v5 35 = v 35 from hq35_v5), (show v5 36 = v 36 from hq36_v5), (show v5 38 = v 38 from hq38_v5), (show v5 39 = v 39 from hq39_v5)⟩ hP hD hS dX11_image_54 (Nat.le_refl _) (Nat.le_refl _)
        · skip
          have zc6 : ¬ (39 ≤ l2_5.toInt) := by rw [fa_le, show (39 : Int32).toInt = 39 from by decide] at c6; exact c6
          refine lv_aload_n hx hb dX11_image_24 rfl (lv_at hl 1 rfl) ?_
          refine va_get (D := (dC, dI)) (ci := 11) (v := .ref (r 78)) (C := RX11) (T := TX11) (N := 79) hx hb hts inB_11 hown hE.1 hP 0 rfl rfl 78 (by decide) (hts _ k_1398) (fun _ h9 => h9) rfl dX11_image_25 ?_
          refine lv_bipush (v := 39) hx hb dX11_image_28 (by decide) ?_
          refine lv_iload_n hx hb dX11_image_30 rfl (lv_at hl 2 rfl) ?_
          refine lv_imul hx hb dX11_image_31 ?_
          refine lv_topi (fun t8 et8 => ?_)
          have rg9 := fb_rng p1
          have zt8 : t8.toInt = 39 * p1.toInt := by rw [et8]; exact mul_i (by decide) rfl (by omega) (by omega)
          refine lv_iload_n hx hb dX11_image_32 rfl (lv_at hl 0 rfl) ?_
          refine lv_iadd hx hb dX11_image_33 ?_
          refine lv_topi (fun t10 et10 => ?_)
          have rg11 := fb_rng t8
          have rg12 := fb_rng l2_5
          have zt10 : t10.toInt = t8.toInt + l2_5.toInt := by rw [et10]; exact add_i rfl rfl (by omega) (by omega)
          refine lv_aload_n hx hb dX11_image_34 rfl (lv_at hl 1 rfl) ?_
          refine va_get (D := (dC, dI)) (ci := 11) (v := .ref (r 59)) (C := RX11) (T := TX11) (N := 79) hx hb hts inB_11 hown hE.1 hP 0 rfl rfl 59 (by decide) (hts _ k_1379) (fun _ h9 => h9) rfl dX11_image_35 ?_
          refine lv_iload_n hx hb dX11_image_38 rfl (lv_at hl 0 rfl) ?_
          refine ldI hx hb hE hP 24 rfl (vp_in_iff.mpr ⟨by omega, by omega⟩) rfl rfl dX11_image_39 ?_
          refine lv_topi (fun t13 et13 => ?_)
          have zt13 : l2_5.toInt.toNat % 39 < 6 ∨ 12 ≤ l2_5.toInt.toNat % 39 ∨ (-1 ≤ t13.toInt ∧ t13.toInt ≤ 5) := by rw [et13]; exact wear_ld hCf5.1 (show l2_5.toInt.toNat < 39 by omega)
          refine stI hx hb hE hP hD hS 38 rfl (vp_in_iff.mpr ⟨by omega, by omega⟩) rfl dX11_image_40 (fun H locs hP hD hS => ?_)
          obtain ⟨f14, ef14, hP, hD⟩ : ∃ fz9, fz9 = upd2 f5 37 (upd (f5 37) t10.toNatClampNeg t13) ∧ va_P (dC, dI) vwCl (YW cy y0 r v5 fz9 w5 g5) H ∧ va_D A (YW cy y0 r v5 fz9 w5 g5) := ⟨_, rfl, hP, hD⟩
          have hCf14 : YC f14 := by rw [ef14]; exact ⟨hCf5.1, hCf5.2.1, hCf5.2.2.1, hCf5.2.2.2.1, hCf5.2.2.2.2.1, (wear_st hCf5.2.2.2.2.2 (by show t10.toInt.toNat % 39 < 6 ∨ 12 ≤ t10.toInt.toNat % 39 ∨ (-1 ≤ t13.toInt ∧ t13.toInt ≤ 5); omega))⟩
          have hRf14 : progOK (f14 4) (f14 5) (v5 9).toInt.toNat := by rw [ef14]; exact hRf5
          have hA_f14 : KF [36, 37] f14 f := by rw [ef14]; exact KF.up hA_f5 rfl
          obtain ⟨t15, et15⟩ : ∃ y : Int32, y = l2_5 + 1 := ⟨_, rfl⟩
          have zt15 : t15.toInt = l2_5.toInt + 1 := by rw [et15]; exact add_i rfl (by decide) (by omega) (by omega)
          refine lv_iinc (v := t15) (lv' := [(2, .int t15), (0, .ref y0), (1, .int p1)]) hx hb dX11_image_41 hl (k := 0) rfl (by rw [et15]; rfl) (by decide) rfl (fun ls hl => ?_)
          refine lv_goto (tgt := 18) hx hb dX11_image_44 (by decide) ?_
          have rg16 := fb_rng t15
          exact ih5 t15 v5 f14 w5 g5 hIv5 hCf14 hRf14 hq0_v5 hq1_v5 hq2_v5 hq3_v5 hq4_v5 hq5_v5 hq8_v5 hq9_v5 hq10_v5 hq13_v5 hq14_v5 hq15_v5 hq17_v5 hq18_v5 hq24_v5 hq25_v5 hq35_v5 hq36_v5 hq38_v5 hq39_v5 ((gsY_X11_image_1_q1 c6 et8 et10 et13 ef14 et15).symm.trans hT5) ⟨show (0 : Int) ≤ t15.toInt by omega, show t15.toInt ≤ (2147483647 : Int) by omega⟩ hM_v5 hA_f14 (by show (2147483647 - t15.toInt).toNat < n5; omega) _ _ _ hP hD hS (lv_sub hl [0, 1, 2] rfl)
    exact lp5 (4294967296 + NF) 0 v f4 w g hIv hCf4 hRf4 rfl rfl rfl rfl rfl rfl rfl rfl rfl rfl rfl rfl rfl rfl rfl rfl rfl rfl rfl rfl (gsY_X11_image_1_q2 hG2 ef4).symm ⟨by decide, by decide⟩ hM_v hA_f4 (by have q2 : (0 : Int32).toInt = 0 := (by decide); show (2147483647 - (0 : Int32).toInt).toNat < 4294967296 + NF; omega) _ _ _ hP hD hS (lv_sub hl [0, 1, 2] rfl)
  · skip
    subst g3
    refine lv_if_ne (tgt := 9) hx hb dX11_image_4 (by decide) (fun c0 => absurd (by decide) c0) (fun _ => ?_)
    refine lv_iconst (v := (-1)) hx hb dX11_image_7 (by decide) ?_
    exact ret (-1) (v, f, w, g) _ _ _ _ _ _ rfl ⟨(gsY_X11_image_1_q3 hG2), hM_v, hA_f, hIv, hCf, hRf, rfl, rfl, rfl, rfl, rfl, rfl, rfl, rfl, rfl, rfl, rfl, rfl, rfl, rfl, rfl, rfl, rfl, rfl, rfl, rfl⟩ hP hD hS dX11_image_8 (Nat.le_refl _) (Nat.le_refl _)
set_option maxHeartbeats 4000000 in
set_option maxRecDepth 100000 in
theorem sY_X11_back_1 (NF : Nat) (l : Launch) (dC : Nat → ClassId) (dI : Nat → Nat → Nat) (cy : Nat → ClassId) (y0 : Nat) (r : Nat → Nat) (p1 : Int32) (v : Nat → Int32) (f : Nat → Nat → Int32) (w : Int64) (g : Nat → Int64) (hIv : YI v) (hCf : YC f) (hRf : progOK (f 4) (f 5) (v 9).toInt.toNat)  : ctI l (dC, dI) cy yX11_back cX11_back 3 .int 2 80 0 0 ((Nat → Int32) × (Nat → Nat → Int32) × (Int64) × (Nat → Int64)) [.ref y0, .int p1] (YW cy y0 r v f w g) (fun r u => gsY_X11_back_1 NF p1 v f w g = (r, u) ∧ KV [35, 36] u.1 v ∧ KF [23] u.2.1 f ∧ YI u.1 ∧ YC u.2.1 ∧ progOK (u.2.1 4) (u.2.1 5) (u.1 9).toInt.toNat ∧ u.1 0 = v 0 ∧ u.1 1 = v 1 ∧ u.1 2 = v 2 ∧ u.1 3 = v 3 ∧ u.1 4 = v 4 ∧ u.1 5 = v 5 ∧ u.1 8 = v 8 ∧ u.1 9 = v 9 ∧ u.1 10 = v 10 ∧ u.1 13 = v 13 ∧ u.1 14 = v 14 ∧ u.1 15 = v 15 ∧ u.1 17 = v 17 ∧ u.1 18 = v 18 ∧ u.1 24 = v 24 ∧ u.1 25 = v 25 ∧ u.1 38 = v 38 ∧ u.1 39 = v 39) (fun u => YW cy y0 r u.1 u.2.1 u.2.2.1 u.2.2.2) := by
  refine ctI_of (by decide) (Nat.le_of_ble_eq_true rfl) (fun p e s m below meth c A ls Q hx hb hml hts hown hE hP hD hA hl ret => ?_)
  have hUv : (v 35).toInt + (v 36).toInt ≤ 40 := hIv.2
  have hM_v : KV [35, 36] v v := fun _ _ => rfl
  have hA_f : KF [23] f f := fun _ _ => rfl
  have hown : s.vm.findClass RX11 = some m.cls := hown
  have hS : va_S A s.heap s.heap [] := va_S.rf
  have hl : lv_has ls 3 [(0, .ref y0), (1, .int p1)] := hl
  refine lv_iload_n hx hb dX11_back_0 rfl (lv_at hl 1 rfl) ?_
  refine cbSi (n := 1) (rest := []) hx hb hml hown hts hE hP hD hS hA (sY_X11_isBox_1 NF l dC dI cy y0 r p1 v f w g hIv hCf hRf ) k_2048 k_2049 k_114 k_2050 (by decide +kernel) ⟨Nat.le_of_ble_eq_true rfl, Nat.le_of_ble_eq_true rfl⟩ (rfl) hl.1 rfl (Nat.le_of_ble_eq_true rfl) dX11_back_1 (fun r1 u H locs hw hP hD hS => ?_)
  obtain ⟨hG2, hw⟩ := hw
  rcases hw with ⟨g3, g3_0, g3_1⟩ | ⟨g3⟩
  · skip
    subst g3
    refine lv_if_eq (tgt := 16) hx hb dX11_back_4 (by decide) (fun c0 => absurd c0 (by decide)) (fun _ => ?_)
    refine lv_aload_n hx hb dX11_back_7 rfl (lv_at hl 0 rfl) ?_
    refine va_get (D := (dC, dI)) (ci := 11) (v := .ref (r 77)) (C := RX11) (T := TX11) (N := 79) hx hb hts inB_11 hown hE.1 hP 0 rfl rfl 77 (by decide) (hts _ k_1397) (fun _ h9 => h9) rfl dX11_back_8 ?_
    refine lv_iload_n hx hb dX11_back_11 rfl (lv_at hl 1 rfl) ?_
    refine ldZ hx hb hE hP 37 rfl (vp_in_iff.mpr ⟨by omega, by omega⟩) rfl rfl dX11_back_12 ?_
    refine lv_topi (fun t4 et4 => ?_)
    refine lv_if_ne (tgt := 18) hx hb dX11_back_13 (by decide) (fun c5 => ?_) (fun c5 => ?_)
    · skip
      have zc5 : ¬ (t4.toInt = 0) := by rw [fa_eq, show (0 : Int32).toInt = 0 from by decide] at c5; exact c5
      refine lv_iconst (v := 0) hx hb dX11_back_18 (by decide) ?_
      refine lv_istore_n (lv' := [(2, .int 0), (0, .ref y0), (1, .int p1)]) hx hb dX11_back_19 rfl hl (by decide) rfl (fun ls hl => ?_)
      have lp6 : ∀ (n6 : Nat) (l2_6 : Int32) (v6 : Nat → Int32) (f6 : Nat → Nat → Int32) (w6 : Int64) (g6 : Nat → Int64), YI v6 → YC f6 → progOK (f6 4) (f6 5) (v6 9).toInt.toNat → v6 0 = (v 0) → v6 1 = (v 1) → v6 2 = (v 2) → v6 3 = (v 3) → v6 4 = (v 4) → v6 5 = (v 5) → v6 8 = (v 8) → v6 9 = (v 9) → v6 10 = (v 10) → v6 13 = (v 13) → v6 14 = (v 14) → v6 15 = (v 15) → v6 17 = (v 17) → v6 18 = (v 18) → v6 24 = (v 24) → v6 25 = (v 25) → v6 35 = (v 35) → v6 36 = (v 36) → v6 38 = (v 38) → v6 39 = (v 39) → gsY_X11_back_1_L6 NF p1 n6 l2_6 v6 f6 w6 g6 = (gsY_X11_back_1 NF p1 v f w g) → ((0 : Int) ≤ l2_6.toInt ∧ l2_6.toInt ≤ 2147483647) → KV [35, 36] v6 v → KF [23] f6 f → (2147483647 - l2_6.toInt).toNat < n6 → ∀ (H : Heap) (locs : List Loc) (ls : Array Slot), va_P (dC, dI) vwCl (YW cy y0 r v6 f6 w6 g6) H → va_D A (YW cy y0 r v6 f6 w6 g6) → va_S A s.heap H locs → lv_has ls 3 [(2, .int l2_6), (0, .ref y0), (1, .int p1)] → W p l e { frames := 2, cells := 0, slots := 0, locals := 80 } s m ([.ref y0, .int p1] : List Value).toArray below meth c H locs 0 0 Q (F0 m 20 ls []) := by
        intro n6
        induction n6 with
        | zero => intro l2_6 v6 f6 w6 g6 hIv6 hCf6 hRf6 hq0_v6 hq1_v6 hq2_v6 hq3_v6 hq4_v6 hq5_v6 hq8_v6 hq9_v6 hq10_v6 hq13_v6 hq14_v6 hq15_v6 hq17_v6 hq18_v6 hq24_v6 hq25_v6 hq35_v6 hq36_v6 hq38_v6 hq39_v6 hT6 hr2_6 hM_v6 hA_f6 hm; exact absurd hm (Nat.not_lt_zero _)
        | succ n6 ih6 =>
          intro l2_6 v6 f6 w6 g6 hIv6 hCf6 hRf6 hq0_v6 hq1_v6 hq2_v6 hq3_v6 hq4_v6 hq5_v6 hq8_v6 hq9_v6 hq10_v6 hq13_v6 hq14_v6 hq15_v6 hq17_v6 hq18_v6 hq24_v6 hq25_v6 hq35_v6 hq36_v6 hq38_v6 hq39_v6 hT6 hr2_6 hM_v6 hA_f6 hm6 H locs ls hP hD hS hl
          have hUv6 : (v6 35).toInt + (v6 36).toInt ≤ 40 := hIv6.2
          have zq9_v6 := congrArg Int32.toInt hq9_v6
          refine lv_iload_n hx hb dX11_back_20 rfl (lv_at hl 0 rfl) ?_
          refine lv_bipush (v := 39) hx hb dX11_back_21 (by decide) ?_
          refine lv_icmp_ge (tgt := 49) hx hb dX11_back_23 (by decide) (fun c7 => ?_) (fun c7 => ?_)
          · skip
            have zc7 : 39 ≤ l2_6.toInt := by rw [fa_le, show (39 : Int32).toInt = 39 from by decide] at c7; exact c7
            refine lv_aload_n hx hb dX11_back_49 rfl (lv_at hl 1 rfl) ?_
            refine lv_iconst (v := 0) hx hb dX11_back_50 (by decide) ?_
            refine va_put (D := (dC, dI)) (ci := 11) (v := .int 0) (ty := tyX11 62) (C := RX11) (T := TX11) (N := 79) hx hb hts inB_11 tyX11 tyX11_ok nmX11 hown hE.1 hP hD hS 0 rfl rfl 62 (by decide) (hts _ k_1382) (fun _ h9 => h9) rfl (tyX11_ok 62 (by decide)) rfl rfl (Nat.le_of_ble_eq_true rfl) dX11_back_51 (fun H locs hP hD hS => ?_)
            have hP : va_P (dC, dI) vwCl (YW cy y0 r (upd v6 35 0) f6 w6 g6) H := hP
            have hD : va_D A (YW cy y0 r (upd v6 35 0) f6 w6 g6) := hD
            refine lv_aload_n hx hb dX11_back_54 rfl (lv_at hl 1 rfl) ?_
            refine lv_iconst (v := 0) hx hb dX11_back_55 (by decide) ?_
            refine va_put (D := (dC, dI)) (ci := 11) (v := .int 0) (ty := tyX11 63) (C := RX11) (T := TX11) (N := 79) hx hb hts inB_11 tyX11 tyX11_ok nmX11 hown hE.1 hP hD hS 0 rfl rfl 63 (by decide) (hts _ k_1383) (fun _ h9 => h9) rfl (tyX11_ok 63 (by decide)) rfl rfl (Nat.le_of_ble_eq_true rfl) dX11_back_56 (fun H locs hP hD hS => ?_)
            have hP : va_P (dC, dI) vwCl (YW cy y0 r (upd (upd v6 35 0) 36 0) f6 w6 g6) H := hP
            have hD : va_D A (YW cy y0 r (upd (upd v6 35 0) 36 0) f6 w6 g6) := hD
            refine lv_aload_n hx hb dX11_back_59 rfl (lv_at hl 1 rfl) ?_
            refine va_get (D := (dC, dI)) (ci := 11) (v := .ref (r 59)) (C := RX11) (T := TX11) (N := 79) hx hb hts inB_11 hown hE.1 hP 0 rfl rfl 59 (by decide) (hts _ k_1379) (fun _ h9 => h9) rfl dX11_back_60 ?_
            refine lv_bipush (v := 37) hx hb dX11_back_63 (by decide) ?_
            refine ldI hx hb hE hP 24 rfl (vp_in_nI (n := 37) (by decide) (by decide)) rfl rfl dX11_back_65 ?_
            refine lv_topi (fun t8 et8 => ?_)
            have zt8 : 37 % 39 < 6 ∨ 12 ≤ 37 % 39 ∨ (-1 ≤ t8.toInt ∧ t8.toInt ≤ 5) := by rw [et8]; exact wear_ld hCf6.1 (show 37 < 39 by omega)
            exact ret t8 ((upd (upd v6 35 0) 36 0), f6, w6, g6) _ _ _ _ _ _ rfl ⟨(hT6.symm.trans (gsY_X11_back_1_q0 c7 et8)), (KV.up (j := 36) (x := 0) (KV.up (j := 35) (x := 0) hM_v6 rfl) rfl), hA_f6, ⟨(YIb.upd (j := 36) (x := 0) (YIb.upd (j := 35) (x := 0) hIv6.1 (by decide) (by decide)) (by decide) (by decide)), (by have q9 := hIv6.2; have q0 : (0 : Int32).toInt = 0 := (by decide); show (0 : Int32).toInt + (0 : Int32).toInt ≤ 40; omega)⟩, hCf6, hRf6, (show v6 0 = v 0 from hq0_v6), (show v6 1 = v 1 from hq1_v6), (show v6 2 = v 2 from hq2_v6), (show v6 3 = v 3 from hq3_v6), (show v6 4 = v 4 from hq4_v6), (show v6 5 = v 5 from hq5_v6), (show v6 8 = v 8 from hq8_v6), (show v6 9 = v 9 from hq9_v6), (show v6 10 = v 10 from hq10_v6), (show v6 13 = v 13 from hq13_v6), (show v6 14 = v 14 from hq14_v6), (show v6 15 = v 15 from hq15_v6), (show v6 17 = v 17 from hq17_v6), (show v6 18 = v 18 from hq18_v6), (show v6 24 = v 24 from hq24_v6), (show v6 25 = v 25 from hq25_v6), (show v6 38 = v 38 from hq38_v6), (show v6 39 = v 39 from hq39_v6)⟩ hP hD hS dX11_back_66 (Nat.le_refl _) (Nat.le_refl _)
          · skip
            have zc7 : ¬ (39 ≤ l2_6.toInt) := by rw [fa_le, show (39 : Int32).toInt = 39 from by decide] at c7; exact c7
            refine lv_aload_n hx hb dX11_back_26 rfl (lv_at hl 1 rfl) ?_
            refine va_get (D := (dC, dI)) (ci := 11) (v := .ref (r 59)) (C := RX11) (T := TX11) (N := 79) hx hb hts inB_11 hown hE.1 hP 0 rfl rfl 59 (by decide) (hts _ k_1379) (fun _ h9 => h9) rfl dX11_back_27 ?_
            refine lv_iload_n hx hb dX11_back_30 rfl (lv_at hl 0 rfl) ?_
            refine lv_aload_n hx hb dX11_back_31 rfl (lv_at hl 1 rfl) ?_
            refine va_get (D := (dC, dI)) (ci := 11) (v := .ref (r 78)) (C := RX11) (T := TX11) (N := 79) hx hb hts inB_11 hown hE.1 hP 0 rfl rfl 78 (by decide) (hts _ k_1398) (fun _ h9 => h9) rfl dX11_back_32 ?_
            refine lv_bipush (v := 39) hx hb dX11_back_35 (by decide) ?_
            refine lv_iload_n hx hb dX11_back_37 rfl (lv_at hl 2 rfl) ?_
            refine lv_imul hx hb dX11_back_38 ?_
            refine lv_topi (fun t9 et9 => ?_)
            have rg10 := fb_rng p1
            have zt9 : t9.toInt = 39 * p1.toInt := by rw [et9]; exact mul_i (by decide) rfl (by omega) (by omega)
            refine lv_iload_n hx hb dX11_back_39 rfl (lv_at hl 0 rfl) ?_
            refine lv_iadd hx hb dX11_back_40 ?_
            refine lv_topi (fun t11 et11 => ?_)
            have rg12 := fb_rng t9
            have rg13 := fb_rng l2_6
            have zt11 : t11.toInt = t9.toInt + l2_6.toInt := by rw [et11]; exact add_i rfl rfl (by omega) (by omega)
            refine ldI hx hb hE hP 38 rfl (vp_in_iff.mpr ⟨by omega, by omega⟩) rfl rfl dX11_back_41 ?_
            refine lv_topi (fun t14 et14 => ?_)
            have zt14 : t11.toInt.toNat % 39 < 6 ∨ 12 ≤ t11.toInt.toNat % 39 ∨ (-1 ≤ t14.toInt ∧ t14.toInt ≤ 5) := by rw [et14]; exact wear_ld hCf6.2.2.2.2.2 (show t11.toInt.toNat < 117 by omega)
            refine stI hx hb hE hP hD hS 24 rfl (vp_in_iff.mpr ⟨by omega, by omega⟩) rfl dX11_back_42 (fun H locs hP hD hS => ?_)
            obtain ⟨f15, ef15, hP, hD⟩ : ∃ fz9, fz9 = upd2 f6 23 (upd (f6 23) l2_6.toNatClampNeg t14) ∧ va_P (dC, dI) vwCl (YW cy y0 r v6 fz9 w6 g6) H ∧ va_D A (YW cy y0 r v6 fz9 w6 g6) := ⟨_, rfl, hP, hD⟩
            have hCf15 : YC f15 := by rw [ef15]; exact ⟨(wear_st hCf6.1 (by show l2_6.toInt.toNat % 39 < 6 ∨ 12 ≤ l2_6.toInt.toNat % 39 ∨ (-1 ≤ t14.toInt ∧ t14.toInt ≤ 5); omega)), hCf6.2.1, hCf6.2.2.1, hCf6.2.2.2.1, hCf6.2.2.2.2.1, hCf6.2.2.2.2.2⟩
            have hRf15 : progOK (f15 4) (f15 5) (v6 9).toInt.toNat := by rw [ef15]; exact hRf6
            have hA_f15 : KF [23] f15 f := by rw [ef15]; exact KF.up hA_f6 rfl
            obtain ⟨t16, et16⟩ : ∃ y : Int32, y = l2_6 + 1 := ⟨_, rfl⟩
            have zt16 : t16.toInt = l2_6.toInt + 1 := by rw [et16]; exact add_i rfl (by decide) (by omega) (by omega)
            refine lv_iinc (v := t16) (lv' := [(2, .int t16), (0, .ref y0), (1, .int p1)]) hx hb dX11_back_43 hl (k := 0) rfl (by rw [et16]; rfl) (by decide) rfl (fun ls hl => ?_)
            refine lv_goto (tgt := 20) hx hb dX11_back_46 (by decide) ?_
            have rg17 := fb_rng t16
            exact ih6 t16 v6 f15 w6 g6 hIv6 hCf15 hRf15 hq0_v6 hq1_v6 hq2_v6 hq3_v6 hq4_v6 hq5_v6 hq8_v6 hq9_v6 hq10_v6 hq13_v6 hq14_v6 hq15_v6 hq17_v6 hq18_v6 hq24_v6 hq25_v6 hq35_v6 hq36_v6 hq38_v6 hq39_v6 ((gsY_X11_back_1_q1 c7 et9 et11 et14 ef15 et16).symm.trans hT6) ⟨show (0 : Int) ≤ t16.toInt by omega, show t16.toInt ≤ (2147483647 : Int) by omega⟩ hM_v6 hA_f15 (by show (2147483647 - t16.toInt).toNat < n6; omega) _ _ _ hP hD hS (lv_sub hl [0, 1, 2] rfl)
      exact lp6 (4294967296 + NF) 0 v f w g hIv hCf hRf rfl rfl rfl rfl rfl rfl rfl rfl rfl rfl rfl rfl rfl rfl rfl rfl rfl rfl rfl rfl (gsY_X11_back_1_q2 hG2 et4 c5).symm ⟨by decide, by decide⟩ hM_v hA_f (by have q2 : (0 : Int32).toInt = 0 := (by decide); show (2147483647 - (0 : Int32).toInt).toNat < 4294967296 + NF; omega) _ _ _ hP hD hS (lv_sub hl [0, 1, 2] rfl)
    · skip
      have zc5 : t4.toInt = 0 := by rw [fa_eq, show (0 : Int32).toInt = 0 from by decide] at c5; exact c5
      refine lv_iconst (v := (-1)) hx hb dX11_back_16 (by decide) ?_
      exact ret (-1) (v, f, w, g) _ _ _ _ _ _ rfl ⟨(gsY_X11_back_1_q3 hG2 et4 c5), hM_v, hA_f, hIv, hCf, hRf, rfl, rfl, rfl, rfl, rfl, rfl, rfl, rfl, rfl, rfl, rfl, rfl, rfl, rfl, rfl, rfl, rfl, rfl⟩ hP hD hS dX11_back_17 (Nat.le_refl _) (Nat.le_refl _)
  · skip
    subst g3
    refine lv_if_eq (tgt := 16) hx hb dX11_back_4 (by decide) (fun _ => ?_) (fun c0 => absurd (by decide) c0)
    refine lv_iconst (v := (-1)) hx hb dX11_back_16 (by decide) ?_
    exact ret (-1) (v, f, w, g) _ _ _ _ _ _ rfl ⟨(gsY_X11_back_1_q4 hG2), hM_v, hA_f, hIv, hCf, hRf, rfl, rfl, rfl, rfl, rfl, rfl, rfl, rfl, rfl, rfl, rfl, rfl, rfl, rfl, rfl, rfl, rfl, rfl⟩ hP hD hS dX11_back_17 (Nat.le_refl _) (Nat.le_refl _)
