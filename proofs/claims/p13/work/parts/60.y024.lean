set_option maxHeartbeats 4000000 in
set_option maxRecDepth 100000 in
theorem sY_X11_misfit_1 (NF : Nat) (l : Launch) (dC : Nat → ClassId) (dI : Nat → Nat → Nat) (cy : Nat → ClassId) (y0 : Nat) (r : Nat → Nat) (p1 : Int32) (p2 : Int32) (v : Nat → Int32) (f : Nat → Nat → Int32) (w : Int64) (g : Nat → Int64) (hIv : YI v) (hCf : YC f) (hRf : progOK (f 4) (f 5) (v 9).toInt.toNat)  : ctI l (dC, dI) cy yX11_misfit cX11_misfit 3 .int 4 126 0 0 ((Nat → Int32) × (Nat → Nat → Int32) × (Int64) × (Nat → Int64)) [.ref y0, .int p1, .int p2] (YW cy y0 r v f w g) (fun r u => gsY_X11_misfit_1 NF p1 p2 v f w g = (r, u) ∧ KV [] u.1 v ∧ KF [7, 8, 24] u.2.1 f ∧ YI u.1 ∧ YC u.2.1 ∧ progOK (u.2.1 4) (u.2.1 5) (u.1 9).toInt.toNat ∧ u.1 0 = v 0 ∧ u.1 1 = v 1 ∧ u.1 2 = v 2 ∧ u.1 3 = v 3 ∧ u.1 4 = v 4 ∧ u.1 5 = v 5 ∧ u.1 8 = v 8 ∧ u.1 9 = v 9 ∧ u.1 10 = v 10 ∧ u.1 13 = v 13 ∧ u.1 14 = v 14 ∧ u.1 15 = v 15 ∧ u.1 17 = v 17 ∧ u.1 18 = v 18 ∧ u.1 24 = v 24 ∧ u.1 25 = v 25 ∧ u.1 35 = v 35 ∧ u.1 36 = v 36 ∧ u.1 38 = v 38 ∧ u.1 39 = v 39) (fun u => YW cy y0 r u.1 u.2.1 u.2.2.1 u.2.2.2) := by
  refine ctI_of (by decide) (Nat.le_of_ble_eq_true rfl) (fun p e s m below meth c A ls Q hx hb hml hts hown hE hP hD hA hl ret => ?_)
  have hUv : (v 35).toInt + (v 36).toInt ≤ 40 := hIv.2
  have hM_v : KV [] v v := fun _ _ => rfl
  have hA_f : KF [7, 8, 24] f f := fun _ _ => rfl
  have hown : s.vm.findClass RX11 = some m.cls := hown
  have hS : va_S A s.heap s.heap [] := va_S.rf
  have hl : lv_has ls 3 [(0, .ref y0), (1, .int p1), (2, .int p2)] := hl
  refine lv_aload_n hx hb dX11_misfit_0 rfl (lv_at hl 0 rfl) ?_
  refine cbVv (n := 0) (rest := []) hx hb hml hown hts hE hP hD hS hA (sY_X11_fill_1 NF l dC dI cy y0 r  v f w g hIv hCf hRf ) k_1739 k_1741 k_71 k_114 k_1742 (by decide +kernel) ⟨Nat.le_of_ble_eq_true rfl, Nat.le_of_ble_eq_true rfl⟩ 0 11 rfl rfl (rfl) hl.1 rfl (Nat.le_of_ble_eq_true rfl) dX11_misfit_1 (fun u H locs hw hP hD hS => ?_)
  obtain ⟨hG1, hw⟩ := hw
  obtain ⟨v2, f3, w4, g5⟩ := u
  obtain ⟨kV_v2, kF_f3, hIv2, hCf3, hRf3, hk0_v2, hk1_v2, hk2_v2, hk3_v2, hk4_v2, hk5_v2, hk8_v2, hk9_v2, hk10_v2, hk13_v2, hk14_v2, hk15_v2, hk17_v2, hk18_v2, hk24_v2, hk25_v2, hk35_v2, hk36_v2, hk38_v2, hk39_v2⟩ := hw
  have hM_v2 : KV [] v2 v := KV.tr kV_v2 hM_v rfl
  have hA_f3 : KF [7, 8, 24] f3 f := KF.tr kF_f3 hA_f rfl
  have hP : va_P (dC, dI) vwCl (YW cy y0 r v2 f3 w4 g5) H := hP
  have hD : va_D A (YW cy y0 r v2 f3 w4 g5) := hD
  have hUv2 : (v2 35).toInt + (v2 36).toInt ≤ 40 := hIv2.2
  have hq9_v2 : v2 9 = (v 9) := hk9_v2
  have zq9_v2 := congrArg Int32.toInt hq9_v2
  refine lv_aload_n hx hb dX11_misfit_4 rfl (lv_at hl 0 rfl) ?_
  refine lv_iload_n hx hb dX11_misfit_5 rfl (lv_at hl 1 rfl) ?_
  refine cbVi (n := 1) (rest := []) hx hb hml hown hts hE hP hD hS hA (sY_X11_isMan_1 NF l dC dI cy y0 r p1 v2 f3 w4 g5 hIv2 hCf3 hRf3 ) k_1732 k_1734 k_70 k_114 k_1735 (by decide +kernel) ⟨Nat.le_of_ble_eq_true rfl, Nat.le_of_ble_eq_true rfl⟩ 0 11 rfl rfl (rfl) hl.1 rfl (Nat.le_of_ble_eq_true rfl) dX11_misfit_6 (fun r6 u H locs hw hP hD hS => ?_)
  obtain ⟨hG7, hw⟩ := hw
  rcases hw with ⟨g8, g8_0, g8_1, g8_2⟩ | ⟨g8⟩
  · skip
    subst g8
    refine lv_if_eq (tgt := 29) hx hb dX11_misfit_9 (by decide) (fun c0 => absurd c0 (by decide)) (fun _ => ?_)
    refine lv_aload_n hx hb dX11_misfit_12 rfl (lv_at hl 0 rfl) ?_
    refine lv_iload_n hx hb dX11_misfit_13 rfl (lv_at hl 2 rfl) ?_
    refine cbVi (n := 1) (rest := []) hx hb hml hown hts hE hP hD hS hA (sY_X11_isCoat_1 NF l dC dI cy y0 r p2 v2 f3 w4 g5 hIv2 hCf3 hRf3 ) k_1771 k_1773 k_75 k_114 k_1774 (by decide +kernel) ⟨Nat.le_of_ble_eq_true rfl, Nat.le_of_ble_eq_true rfl⟩ 0 11 rfl rfl (rfl) hl.1 rfl (Nat.le_of_ble_eq_true rfl) dX11_misfit_14 (fun r9 u H locs hw hP hD hS => ?_)
    obtain ⟨hG10, hw⟩ := hw
    rcases hw with ⟨g11, g11_0, g11_1, g11_2⟩ | ⟨g11⟩
    · skip
      subst g11
      refine lv_if_eq (tgt := 29) hx hb dX11_misfit_17 (by decide) (fun c0 => absurd c0 (by decide)) (fun _ => ?_)
      refine lv_aload_n hx hb dX11_misfit_20 rfl (lv_at hl 0 rfl) ?_
      refine lv_iload_n hx hb dX11_misfit_21 rfl (lv_at hl 1 rfl) ?_
      refine lv_iload_n hx hb dX11_misfit_22 rfl (lv_at hl 2 rfl) ?_
      refine cbVi (n := 2) (rest := []) hx hb hml hown hts hE hP hD hS hA (sY_X11_misfitOf_1 NF l dC dI cy y0 r p1 p2 v2 f3 w4 g5 hIv2 hCf3 hRf3 ⟨show (0 : Int) ≤ p1.toInt by omega, show p1.toInt ≤ (5 : Int) by omega⟩ ⟨show (0 : Int) ≤ p2.toInt by omega, show p2.toInt ≤ (5 : Int) by omega⟩) k_1751 k_1753 k_74 k_114 k_1754 (by decide +kernel) ⟨Nat.le_of_ble_eq_true rfl, Nat.le_of_ble_eq_true rfl⟩ 0 11 rfl rfl (rfl) hl.1 rfl (Nat.le_of_ble_eq_true rfl) dX11_misfit_23 (fun r12 u H locs hw hP hD hS => ?_)
      obtain ⟨hG13, hw⟩ := hw
      obtain ⟨v14, f15, w16, g17⟩ := u
      obtain ⟨kV_v14, kF_f15, hIv14, hCf15, hRf15, hk0_v14, hk1_v14, hk2_v14, hk3_v14, hk4_v14, hk5_v14, hk8_v14, hk9_v14, hk10_v14, hk13_v14, hk14_v14, hk15_v14, hk17_v14, hk18_v14, hk24_v14, hk25_v14, hk35_v14, hk36_v14, hk38_v14, hk39_v14⟩ := hw
      have hM_v14 : KV [] v14 v := KV.tr kV_v14 hM_v2 rfl
      have hA_f15 : KF [7, 8, 24] f15 f := KF.tr kF_f15 hA_f3 rfl
      have hP : va_P (dC, dI) vwCl (YW cy y0 r v14 f15 w16 g17) H := hP
      have hD : va_D A (YW cy y0 r v14 f15 w16 g17) := hD
      have hUv14 : (v14 35).toInt + (v14 36).toInt ≤ 40 := hIv14.2
      have hq9_v14 : v14 9 = (v 9) := hk9_v14.trans hq9_v2
      have zq9_v14 := congrArg Int32.toInt hq9_v14
      refine lv_goto (tgt := 30) hx hb dX11_misfit_26 (by decide) ?_
      exact ret r12 (v14, f15, w16, g17) _ _ _ _ _ _ rfl ⟨(gsY_X11_misfit_1_q0 hG1 hG7 hG10 hG13), hM_v14, hA_f15, hIv14, hCf15, hRf15, (hk0_v14.trans hk0_v2), (hk1_v14.trans hk1_v2), (hk2_v14.trans hk2_v2), (hk3_v14.trans hk3_v2), (hk4_v14.trans hk4_v2), (hk5_v14.trans hk5_v2), (hk8_v14.trans hk8_v2), (hk9_v14.trans hk9_v2), (hk10_v14.trans hk10_v2), (hk13_v14.trans hk13_v2), (hk14_v14.trans hk14_v2), (hk15_v14.trans hk15_v2), (hk17_v14.trans hk17_v2), (hk18_v14.trans hk18_v2), (hk24_v14.trans hk24_v2), (hk25_v14.trans hk25_v2), (hk35_v14.trans hk35_v2), (hk36_v14.trans hk36_v2), (hk38_v14.trans hk38_v2), (hk39_v14.trans hk39_v2)⟩ hP hD hS dX11_misfit_30 (Nat.le_refl _) (Nat.le_refl _)
    · skip
      subst g11
      refine lv_if_eq (tgt := 29) hx hb dX11_misfit_17 (by decide) (fun _ => ?_) (fun c0 => absurd (by decide) c0)
      refine lv_iconst (v := (-1)) hx hb dX11_misfit_29 (by decide) ?_
      exact ret (-1) (v2, f3, w4, g5) _ _ _ _ _ _ rfl ⟨(gsY_X11_misfit_1_q1 hG1 hG7 hG10), hM_v2, hA_f3, hIv2, hCf3, hRf3, hk0_v2, hk1_v2, hk2_v2, hk3_v2, hk4_v2, hk5_v2, hk8_v2, hk9_v2, hk10_v2, hk13_v2, hk14_v2, hk15_v2, hk17_v2, hk18_v2, hk24_v2, hk25_v2, hk35_v2, hk36_v2, hk38_v2, hk39_v2⟩ hP hD hS dX11_misfit_30 (Nat.le_refl _) (Nat.le_refl _)
  · skip
    subst g8
    refine lv_if_eq (tgt := 29) hx hb dX11_misfit_9 (by decide) (fun _ => ?_) (fun c0 => absurd (by decide) c0)
    refine lv_iconst (v := (-1)) hx hb dX11_misfit_29 (by decide) ?_
    exact ret (-1) (v2, f3, w4, g5) _ _ _ _ _ _ rfl ⟨(gsY_X11_misfit_1_q2 hG1 hG7), hM_v2, hA_f3, hIv2, hCf3, hRf3, hk0_v2, hk1_v2, hk2_v2, hk3_v2, hk4_v2, hk5_v2, hk8_v2, hk9_v2, hk10_v2, hk13_v2, hk14_v2, hk15_v2, hk17_v2, hk18_v2, hk24_v2, hk25_v2, hk35_v2, hk36_v2, hk38_v2, hk39_v2⟩ hP hD hS dX11_misfit_30 (Nat.le_refl _) (Nat.le_refl _)
