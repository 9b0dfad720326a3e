set_option maxHeartbeats 4000000 in
set_option maxRecDepth 100000 in
theorem sY_X11_don_1 (NF : Nat) (l : Launch) (dC : Nat → ClassId) (dI : Nat → Nat → Nat) (cy : Nat → ClassId) (y0 : Nat) (r : Nat → Nat) (p1 : Int32) (p2 : Int32) (v : Nat → Int32) (f : Nat → Nat → Int32) (w : Int64) (g : Nat → Int64) (hIv : YI v) (hCf : YC f) (hRf : progOK (f 4) (f 5) (v 9).toInt.toNat)  : ctI l (dC, dI) cy yX11_don cX11_don 4 .int 3 103 0 0 ((Nat → Int32) × (Nat → Nat → Int32) × (Int64) × (Nat → Int64)) [.ref y0, .int p1, .int p2] (YW cy y0 r v f w g) (fun r u => gsY_X11_don_1 NF p1 p2 v f w g = (r, u) ∧ KV [35, 36] u.1 v ∧ KF [23, 24, 25] u.2.1 f ∧ YI u.1 ∧ YC u.2.1 ∧ progOK (u.2.1 4) (u.2.1 5) (u.1 9).toInt.toNat ∧ u.1 0 = v 0 ∧ u.1 1 = v 1 ∧ u.1 2 = v 2 ∧ u.1 3 = v 3 ∧ u.1 4 = v 4 ∧ u.1 5 = v 5 ∧ u.1 8 = v 8 ∧ u.1 9 = v 9 ∧ u.1 10 = v 10 ∧ u.1 13 = v 13 ∧ u.1 14 = v 14 ∧ u.1 15 = v 15 ∧ u.1 17 = v 17 ∧ u.1 18 = v 18 ∧ u.1 24 = v 24 ∧ u.1 25 = v 25 ∧ u.1 38 = v 38 ∧ u.1 39 = v 39) (fun u => YW cy y0 r u.1 u.2.1 u.2.2.1 u.2.2.2) := by
  refine ctI_of (by decide) (Nat.le_of_ble_eq_true rfl) (fun p e s m below meth c A ls Q hx hb hml hts hown hE hP hD hA hl ret => ?_)
  have hUv : (v 35).toInt + (v 36).toInt ≤ 40 := hIv.2
  have hM_v : KV [35, 36] v v := fun _ _ => rfl
  have hA_f : KF [23, 24, 25] f f := fun _ _ => rfl
  have hown : s.vm.findClass RX11 = some m.cls := hown
  have hS : va_S A s.heap s.heap [] := va_S.rf
  have hl : lv_has ls 4 [(0, .ref y0), (1, .int p1), (2, .int p2)] := hl
  refine lv_aload_n hx hb dX11_don_0 rfl (lv_at hl 0 rfl) ?_
  refine cbVv (n := 0) (rest := []) hx hb hml hown hts hE hP hD hS hA (sY_X11_fill_1 NF l dC dI cy y0 r  v f w g hIv hCf hRf ) k_1739 k_1741 k_71 k_114 k_1742 (by decide +kernel) ⟨Nat.le_of_ble_eq_true rfl, Nat.le_of_ble_eq_true rfl⟩ 0 11 rfl rfl (rfl) hl.1 rfl (Nat.le_of_ble_eq_true rfl) dX11_don_1 (fun u H locs hw hP hD hS => ?_)
  obtain ⟨hG1, hw⟩ := hw
  obtain ⟨v2, f3, w4, g5⟩ := u
  obtain ⟨kV_v2, kF_f3, hIv2, hCf3, hRf3, hk0_v2, hk1_v2, hk2_v2, hk3_v2, hk4_v2, hk5_v2, hk8_v2, hk9_v2, hk10_v2, hk13_v2, hk14_v2, hk15_v2, hk17_v2, hk18_v2, hk24_v2, hk25_v2, hk35_v2, hk36_v2, hk38_v2, hk39_v2⟩ := hw
  have hM_v2 : KV [35, 36] v2 v := KV.tr kV_v2 hM_v rfl
  have hA_f3 : KF [23, 24, 25] f3 f := KF.tr kF_f3 hA_f rfl
  have hP : va_P (dC, dI) vwCl (YW cy y0 r v2 f3 w4 g5) H := hP
  have hD : va_D A (YW cy y0 r v2 f3 w4 g5) := hD
  have hUv2 : (v2 35).toInt + (v2 36).toInt ≤ 40 := hIv2.2
  have hq9_v2 : v2 9 = (v 9) := hk9_v2
  have zq9_v2 := congrArg Int32.toInt hq9_v2
  refine lv_aload_n hx hb dX11_don_4 rfl (lv_at hl 0 rfl) ?_
  refine lv_iload_n hx hb dX11_don_5 rfl (lv_at hl 1 rfl) ?_
  refine cbVi (n := 1) (rest := []) hx hb hml hown hts hE hP hD hS hA (sY_X11_isMan_1 NF l dC dI cy y0 r p1 v2 f3 w4 g5 hIv2 hCf3 hRf3 ) k_1732 k_1734 k_70 k_114 k_1735 (by decide +kernel) ⟨Nat.le_of_ble_eq_true rfl, Nat.le_of_ble_eq_true rfl⟩ 0 11 rfl rfl (rfl) hl.1 rfl (Nat.le_of_ble_eq_true rfl) dX11_don_6 (fun r6 u H locs hw hP hD hS => ?_)
  obtain ⟨hG7, hw⟩ := hw
  rcases hw with ⟨g8, g8_0, g8_1, g8_2⟩ | ⟨g8⟩
  · skip
    subst g8
    refine lv_if_eq (tgt := 28) hx hb dX11_don_9 (by decide) (fun c0 => absurd c0 (by decide)) (fun _ => ?_)
    refine lv_aload_n hx hb dX11_don_12 rfl (lv_at hl 0 rfl) ?_
    refine lv_iload_n hx hb dX11_don_13 rfl (lv_at hl 2 rfl) ?_
    refine cbVi (n := 1) (rest := []) hx hb hml hown hts hE hP hD hS hA (sY_X11_isCoat_1 NF l dC dI cy y0 r p2 v2 f3 w4 g5 hIv2 hCf3 hRf3 ) k_1771 k_1773 k_75 k_114 k_1774 (by decide +kernel) ⟨Nat.le_of_ble_eq_true rfl, Nat.le_of_ble_eq_true rfl⟩ 0 11 rfl rfl (rfl) hl.1 rfl (Nat.le_of_ble_eq_true rfl) dX11_don_14 (fun r9 u H locs hw hP hD hS => ?_)
    obtain ⟨hG10, hw⟩ := hw
    rcases hw with ⟨g11, g11_0, g11_1, g11_2⟩ | ⟨g11⟩
    · skip
      subst g11
      refine lv_if_eq (tgt := 28) hx hb dX11_don_17 (by decide) (fun c0 => absurd c0 (by decide)) (fun _ => ?_)
      refine lv_aload_n hx hb dX11_don_20 rfl (lv_at hl 0 rfl) ?_
      refine lv_iload_n hx hb dX11_don_21 rfl (lv_at hl 2 rfl) ?_
      refine cbVi (n := 1) (rest := []) hx hb hml hown hts hE hP hD hS hA (sY_X11_wearer_1 NF l dC dI cy y0 r p2 v2 f3 w4 g5 hIv2 hCf3 hRf3 ) k_1775 k_1777 k_76 k_114 k_1778 (by decide +kernel) ⟨Nat.le_of_ble_eq_true rfl, Nat.le_of_ble_eq_true rfl⟩ 0 11 rfl rfl (rfl) hl.1 rfl (Nat.le_of_ble_eq_true rfl) dX11_don_22 (fun r12 u H locs hw hP hD hS => ?_)
      have hG13 := hw
      refine lv_if_lt (tgt := 31) hx hb dX11_don_25 (by decide) (fun c14 => ?_) (fun c14 => ?_)
      · skip
        have zc14 : r12.toInt < 0 := by rw [fa_lt, show (0 : Int32).toInt = 0 from by decide] at c14; exact c14
        refine lv_aload_n hx hb dX11_don_31 rfl (lv_at hl 0 rfl) ?_
        refine cbVv (n := 0) (rest := []) hx hb hml hown hts hE hP hD hS hA (sY_X11_act_1 NF l dC dI cy y0 r  v2 f3 w4 g5 hIv2 hCf3 hRf3 ) k_1787 k_1789 k_77 k_114 k_1790 (by decide +kernel) ⟨Nat.le_of_ble_eq_true rfl, Nat.le_of_ble_eq_true rfl⟩ 0 11 rfl rfl (rfl) hl.1 rfl (Nat.le_of_ble_eq_true rfl) dX11_don_32 (fun u H locs hw hP hD hS => ?_)
        obtain ⟨hG15, hw⟩ := hw
        obtain ⟨v16, f17, w18, g19⟩ := u
        obtain ⟨kV_v16, kF_f17, hIv16, hCf17, hRf17, hk0_v16, hk1_v16, hk2_v16, hk3_v16, hk4_v16, hk5_v16, hk8_v16, hk9_v16, hk10_v16, hk13_v16, hk14_v16, hk15_v16, hk17_v16, hk18_v16, hk24_v16, hk25_v16, hk38_v16, hk39_v16⟩ := hw
        have hM_v16 : KV [35, 36] v16 v := KV.tr kV_v16 hM_v2 rfl
        have hA_f17 : KF [23, 24, 25] f17 f := KF.tr kF_f17 hA_f3 rfl
        have hP : va_P (dC, dI) vwCl (YW cy y0 r v16 f17 w18 g19) H := hP
        have hD : va_D A (YW cy y0 r v16 f17 w18 g19) := hD
        have hUv16 : (v16 35).toInt + (v16 36).toInt ≤ 40 := hIv16.2
        have hq9_v16 : v16 9 = (v 9) := hk9_v16.trans hq9_v2
        have zq9_v16 := congrArg Int32.toInt hq9_v16
        refine lv_aload_n hx hb dX11_don_35 rfl (lv_at hl 0 rfl) ?_
        refine va_get (D := (dC, dI)) (ci := 11) (v := .ref (r 59)) (C := RX11) (T := TX11) (N := 79) hx hb hts inB_11 hown hE.1 hP 0 rfl rfl 59 (by decide) (hts _ k_1379) (fun _ h9 => h9) rfl dX11_don_36 ?_
        refine lv_bipush (v := 6) hx hb dX11_don_39 (by decide) ?_
        refine lv_iload_n hx hb dX11_don_41 rfl (lv_at hl 1 rfl) ?_
        refine lv_iadd hx hb dX11_don_42 ?_
        refine lv_topi (fun t20 et20 => ?_)
        have rg21 := fb_rng p1
        have zt20 : t20.toInt = 6 + p1.toInt := by rw [et20]; exact add_i (by decide) rfl (by omega) (by omega)
        refine ldI hx hb hE hP 24 rfl (vp_in_iff.mpr ⟨by omega, by omega⟩) rfl rfl dX11_don_43 ?_
        refine lv_topi (fun t22 et22 => ?_)
        have zt22 : t20.toInt.toNat % 39 < 6 ∨ 12 ≤ t20.toInt.toNat % 39 ∨ (-1 ≤ t22.toInt ∧ t22.toInt ≤ 5) := by rw [et22]; exact wear_ld hCf17.1 (show t20.toInt.toNat < 39 by omega)
        refine lv_istore_n (lv' := [(3, .int t22), (0, .ref y0), (1, .int p1), (2, .int p2)]) hx hb dX11_don_44 rfl hl (by decide) rfl (fun ls hl => ?_)
        refine lv_aload_n hx hb dX11_don_45 rfl (lv_at hl 1 rfl) ?_
        refine va_get (D := (dC, dI)) (ci := 11) (v := .ref (r 59)) (C := RX11) (T := TX11) (N := 79) hx hb hts inB_11 hown hE.1 hP 0 rfl rfl 59 (by decide) (hts _ k_1379) (fun _ h9 => h9) rfl dX11_don_46 ?_
        refine lv_bipush (v := 6) hx hb dX11_don_49 (by decide) ?_
        refine lv_iload_n hx hb dX11_don_51 rfl (lv_at hl 2 rfl) ?_
        refine lv_iadd hx hb dX11_don_52 ?_
        refine tI (y := t20) et20.symm ?_
        refine lv_iload_n hx hb dX11_don_53 rfl (lv_at hl 3 rfl) ?_
        refine stI hx hb hE hP hD hS 24 rfl (vp_in_iff.mpr ⟨by omega, by omega⟩) rfl dX11_don_54 (fun H locs hP hD hS => ?_)
        obtain ⟨f23, ef23, hP, hD⟩ : ∃ fz9, fz9 = upd2 f17 23 (upd (f17 23) t20.toNatClampNeg p2) ∧ va_P (dC, dI) vwCl (YW cy y0 r v16 fz9 w18 g19) H ∧ va_D A (YW cy y0 r v16 fz9 w18 g19) := ⟨_, rfl, hP, hD⟩
        have hCf23 : YC f23 := by rw [ef23]; exact ⟨(wear_st hCf17.1 (by show t20.toInt.toNat % 39 < 6 ∨ 12 ≤ t20.toInt.toNat % 39 ∨ (-1 ≤ p2.toInt ∧ p2.toInt ≤ 5); omega)), hCf17.2.1, hCf17.2.2.1, hCf17.2.2.2.1, hCf17.2.2.2.2.1, hCf17.2.2.2.2.2⟩
        have hRf23 : progOK (f23 4) (f23 5) (v16 9).toInt.toNat := by rw [ef23]; exact hRf17
        have hA_f23 : KF [23, 24, 25] f23 f := by rw [ef23]; exact KF.up hA_f17 rfl
        refine lv_iload_n hx hb dX11_don_55 rfl (lv_at hl 0 rfl) ?_
        exact ret t22 (v16, f23, w18, g19) _ _ _ _ _ _ rfl ⟨(gsY_X11_don_1_q0 hG1 hG7 hG10 hG13.symm c14 hG15 et20 et22 ef23), hM_v16, hA_f23, hIv16, hCf23, hRf23, (hk0_v16.trans hk0_v2), (hk1_v16.trans hk1_v2), (hk2_v16.trans hk2_v2), (hk3_v16.trans hk3_v2), (hk4_v16.trans hk4_v2), (hk5_v16.trans hk5_v2), (hk8_v16.trans hk8_v2), (hk9_v16.trans hk9_v2), (hk10_v16.trans hk10_v2), (hk13_v16.trans hk13_v2), (hk14_v16.trans hk14_v2), (hk15_v16.trans hk15_v2), (hk17_v16.trans hk17_v2), (hk18_v16.trans hk18_v2), (hk24_v16.trans hk24_v2), (hk25_v16.trans hk25_v2), (hk38_v16.trans hk38_v2), (hk39_v16.trans hk39_v2)⟩ hP hD hS dX11_don_56 (Nat.le_refl _) (Nat.le_refl _)
      · skip
        have zc14 : ¬ (r12.toInt < 0) := by rw [fa_lt, show (0 : Int32).toInt = 0 from by decide] at c14; exact c14
        refine lv_bipush (v := (-2)) hx hb dX11_don_28 (by decide) ?_
        exact ret (-2) (v2, f3, w4, g5) _ _ _ _ _ _ rfl ⟨(gsY_X11_don_1_q1 hG1 hG7 hG10 hG13.symm c14), hM_v2, hA_f3, hIv2, hCf3, hRf3, hk0_v2, hk1_v2, hk2_v2, hk3_v2, hk4_v2, hk5_v2, hk8_v2, hk9_v2, hk10_v2, hk13_v2, hk14_v2, hk15_v2, hk17_v2, hk18_v2, hk24_v2, hk25_v2, hk38_v2, hk39_v2⟩ hP hD hS dX11_don_30 (Nat.le_refl _) (Nat.le_refl _)
    · skip
      subst g11
      refine lv_if_eq (tgt := 28) hx hb dX11_don_17 (by decide) (fun _ => ?_) (fun c0 => absurd (by decide) c0)
      refine lv_bipush (v := (-2)) hx hb dX11_don_28 (by decide) ?_
      exact ret (-2) (v2, f3, w4, g5) _ _ _ _ _ _ rfl ⟨(gsY_X11_don_1_q2 hG1 hG7 hG10), hM_v2, hA_f3, hIv2, hCf3, hRf3, hk0_v2, hk1_v2, hk2_v2, hk3_v2, hk4_v2, hk5_v2, hk8_v2, hk9_v2, hk10_v2, hk13_v2, hk14_v2, hk15_v2, hk17_v2, hk18_v2, hk24_v2, hk25_v2, hk38_v2, hk39_v2⟩ hP hD hS dX11_don_30 (Nat.le_refl _) (Nat.le_refl _)
  · skip
    subst g8
    refine lv_if_eq (tgt := 28) hx hb dX11_don_9 (by decide) (fun _ => ?_) (fun c0 => absurd (by decide) c0)
    refine lv_bipush (v := (-2)) hx hb dX11_don_28 (by decide) ?_
    exact ret (-2) (v2, f3, w4, g5) _ _ _ _ _ _ rfl ⟨(gsY_X11_don_1_q3 hG1 hG7), hM_v2, hA_f3, hIv2, hCf3, hRf3, hk0_v2, hk1_v2, hk2_v2, hk3_v2, hk4_v2, hk5_v2, hk8_v2, hk9_v2, hk10_v2, hk13_v2, hk14_v2, hk15_v2, hk17_v2, hk18_v2, hk24_v2, hk25_v2, hk38_v2, hk39_v2⟩ hP hD hS dX11_don_30 (Nat.le_refl _) (Nat.le_refl _)
set_option maxHeartbeats 4000000 in
set_option maxRecDepth 100000 in
theorem sY_X11_doff_1 (NF : Nat) (l : Launch) (dC : Nat → ClassId) (dI : Nat → Nat → Nat) (cy : Nat → ClassId) (y0 : Nat) (r : Nat → Nat) (p1 : Int32) (v : Nat → Int32) (f : Nat → Nat → Int32) (w : Int64) (g : Nat → Int64) (hIv : YI v) (hCf : YC f) (hRf : progOK (f 4) (f 5) (v 9).toInt.toNat)  : ctI l (dC, dI) cy yX11_doff cX11_doff 3 .int 3 103 0 0 ((Nat → Int32) × (Nat → Nat → Int32) × (Int64) × (Nat → Int64)) [.ref y0, .int p1] (YW cy y0 r v f w g) (fun r u => gsY_X11_doff_1 NF p1 v f w g = (r, u) ∧ KV [35, 36] u.1 v ∧ KF [23, 24, 25] u.2.1 f ∧ YI u.1 ∧ YC u.2.1 ∧ progOK (u.2.1 4) (u.2.1 5) (u.1 9).toInt.toNat ∧ u.1 0 = v 0 ∧ u.1 1 = v 1 ∧ u.1 2 = v 2 ∧ u.1 3 = v 3 ∧ u.1 4 = v 4 ∧ u.1 5 = v 5 ∧ u.1 8 = v 8 ∧ u.1 9 = v 9 ∧ u.1 10 = v 10 ∧ u.1 13 = v 13 ∧ u.1 14 = v 14 ∧ u.1 15 = v 15 ∧ u.1 17 = v 17 ∧ u.1 18 = v 18 ∧ u.1 24 = v 24 ∧ u.1 25 = v 25 ∧ u.1 38 = v 38 ∧ u.1 39 = v 39) (fun u => YW cy y0 r u.1 u.2.1 u.2.2.1 u.2.2.2) := by
  refine ctI_of (by decide) (Nat.le_of_ble_eq_true rfl) (fun p e s m below meth c A ls Q hx hb hml hts hown hE hP hD hA hl ret => ?_)
  have hUv : (v 35).toInt + (v 36).toInt ≤ 40 := hIv.2
  have hM_v : KV [35, 36] v v := fun _ _ => rfl
  have hA_f : KF [23, 24, 25] f f := fun _ _ => rfl
  have hown : s.vm.findClass RX11 = some m.cls := hown
  have hS : va_S A s.heap s.heap [] := va_S.rf
  have hl : lv_has ls 3 [(0, .ref y0), (1, .int p1)] := hl
  refine lv_aload_n hx hb dX11_doff_0 rfl (lv_at hl 0 rfl) ?_
  refine lv_iload_n hx hb dX11_doff_1 rfl (lv_at hl 1 rfl) ?_
  refine cbVi (n := 1) (rest := []) hx hb hml hown hts hE hP hD hS hA (sY_X11_isMan_1 NF l dC dI cy y0 r p1 v f w g hIv hCf hRf ) k_1732 k_1734 k_70 k_114 k_1735 (by decide +kernel) ⟨Nat.le_of_ble_eq_true rfl, Nat.le_of_ble_eq_true rfl⟩ 0 11 rfl rfl (rfl) hl.1 rfl (Nat.le_of_ble_eq_true rfl) dX11_doff_2 (fun r1 u H locs hw hP hD hS => ?_)
  obtain ⟨hG2, hw⟩ := hw
  rcases hw with ⟨g3, g3_0, g3_1, g3_2⟩ | ⟨g3⟩
  · skip
    subst g3
    refine lv_if_eq (tgt := 20) hx hb dX11_doff_5 (by decide) (fun c0 => absurd c0 (by decide)) (fun _ => ?_)
    refine lv_aload_n hx hb dX11_doff_8 rfl (lv_at hl 0 rfl) ?_
    refine va_get (D := (dC, dI)) (ci := 11) (v := .ref (r 59)) (C := RX11) (T := TX11) (N := 79) hx hb hts inB_11 hown hE.1 hP 0 rfl rfl 59 (by decide) (hts _ k_1379) (fun _ h9 => h9) rfl dX11_doff_9 ?_
    refine lv_bipush (v := 6) hx hb dX11_doff_12 (by decide) ?_
    refine lv_iload_n hx hb dX11_doff_14 rfl (lv_at hl 1 rfl) ?_
    refine lv_iadd hx hb dX11_doff_15 ?_
    refine lv_topi (fun t4 et4 => ?_)
    have rg5 := fb_rng p1
    have zt4 : t4.toInt = 6 + p1.toInt := by rw [et4]; exact add_i (by decide) rfl (by omega) (by omega)
    refine ldI hx hb hE hP 24 rfl (vp_in_iff.mpr ⟨by omega, by omega⟩) rfl rfl dX11_doff_16 ?_
    refine lv_topi (fun t6 et6 => ?_)
    have zt6 : t4.toInt.toNat % 39 < 6 ∨ 12 ≤ t4.toInt.toNat % 39 ∨ (-1 ≤ t6.toInt ∧ t6.toInt ≤ 5) := by rw [et6]; exact wear_ld hCf.1 (show t4.toInt.toNat < 39 by omega)
    refine lv_if_ge (tgt := 22) hx hb dX11_doff_17 (by decide) (fun c7 => ?_) (fun c7 => ?_)
    · skip
      have zc7 : 0 ≤ t6.toInt := by rw [fa_le, show (0 : Int32).toInt = 0 from by decide] at c7; exact c7
      refine lv_aload_n hx hb dX11_doff_22 rfl (lv_at hl 0 rfl) ?_
      refine cbVv (n := 0) (rest := []) hx hb hml hown hts hE hP hD hS hA (sY_X11_act_1 NF l dC dI cy y0 r  v f w g hIv hCf hRf ) k_1787 k_1789 k_77 k_114 k_1790 (by decide +kernel) ⟨Nat.le_of_ble_eq_true rfl, Nat.le_of_ble_eq_true rfl⟩ 0 11 rfl rfl (rfl) hl.1 rfl (Nat.le_of_ble_eq_true rfl) dX11_doff_23 (fun u H locs hw hP hD hS => ?_)
      obtain ⟨hG8, hw⟩ := hw
      obtain ⟨v9, f10, w11, g12⟩ := u
      obtain ⟨kV_v9, kF_f10, hIv9, hCf10, hRf10, hk0_v9, hk1_v9, hk2_v9, hk3_v9, hk4_v9, hk5_v9, hk8_v9, hk9_v9, hk10_v9, hk13_v9, hk14_v9, hk15_v9, hk17_v9, hk18_v9, hk24_v9, hk25_v9, hk38_v9, hk39_v9⟩ := hw
      have hM_v9 : KV [35, 36] v9 v := KV.tr kV_v9 hM_v rfl
      have hA_f10 : KF [23, 24, 25] f10 f := KF.tr kF_f10 hA_f rfl
      have hP : va_P (dC, dI) vwCl (YW cy y0 r v9 f10 w11 g12) H := hP
      have hD : va_D A (YW cy y0 r v9 f10 w11 g12) := hD
      have hUv9 : (v9 35).toInt + (v9 36).toInt ≤ 40 := hIv9.2
      have hq9_v9 : v9 9 = (v 9) := hk9_v9
      have zq9_v9 := congrArg Int32.toInt hq9_v9
      refine lv_aload_n hx hb dX11_doff_26 rfl (lv_at hl 0 rfl) ?_
      refine va_get (D := (dC, dI)) (ci := 11) (v := .ref (r 59)) (C := RX11) (T := TX11) (N := 79) hx hb hts inB_11 hown hE.1 hP 0 rfl rfl 59 (by decide) (hts _ k_1379) (fun _ h9 => h9) rfl dX11_doff_27 ?_
      refine lv_bipush (v := 6) hx hb dX11_doff_30 (by decide) ?_
      refine lv_iload_n hx hb dX11_doff_32 rfl (lv_at hl 1 rfl) ?_
      refine lv_iadd hx hb dX11_doff_33 ?_
      refine tI (y := t4) et4.symm ?_
      refine ldI hx hb hE hP 24 rfl (vp_in_iff.mpr ⟨by omega, by omega⟩) rfl rfl dX11_doff_34 ?_
      refine lv_topi (fun t13 et13 => ?_)
      have zt13 : t4.toInt.toNat % 39 < 6 ∨ 12 ≤ t4.toInt.toNat % 39 ∨ (-1 ≤ t13.toInt ∧ t13.toInt ≤ 5) := by rw [et13]; exact wear_ld hCf10.1 (show t4.toInt.toNat < 39 by omega)
      refine lv_istore_n (lv' := [(2, .int t13), (0, .ref y0), (1, .int p1)]) hx hb dX11_doff_35 rfl hl (by decide) rfl (fun ls hl => ?_)
      refine lv_aload_n hx hb dX11_doff_36 rfl (lv_at hl 1 rfl) ?_
      refine va_get (D := (dC, dI)) (ci := 11) (v := .ref (r 59)) (C := RX11) (T := TX11) (N := 79) hx hb hts inB_11 hown hE.1 hP 0 rfl rfl 59 (by decide) (hts _ k_1379) (fun _ h9 => h9) rfl dX11_doff_37 ?_
      refine lv_bipush (v := 6) hx hb dX11_doff_40 (by decide) ?_
      refine lv_iload_n hx hb dX11_doff_42 rfl (lv_at hl 2 rfl) ?_
      refine lv_iadd hx hb dX11_doff_43 ?_
      refine tI (y := t4) et4.symm ?_
      refine lv_iconst (v := (-1)) hx hb dX11_doff_44 (by decide) ?_
      refine stI hx hb hE hP hD hS 24 rfl (vp_in_iff.mpr ⟨by omega, by omega⟩) rfl dX11_doff_45 (fun H locs hP hD hS => ?_)
      obtain ⟨f14, ef14, hP, hD⟩ : ∃ fz9, fz9 = upd2 f10 23 (upd (f10 23) t4.toNatClampNeg (-1)) ∧ va_P (dC, dI) vwCl (YW cy y0 r v9 fz9 w11 g12) H ∧ va_D A (YW cy y0 r v9 fz9 w11 g12) := ⟨_, rfl, hP, hD⟩
      have hCf14 : YC f14 := by rw [ef14]; exact ⟨(wear_st hCf10.1 (by have q9 : ((-1) : Int32).toInt = -1 := (by decide); show t4.toInt.toNat % 39 < 6 ∨ 12 ≤ t4.toInt.toNat % 39 ∨ (-1 ≤ ((-1) : Int32).toInt ∧ ((-1) : Int32).toInt ≤ 5); omega)), hCf10.2.1, hCf10.2.2.1, hCf10.2.2.2.1, hCf10.2.2.2.2.1, hCf10.2.2.2.2.2⟩
      have hRf14 : progOK (f14 4) (f14 5) (v9 9).toInt.toNat := by rw [ef14]; exact hRf10
      have hA_f14 : KF [23, 24, 25] f14 f := by rw [ef14]; exact KF.up hA_f10 rfl
      refine lv_iload_n hx hb dX11_doff_46 rfl (lv_at hl 0 rfl) ?_
      exact ret t13 (v9, f14, w11, g12) _ _ _ _ _ _ rfl ⟨(gsY_X11_doff_1_q0 hG2 et4 et6 c7 hG8 et13 ef14), hM_v9, hA_f14, hIv9, hCf14, hRf14, hk0_v9, hk1_v9, hk2_v9, hk3_v9, hk4_v9, hk5_v9, hk8_v9, hk9_v9, hk10_v9, hk13_v9, hk14_v9, hk15_v9, hk17_v9, hk18_v9, hk24_v9, hk25_v9, hk38_v9, hk39_v9⟩ hP hD hS dX11_doff_47 (Nat.le_refl _) (Nat.le_refl _)
    · skip
      have zc7 : ¬ (0 ≤ t6.toInt) := by rw [fa_le, show (0 : Int32).toInt = 0 from by decide] at c7; exact c7
      refine lv_iconst (v := (-1)) hx hb dX11_doff_20 (by decide) ?_
      exact ret (-1) (v, f, w, g) _ _ _ _ _ _ rfl ⟨(gsY_X11_doff_1_q1 hG2 et4 et6 c7), hM_v, hA_f, hIv, hCf, hRf, rfl, rfl, rfl, rfl, rfl, rfl, rfl, rfl, rfl, rfl, rfl, rfl, rfl, rfl, rfl, rfl, rfl, rfl⟩ hP hD hS dX11_doff_21 (Nat.le_refl _) (Nat.le_refl _)
  · skip
    subst g3
    refine lv_if_eq (tgt := 20) hx hb dX11_doff_5 (by decide) (fun _ => ?_) (fun c0 => absurd (by decide) c0)
    refine lv_iconst (v := (-1)) hx hb dX11_doff_20 (by decide) ?_
    exact ret (-1) (v, f, w, g) _ _ _ _ _ _ rfl ⟨(gsY_X11_doff_1_q2 hG2), hM_v, hA_f, hIv, hCf, hRf, rfl, rfl, rfl, rfl, rfl, rfl, rfl, rfl, rfl, rfl, rfl, rfl, rfl, rfl, rfl, rfl, rfl, rfl⟩ hP hD hS dX11_doff_21 (Nat.le_refl _) (Nat.le_refl _)
set_option maxHeartbeats 4000000 in
set_option maxRecDepth 100000 in
theorem sY_X11_letout_1 (NF : Nat) (l : Launch) (dC : Nat → ClassId) (dI : Nat → Nat → Nat) (cy : Nat → ClassId) (y0 : Nat) (r : Nat → Nat) (p1 : Int32) (p2 : Int32) (v : Nat → Int32) (f : Nat → Nat → Int32) (w : Int64) (g : Nat → Int64) (hIv : YI v) (hCf : YC f) (hRf : progOK (f 4) (f 5) (v 9).toInt.toNat)  : ctI l (dC, dI) cy yX11_letout cX11_letout 3 .int 3 103 0 0 ((Nat → Int32) × (Nat → Nat → Int32) × (Int64) × (Nat → Int64)) [.ref y0, .int p1, .int p2] (YW cy y0 r v f w g) (fun r u => gsY_X11_letout_1 NF p1 p2 v f w g = (r, u) ∧ KV [35, 36] u.1 v ∧ KF [23, 24, 25] u.2.1 f ∧ YI u.1 ∧ YC u.2.1 ∧ progOK (u.2.1 4) (u.2.1 5) (u.1 9).toInt.toNat ∧ u.1 0 = v 0 ∧ u.1 1 = v 1 ∧ u.1 2 = v 2 ∧ u.1 3 = v 3 ∧ u.1 4 = v 4 ∧ u.1 5 = v 5 ∧ u.1 8 = v 8 ∧ u.1 9 = v 9 ∧ u.1 10 = v 10 ∧ u.1 13 = v 13 ∧ u.1 14 = v 14 ∧ u.1 15 = v 15 ∧ u.1 17 = v 17 ∧ u.1 18 = v 18 ∧ u.1 24 = v 24 ∧ u.1 25 = v 25 ∧ u.1 38 = v 38 ∧ u.1 39 = v 39) (fun u => YW cy y0 r u.1 u.2.1 u.2.2.1 u.2.2.2) := by
  refine ctI_of (by decide) (Nat.le_of_ble_eq_true rfl) (fun p e s m below meth c A ls Q hx hb hml hts hown hE hP hD hA hl ret => ?_)
  have hUv : (v 35).toInt + (v 36).toInt ≤ 40 := hIv.2
  have hM_v : KV [35, 36] v v := fun _ _ => rfl
  have hA_f : KF [23, 24, 25] f f := fun _ _ => rfl
  have hown : s.vm.findClass RX11 = some m.cls := hown
  have hS : va_S A s.heap s.heap [] := va_S.rf
  have hl : lv_has ls 3 [(0, .ref y0), (1, .int p1), (2, .int p2)] := hl
  refine lv_aload_n hx hb dX11_letout_0 rfl (lv_at hl 0 rfl) ?_
  refine lv_iload_n hx hb dX11_letout_1 rfl (lv_at hl 1 rfl) ?_
  refine cbVi (n := 1) (rest := []) hx hb hml hown hts hE hP hD hS hA (sY_X11_isCoat_1 NF l dC dI cy y0 r p1 v f w g hIv hCf hRf ) k_1771 k_1773 k_75 k_114 k_1774 (by decide +kernel) ⟨Nat.le_of_ble_eq_true rfl, Nat.le_of_ble_eq_true rfl⟩ 0 11 rfl rfl (rfl) hl.1 rfl (Nat.le_of_ble_eq_true rfl) dX11_letout_2 (fun r1 u H locs hw hP hD hS => ?_)
  obtain ⟨hG2, hw⟩ := hw
  rcases hw with ⟨g3, g3_0, g3_1, g3_2⟩ | ⟨g3⟩
  · skip
    subst g3
    refine lv_if_eq (tgt := 41) hx hb dX11_letout_5 (by decide) (fun c0 => absurd c0 (by decide)) (fun _ => ?_)
    refine lv_iload_n hx hb dX11_letout_8 rfl (lv_at hl 2 rfl) ?_
    refine lv_iconst (v := 1) hx hb dX11_letout_9 (by decide) ?_
    refine lv_aload_n hx hb dX11_letout_10 rfl (lv_at hl 0 rfl) ?_
    refine va_get (D := (dC, dI)) (ci := 11) (v := .ref (r 59)) (C := RX11) (T := TX11) (N := 79) hx hb hts inB_11 hown hE.1 hP 0 rfl rfl 59 (by decide) (hts _ k_1379) (fun _ h9 => h9) rfl dX11_letout_11 ?_
    refine lv_bipush (v := 24) hx hb dX11_letout_14 (by decide) ?_
    refine lv_iload_n hx hb dX11_letout_16 rfl (lv_at hl 1 rfl) ?_
    refine lv_iadd hx hb dX11_letout_17 ?_
    refine lv_topi (fun t4 et4 => ?_)
    have rg5 := fb_rng p1
    have zt4 : t4.toInt = 24 + p1.toInt := by rw [et4]; exact add_i (by decide) rfl (by omega) (by omega)
    refine ldI hx hb hE hP 24 rfl (vp_in_iff.mpr ⟨by omega, by omega⟩) rfl rfl dX11_letout_18 ?_
    refine lv_topi (fun t6 et6 => ?_)
    have zt6 : t4.toInt.toNat % 39 < 6 ∨ 12 ≤ t4.toInt.toNat % 39 ∨ (-1 ≤ t6.toInt ∧ t6.toInt ≤ 5) := by rw [et6]; exact wear_ld hCf.1 (show t4.toInt.toNat < 39 by omega)
    have lt7 : (1 : Int32).toInt = 1 := by decide
    refine cbSi (n := 3) (rest := []) hx hb hml hown hts hE hP hD hS hA (sY_X11_isIn_1 NF l dC dI cy y0 r p2 1 t6 v f w g hIv hCf hRf ) k_1736 k_1737 k_114 k_1738 (by decide +kernel) ⟨Nat.le_of_ble_eq_true rfl, Nat.le_of_ble_eq_true rfl⟩ (rfl) hl.1 rfl (Nat.le_of_ble_eq_true rfl) dX11_letout_19 (fun r8 u H locs hw hP hD hS => ?_)
    obtain ⟨hG9, hw⟩ := hw
    rcases hw with ⟨g10, g10_0, g10_1⟩ | ⟨g10⟩
    · skip
      subst g10
      refine lv_if_eq (tgt := 41) hx hb dX11_letout_22 (by decide) (fun c0 => absurd c0 (by decide)) (fun _ => ?_)
      refine lv_aload_n hx hb dX11_letout_25 rfl (lv_at hl 0 rfl) ?_
      refine va_get (D := (dC, dI)) (ci := 11) (v := .ref (r 59)) (C := RX11) (T := TX11) (N := 79) hx hb hts inB_11 hown hE.1 hP 0 rfl rfl 59 (by decide) (hts _ k_1379) (fun _ h9 => h9) rfl dX11_letout_26 ?_
      refine lv_bipush (v := 18) hx hb dX11_letout_29 (by decide) ?_
      refine lv_iload_n hx hb dX11_letout_31 rfl (lv_at hl 1 rfl) ?_
      refine lv_iadd hx hb dX11_letout_32 ?_
      refine lv_topi (fun t11 et11 => ?_)
      have zt11 : t11.toInt = 18 + p1.toInt := by rw [et11]; exact add_i (by decide) rfl (by omega) (by omega)
      refine ldI hx hb hE hP 24 rfl (vp_in_iff.mpr ⟨by omega, by omega⟩) rfl rfl dX11_letout_33 ?_
      refine lv_topi (fun t12 et12 => ?_)
      have zt12 : t11.toInt.toNat % 39 < 6 ∨ 12 ≤ t11.toInt.toNat % 39 ∨ (-1 ≤ t12.toInt ∧ t12.toInt ≤ 5) := by rw [et12]; exact wear_ld hCf.1 (show t11.toInt.toNat < 39 by omega)
      refine lv_iload_n hx hb dX11_letout_34 rfl (lv_at hl 2 rfl) ?_
      refine lv_iadd hx hb dX11_letout_35 ?_
      refine lv_topi (fun t13 et13 => ?_)
      refine lv_bipush (v := 99) hx hb dX11_letout_36 (by decide) ?_
      refine lv_icmp_le (tgt := 43) hx hb dX11_letout_38 (by decide) (fun c14 => ?_) (fun c14 => ?_)
      · skip
        have zc14 : t13.toInt ≤ 99 := by rw [fa_le, show (99 : Int32).toInt = 99 from by decide] at c14; exact c14
        refine lv_aload_n hx hb dX11_letout_43 rfl (lv_at hl 0 rfl) ?_
        refine cbVv (n := 0) (rest := []) hx hb hml hown hts hE hP hD hS hA (sY_X11_act_1 NF l dC dI cy y0 r  v f w g hIv hCf hRf ) k_1787 k_1789 k_77 k_114 k_1790 (by decide +kernel) ⟨Nat.le_of_ble_eq_true rfl, Nat.le_of_ble_eq_true rfl⟩ 0 11 rfl rfl (rfl) hl.1 rfl (Nat.le_of_ble_eq_true rfl) dX11_letout_44 (fun u H locs hw hP hD hS => ?_)
        obtain ⟨hG15, hw⟩ := hw
        obtain ⟨v16, f17, w18, g19⟩ := u
        obtain ⟨kV_v16, kF_f17, hIv16, hCf17, hRf17, hk0_v16, hk1_v16, hk2_v16, hk3_v16, hk4_v16, hk5_v16, hk8_v16, hk9_v16, hk10_v16, hk13_v16, hk14_v16, hk15_v16, hk17_v16, hk18_v16, hk24_v16, hk25_v16, hk38_v16, hk39_v16⟩ := hw
        have hM_v16 : KV [35, 36] v16 v := KV.tr kV_v16 hM_v rfl
        have hA_f17 : KF [23, 24, 25] f17 f := KF.tr kF_f17 hA_f rfl
        have hP : va_P (dC, dI) vwCl (YW cy y0 r v16 f17 w18 g19) H := hP
        have hD : va_D A (YW cy y0 r v16 f17 w18 g19) := hD
        have hUv16 : (v16 35).toInt + (v16 36).toInt ≤ 40 := hIv16.2
        have hq9_v16 : v16 9 = (v 9) := hk9_v16
        have zq9_v16 := congrArg Int32.toInt hq9_v16
        refine lv_aload_n hx hb dX11_letout_47 rfl (lv_at hl 0 rfl) ?_
        refine va_get (D := (dC, dI)) (ci := 11) (v := .ref (r 59)) (C := RX11) (T := TX11) (N := 79) hx hb hts inB_11 hown hE.1 hP 0 rfl rfl 59 (by decide) (hts _ k_1379) (fun _ h9 => h9) rfl dX11_letout_48 ?_
        refine lv_bipush (v := 24) hx hb dX11_letout_51 (by decide) ?_
        refine lv_iload_n hx hb dX11_letout_53 rfl (lv_at hl 1 rfl) ?_
        refine lv_iadd hx hb dX11_letout_54 ?_
        refine tI (y := t4) et4.symm ?_
        refine lv_dup2_11 hx hb dX11_letout_55 rfl rfl ?_
        refine ldI hx hb hE hP 24 rfl (vp_in_iff.mpr ⟨by omega, by omega⟩) rfl rfl dX11_letout_56 ?_
        refine lv_topi (fun t20 et20 => ?_)
        have zt20 : t4.toInt.toNat % 39 < 6 ∨ 12 ≤ t4.toInt.toNat % 39 ∨ (-1 ≤ t20.toInt ∧ t20.toInt ≤ 5) := by rw [et20]; exact wear_ld hCf17.1 (show t4.toInt.toNat < 39 by omega)
        refine lv_iload_n hx hb dX11_letout_57 rfl (lv_at hl 2 rfl) ?_
        refine lv_isub hx hb dX11_letout_58 ?_
        refine lv_topi (fun t21 et21 => ?_)
        refine stI hx hb hE hP hD hS 24 rfl (vp_in_iff.mpr ⟨by omega, by omega⟩) rfl dX11_letout_59 (fun H locs hP hD hS => ?_)
        obtain ⟨f22, ef22, hP, hD⟩ : ∃ fz9, fz9 = upd2 f17 23 (upd (f17 23) t4.toNatClampNeg t21) ∧ va_P (dC, dI) vwCl (YW cy y0 r v16 fz9 w18 g19) H ∧ va_D A (YW cy y0 r v16 fz9 w18 g19) := ⟨_, rfl, hP, hD⟩
        have hCf22 : YC f22 := by rw [ef22]; exact ⟨(wear_st hCf17.1 (by show t4.toInt.toNat % 39 < 6 ∨ 12 ≤ t4.toInt.toNat % 39 ∨ (-1 ≤ t21.toInt ∧ t21.toInt ≤ 5); omega)), hCf17.2.1, hCf17.2.2.1, hCf17.2.2.2.1, hCf17.2.2.2.2.1, hCf17.2.2.2.2.2⟩
        have hRf22 : progOK (f22 4) (f22 5) (v16 9).toInt.toNat := by rw [ef22]; exact hRf17
        have hA_f22 : KF [23, 24, 25] f22 f := by rw [ef22]; exact KF.up hA_f17 rfl
        refine lv_aload_n hx hb dX11_letout_60 rfl (lv_at hl 0 rfl) ?_
        refine va_get (D := (dC, dI)) (ci := 11) (v := .ref (r 59)) (C := RX11) (T := TX11) (N := 79) hx hb hts inB_11 hown hE.1 hP 0 rfl rfl 59 (by decide) (hts _ k_1379) (fun _ h9 => h9) rfl dX11_letout_61 ?_
        refine lv_bipush (v := 18) hx hb dX11_letout_64 (by decide) ?_
        refine lv_iload_n hx hb dX11_letout_66 rfl (lv_at hl 1 rfl) ?_
        refine lv_iadd hx hb dX11_letout_67 ?_
        refine tI (y := t11) et11.symm ?_
        refine lv_dup2_11 hx hb dX11_letout_68 rfl rfl ?_
        refine ldI hx hb hE hP 24 rfl (vp_in_iff.mpr ⟨by omega, by omega⟩) rfl rfl dX11_letout_69 ?_
        refine lv_topi (fun t23 et23 => ?_)
        have zt23 : t11.toInt.toNat % 39 < 6 ∨ 12 ≤ t11.toInt.toNat % 39 ∨ (-1 ≤ t23.toInt ∧ t23.toInt ≤ 5) := by rw [et23]; exact wear_ld hCf22.1 (show t11.toInt.toNat < 39 by omega)
        refine lv_iload_n hx hb dX11_letout_70 rfl (lv_at hl 2 rfl) ?_
        refine lv_iadd hx hb dX11_letout_71 ?_
        refine lv_topi (fun t24 et24 => ?_)
        refine stI hx hb hE hP hD hS 24 rfl (vp_in_iff.mpr ⟨by omega, by omega⟩) rfl dX11_letout_72 (fun H locs hP hD hS => ?_)
        obtain ⟨f25, ef25, hP, hD⟩ : ∃ fz9, fz9 = upd2 f22 23 (upd (f22 23) t11.toNatClampNeg t24) ∧ va_P (dC, dI) vwCl (YW cy y0 r v16 fz9 w18 g19) H ∧ va_D A (YW cy y0 r v16 fz9 w18 g19) := ⟨_, rfl, hP, hD⟩
        have hCf25 : YC f25 := by rw [ef25]; exact ⟨(wear_st hCf22.1 (by show t11.toInt.toNat % 39 < 6 ∨ 12 ≤ t11.toInt.toNat % 39 ∨ (-1 ≤ t24.toInt ∧ t24.toInt ≤ 5); omega)), hCf22.2.1, hCf22.2.2.1, hCf22.2.2.2.1, hCf22.2.2.2.2.1, hCf22.2.2.2.2.2⟩
        have hRf25 : progOK (f25 4) (f25 5) (v16 9).toInt.toNat := by rw [ef25]; exact hRf22
        have hA_f25 : KF [23, 24, 25] f25 f := by rw [ef25]; exact KF.up hA_f22 rfl
        refine lv_aload_n hx hb dX11_letout_73 rfl (lv_at hl 0 rfl) ?_
        refine va_get (D := (dC, dI)) (ci := 11) (v := .ref (r 59)) (C := RX11) (T := TX11) (N := 79) hx hb hts inB_11 hown hE.1 hP 0 rfl rfl 59 (by decide) (hts _ k_1379) (fun _ h9 => h9) rfl dX11_letout_74 ?_
        refine lv_bipush (v := 18) hx hb dX11_letout_77 (by decide) ?_
        refine lv_iload_n hx hb dX11_letout_79 rfl (lv_at hl 1 rfl) ?_
        refine lv_iadd hx hb dX11_letout_80 ?_
        refine tI (y := t11) et11.symm ?_
        refine ldI hx hb hE hP 24 rfl (vp_in_iff.mpr ⟨by omega, by omega⟩) rfl rfl dX11_letout_81 ?_
        refine lv_topi (fun t26 et26 => ?_)
        have zt26 : t11.toInt.toNat % 39 < 6 ∨ 12 ≤ t11.toInt.toNat % 39 ∨ (-1 ≤ t26.toInt ∧ t26.toInt ≤ 5) := by rw [et26]; exact wear_ld hCf25.1 (show t11.toInt.toNat < 39 by omega)
        exact ret t26 (v16, f25, w18, g19) _ _ _ _ _ _ rfl ⟨(gsY_X11_letout_1_q0 hG2 et4 et6 hG9 et11 et12 et13 c14 hG15 et20 et21 ef22 et23 et24 ef25 et26), hM_v16, hA_f25, hIv16, hCf25, hRf25, hk0_v16, hk1_v16, hk2_v16, hk3_v16, hk4_v16, hk5_v16, hk8_v16, hk9_v16, hk10_v16, hk13_v16, hk14_v16, hk15_v16, hk17_v16, hk18_v16, hk24_v16, hk25_v16, hk38_v16, hk39_v16⟩ hP hD hS dX11_letout_82 (Nat.le_refl _) (Nat.le_refl _)
      · skip
        have zc14 : ¬ (t13.toInt ≤ 99) := by rw [fa_le, show (99 : Int32).toInt = 99 from by decide] at c14; exact c14
        refine lv_iconst (v := (-1)) hx hb dX11_letout_41 (by decide) ?_
        exact ret (-1) (v, f, w, g) _ _ _ _ _ _ rfl ⟨(gsY_X11_letout_1_q1 hG2 et4 et6 hG9 et11 et12 et13 c14), hM_v, hA_f, hIv, hCf, hRf, rfl, rfl, rfl, rfl, rfl, rfl, rfl, rfl, rfl, rfl, rfl, rfl, rfl, rfl, rfl, rfl, rfl, rfl⟩ hP hD hS dX11_letout_42 (Nat.le_refl _) (Nat.le_refl _)
    · skip
      subst g10
      refine lv_if_eq (tgt := 41) hx hb dX11_letout_22 (by decide) (fun _ => ?_) (fun c0 => absurd (by decide) c0)
      refine lv_iconst (v := (-1)) hx hb dX11_letout_41 (by decide) ?_
      exact ret (-1) (v, f, w, g) _ _ _ _ _ _ rfl ⟨(gsY_X11_letout_1_q2 hG2 et4 et6 hG9), hM_v, hA_f, hIv, hCf, hRf, rfl, rfl, rfl, rfl, rfl, rfl, rfl, rfl, rfl, rfl, rfl, rfl, rfl, rfl, rfl, rfl, rfl, rfl⟩ hP hD hS dX11_letout_42 (Nat.le_refl _) (Nat.le_refl _)
  · skip
    subst g3
    refine lv_if_eq (tgt := 41) hx hb dX11_letout_5 (by decide) (fun _ => ?_) (fun c0 => absurd (by decide) c0)
    refine lv_iconst (v := (-1)) hx hb dX11_letout_41 (by decide) ?_
    exact ret (-1) (v, f, w, g) _ _ _ _ _ _ rfl ⟨(gsY_X11_letout_1_q3 hG2), hM_v, hA_f, hIv, hCf, hRf, rfl, rfl, rfl, rfl, rfl, rfl, rfl, rfl, rfl, rfl, rfl, rfl, rfl, rfl, rfl, rfl, rfl, rfl⟩ hP hD hS dX11_letout_42 (Nat.le_refl _) (Nat.le_refl _)
set_option maxHeartbeats 4000000 in
set_option maxRecDepth 100000 in
theorem sY_X11_takein_1 (NF : Nat) (l : Launch) (dC : Nat → ClassId) (dI : Nat → Nat → Nat) (cy : Nat → ClassId) (y0 : Nat) (r : Nat → Nat) (p1 : Int32) (p2 : Int32) (v : Nat → Int32) (f : Nat → Nat → Int32) (w : Int64) (g : Nat → Int64) (hIv : YI v) (hCf : YC f) (hRf : progOK (f 4) (f 5) (v 9).toInt.toNat)  : ctI l (dC, dI) cy yX11_takein cX11_takein 3 .int 3 103 0 0 ((Nat → Int32) × (Nat → Nat → Int32) × (Int64) × (Nat → Int64)) [.ref y0, .int p1, .int p2] (YW cy y0 r v f w g) (fun r u => gsY_X11_takein_1 NF p1 p2 v f w g = (r, u) ∧ KV [35, 36] u.1 v ∧ KF [23, 24, 25] u.2.1 f ∧ YI u.1 ∧ YC u.2.1 ∧ progOK (u.2.1 4) (u.2.1 5) (u.1 9).toInt.toNat ∧ u.1 0 = v 0 ∧ u.1 1 = v 1 ∧ u.1 2 = v 2 ∧ u.1 3 = v 3 ∧ u.1 4 = v 4 ∧ u.1 5 = v 5 ∧ u.1 8 = v 8 ∧ u.1 9 = v 9 ∧ u.1 10 = v 10 ∧ u.1 13 = v 13 ∧ u.1 14 = v 14 ∧ u.1 15 = v 15 ∧ u.1 17 = v 17 ∧ u.1 18 = v 18 ∧ u.1 24 = v 24 ∧ u.1 25 = v 25 ∧ u.1 38 = v 38 ∧ u.1 39 = v 39) (fun u => YW cy y0 r u.1 u.2.1 u.2.2.1 u.2.2.2) := by
  refine ctI_of (by decide) (Nat.le_of_ble_eq_true rfl) (fun p e s m below meth c A ls Q hx hb hml hts hown hE hP hD hA hl ret => ?_)
  have hUv : (v 35).toInt + (v 36).toInt ≤ 40 := hIv.2
  have hM_v : KV [35, 36] v v := fun _ _ => rfl
  have hA_f : KF [23, 24, 25] f f := fun _ _ => rfl
  have hown : s.vm.findClass RX11 = some m.cls := hown
  have hS : va_S A s.heap s.heap [] := va_S.rf
  have hl : lv_has ls 3 [(0, .ref y0), (1, .int p1), (2, .int p2)] := hl
  refine lv_aload_n hx hb dX11_takein_0 rfl (lv_at hl 0 rfl) ?_
  refine lv_iload_n hx hb dX11_takein_1 rfl (lv_at hl 1 rfl) ?_
  refine cbVi (n := 1) (rest := []) hx hb hml hown hts hE hP hD hS hA (sY_X11_isCoat_1 NF l dC dI cy y0 r p1 v f w g hIv hCf hRf ) k_1771 k_1773 k_75 k_114 k_1774 (by decide +kernel) ⟨Nat.le_of_ble_eq_true rfl, Nat.le_of_ble_eq_true rfl⟩ 0 11 rfl rfl (rfl) hl.1 rfl (Nat.le_of_ble_eq_true rfl) dX11_takein_2 (fun r1 u H locs hw hP hD hS => ?_)
  obtain ⟨hG2, hw⟩ := hw
  rcases hw with ⟨g3, g3_0, g3_1, g3_2⟩ | ⟨g3⟩
  · skip
    subst g3
    refine lv_if_eq (tgt := 41) hx hb dX11_takein_5 (by decide) (fun c0 => absurd c0 (by decide)) (fun _ => ?_)
    refine lv_iload_n hx hb dX11_takein_8 rfl (lv_at hl 2 rfl) ?_
    refine lv_iconst (v := 1) hx hb dX11_takein_9 (by decide) ?_
    refine lv_aload_n hx hb dX11_takein_10 rfl (lv_at hl 0 rfl) ?_
    refine va_get (D := (dC, dI)) (ci := 11) (v := .ref (r 59)) (C := RX11) (T := TX11) (N := 79) hx hb hts inB_11 hown hE.1 hP 0 rfl rfl 59 (by decide) (hts _ k_1379) (fun _ h9 => h9) rfl dX11_takein_11 ?_
    refine lv_bipush (v := 18) hx hb dX11_takein_14 (by decide) ?_
    refine lv_iload_n hx hb dX11_takein_16 rfl (lv_at hl 1 rfl) ?_
    refine lv_iadd hx hb dX11_takein_17 ?_
    refine lv_topi (fun t4 et4 => ?_)
    have rg5 := fb_rng p1
    have zt4 : t4.toInt = 18 + p1.toInt := by rw [et4]; exact add_i (by decide) rfl (by omega) (by omega)
    refine ldI hx hb hE hP 24 rfl (vp_in_iff.mpr ⟨by omega, by omega⟩) rfl rfl dX11_takein_18 ?_
    refine lv_topi (fun t6 et6 => ?_)
    have zt6 : t4.toInt.toNat % 39 < 6 ∨ 12 ≤ t4.toInt.toNat % 39 ∨ (-1 ≤ t6.toInt ∧ t6.toInt ≤ 5) := by rw [et6]; exact wear_ld hCf.1 (show t4.toInt.toNat < 39 by omega)
    have lt7 : (1 : Int32).toInt = 1 := by decide
    refine cbSi (n := 3) (rest := []) hx hb hml hown hts hE hP hD hS hA (sY_X11_isIn_1 NF l dC dI cy y0 r p2 1 t6 v f w g hIv hCf hRf ) k_1736 k_1737 k_114 k_1738 (by decide +kernel) ⟨Nat.le_of_ble_eq_true rfl, Nat.le_of_ble_eq_true rfl⟩ (rfl) hl.1 rfl (Nat.le_of_ble_eq_true rfl) dX11_takein_19 (fun r8 u H locs hw hP hD hS => ?_)
    obtain ⟨hG9, hw⟩ := hw
    rcases hw with ⟨g10, g10_0, g10_1⟩ | ⟨g10⟩
    · skip
      subst g10
      refine lv_if_eq (tgt := 41) hx hb dX11_takein_22 (by decide) (fun c0 => absurd c0 (by decide)) (fun _ => ?_)
      refine lv_aload_n hx hb dX11_takein_25 rfl (lv_at hl 0 rfl) ?_
      refine va_get (D := (dC, dI)) (ci := 11) (v := .ref (r 59)) (C := RX11) (T := TX11) (N := 79) hx hb hts inB_11 hown hE.1 hP 0 rfl rfl 59 (by decide) (hts _ k_1379) (fun _ h9 => h9) rfl dX11_takein_26 ?_
      refine lv_bipush (v := 24) hx hb dX11_takein_29 (by decide) ?_
      refine lv_iload_n hx hb dX11_takein_31 rfl (lv_at hl 1 rfl) ?_
      refine lv_iadd hx hb dX11_takein_32 ?_
      refine lv_topi (fun t11 et11 => ?_)
      have zt11 : t11.toInt = 24 + p1.toInt := by rw [et11]; exact add_i (by decide) rfl (by omega) (by omega)
      refine ldI hx hb hE hP 24 rfl (vp_in_iff.mpr ⟨by omega, by omega⟩) rfl rfl dX11_takein_33 ?_
      refine lv_topi (fun t12 et12 => ?_)
      have zt12 : t11.toInt.toNat % 39 < 6 ∨ 12 ≤ t11.toInt.toNat % 39 ∨ (-1 ≤ t12.toInt ∧ t12.toInt ≤ 5) := by rw [et12]; exact wear_ld hCf.1 (show t11.toInt.toNat < 39 by omega)
      refine lv_iload_n hx hb dX11_takein_34 rfl (lv_at hl 2 rfl) ?_
      refine lv_iadd hx hb dX11_takein_35 ?_
      refine lv_topi (fun t13 et13 => ?_)
      refine lv_bipush (v := 99) hx hb dX11_takein_36 (by decide) ?_
      refine lv_icmp_le (tgt := 43) hx hb dX11_takein_38 (by decide) (fun c14 => ?_) (fun c14 => ?_)
      · skip
        have zc14 : t13.toInt ≤ 99 := by rw [fa_le, show (99 : Int32).toInt = 99 from by decide] at c14; exact c14
        refine lv_aload_n hx hb dX11_takein_43 rfl (lv_at hl 0 rfl) ?_
        refine cbVv (n := 0) (rest := []) hx hb hml hown hts hE hP hD hS hA (sY_X11_act_1 NF l dC dI cy y0 r  v f w g hIv hCf hRf ) k_1787 k_1789 k_77 k_114 k_1790 (by decide +kernel) ⟨Nat.le_of_ble_eq_true rfl, Nat.le_of_ble_eq_true rfl⟩ 0 11 rfl rfl (rfl) hl.1 rfl (Nat.le_of_ble_eq_true rfl) dX11_takein_44 (fun u H locs hw hP hD hS => ?_)
        obtain ⟨hG15, hw⟩ := hw
        obtain ⟨v16, f17, w18, g19⟩ := u
        obtain ⟨kV_v16, kF_f17, hIv16, hCf17, hRf17, hk0_v16, hk1_v16, hk2_v16, hk3_v16, hk4_v16, hk5_v16, hk8_v16, hk9_v16, hk10_v16, hk13_v16, hk14_v16, hk15_v16, hk17_v16, hk18_v16, hk24_v16, hk25_v16, hk38_v16, hk39_v16⟩ := hw
        have hM_v16 : KV [35, 36] v16 v := KV.tr kV_v16 hM_v rfl
        have hA_f17 : KF [23, 24, 25] f17 f := KF.tr kF_f17 hA_f rfl
        have hP : va_P (dC, dI) vwCl (YW cy y0 r v16 f17 w18 g19) H := hP
        have hD : va_D A (YW cy y0 r v16 f17 w18 g19) := hD
        have hUv16 : (v16 35).toInt + (v16 36).toInt ≤ 40 := hIv16.2
        have hq9_v16 : v16 9 = (v 9) := hk9_v16
        have zq9_v16 := congrArg Int32.toInt hq9_v16
        refine lv_aload_n hx hb dX11_takein_47 rfl (lv_at hl 0 rfl) ?_
        refine va_get (D := (dC, dI)) (ci := 11) (v := .ref (r 59)) (C := RX11) (T := TX11) (N := 79) hx hb hts inB_11 hown hE.1 hP 0 rfl rfl 59 (by decide) (hts _ k_1379) (fun _ h9 => h9) rfl dX11_takein_48 ?_
        refine lv_bipush (v := 24) hx hb dX11_takein_51 (by decide) ?_
        refine lv_iload_n hx hb dX11_takein_53 rfl (lv_at hl 1 rfl) ?_
        refine lv_iadd hx hb dX11_takein_54 ?_
        refine tI (y := t11) et11.symm ?_
        refine lv_dup2_11 hx hb dX11_takein_55 rfl rfl ?_
        refine ldI hx hb hE hP 24 rfl (vp_in_iff.mpr ⟨by omega, by omega⟩) rfl rfl dX11_takein_56 ?_
        refine lv_topi (fun t20 et20 => ?_)
        have zt20 : t11.toInt.toNat % 39 < 6 ∨ 12 ≤ t11.toInt.toNat % 39 ∨ (-1 ≤ t20.toInt ∧ t20.toInt ≤ 5) := by rw [et20]; exact wear_ld hCf17.1 (show t11.toInt.toNat < 39 by omega)
        refine lv_iload_n hx hb dX11_takein_57 rfl (lv_at hl 2 rfl) ?_
        refine lv_iadd hx hb dX11_takein_58 ?_
        refine lv_topi (fun t21 et21 => ?_)
        refine stI hx hb hE hP hD hS 24 rfl (vp_in_iff.mpr ⟨by omega, by omega⟩) rfl dX11_takein_59 (fun H locs hP hD hS => ?_)
        obtain ⟨f22, ef22, hP, hD⟩ : ∃ fz9, fz9 = upd2 f17 23 (upd (f17 23) t11.toNatClampNeg t21) ∧ va_P (dC, dI) vwCl (YW cy y0 r v16 fz9 w18 g19) H ∧ va_D A (YW cy y0 r v16 fz9 w18 g19) := ⟨_, rfl, hP, hD⟩
        have hCf22 : YC f22 := by rw [ef22]; exact ⟨(wear_st hCf17.1 (by show t11.toInt.toNat % 39 < 6 ∨ 12 ≤ t11.toInt.toNat % 39 ∨ (-1 ≤ t21.toInt ∧ t21.toInt ≤ 5); omega)), hCf17.2.1, hCf17.2.2.1, hCf17.2.2.2.1, hCf17.2.2.2.2.1, hCf17.2.2.2.2.2⟩
        have hRf22 : progOK (f22 4) (f22 5) (v16 9).toInt.toNat := by rw [ef22]; exact hRf17
        have hA_f22 : KF [23, 24, 25] f22 f := by rw [ef22]; exact KF.up hA_f17 rfl
        refine lv_aload_n hx hb dX11_takein_60 rfl (lv_at hl 0 rfl) ?_
        refine va_get (D := (dC, dI)) (ci := 11) (v := .ref (r 59)) (C := RX11) (T := TX11) (N := 79) hx hb hts inB_11 hown hE.1 hP 0 rfl rfl 59 (by decide) (hts _ k_1379) (fun _ h9 => h9) rfl dX11_takein_61 ?_
        refine lv_bipush (v := 18) hx hb dX11_takein_64 (by decide) ?_
        refine lv_iload_n hx hb dX11_takein_66 rfl (lv_at hl 1 rfl) ?_
        refine lv_iadd hx hb dX11_takein_67 ?_
        refine tI (y := t4) et4.symm ?_
        refine lv_dup2_11 hx hb dX11_takein_68 rfl rfl ?_
        refine ldI hx hb hE hP 24 rfl (vp_in_iff.mpr ⟨by omega, by omega⟩) rfl rfl dX11_takein_69 ?_
        refine lv_topi (fun t23 et23 => ?_)
        have zt23 : t4.toInt.toNat % 39 < 6 ∨ 12 ≤ t4.toInt.toNat % 39 ∨ (-1 ≤ t23.toInt ∧ t23.toInt ≤ 5) := by rw [et23]; exact wear_ld hCf22.1 (show t4.toInt.toNat < 39 by omega)
        refine lv_iload_n hx hb dX11_takein_70 rfl (lv_at hl 2 rfl) ?_
        refine lv_isub hx hb dX11_takein_71 ?_
        refine lv_topi (fun t24 et24 => ?_)
        refine stI hx hb hE hP hD hS 24 rfl (vp_in_iff.mpr ⟨by omega, by omega⟩) rfl dX11_takein_72 (fun H locs hP hD hS => ?_)
        obtain ⟨f25, ef25, hP, hD⟩ : ∃ fz9, fz9 = upd2 f22 23 (upd (f22 23) t4.toNatClampNeg t24) ∧ va_P (dC, dI) vwCl (YW cy y0 r v16 fz9 w18 g19) H ∧ va_D A (YW cy y0 r v16 fz9 w18 g19) := ⟨_, rfl, hP, hD⟩
        have hCf25 : YC f25 := by rw [ef25]; exact ⟨(wear_st hCf22.1 (by show t4.toInt.toNat % 39 < 6 ∨ 12 ≤ t4.toInt.toNat % 39 ∨ (-1 ≤ t24.toInt ∧ t24.toInt ≤ 5); omega)), hCf22.2.1, hCf22.2.2.1, hCf22.2.2.2.1, hCf22.2.2.2.2.1, hCf22.2.2.2.2.2⟩
        have hRf25 : progOK (f25 4) (f25 5) (v16 9).toInt.toNat := by rw [ef25]; exact hRf22
        have hA_f25 : KF [23, 24, 25] f25 f := by rw [ef25]; exact KF.up hA_f22 rfl
        refine lv_aload_n hx hb dX11_takein_73 rfl (lv_at hl 0 rfl) ?_
        refine va_get (D := (dC, dI)) (ci := 11) (v := .ref (r 59)) (C := RX11) (T := TX11) (N := 79) hx hb hts inB_11 hown hE.1 hP 0 rfl rfl 59 (by decide) (hts _ k_1379) (fun _ h9 => h9) rfl dX11_takein_74 ?_
        refine lv_bipush (v := 18) hx hb dX11_takein_77 (by decide) ?_
        refine lv_iload_n hx hb dX11_takein_79 rfl (lv_at hl 1 rfl) ?_
        refine lv_iadd hx hb dX11_takein_80 ?_
        refine tI (y := t4) et4.symm ?_
        refine ldI hx hb hE hP 24 rfl (vp_in_iff.mpr ⟨by omega, by omega⟩) rfl rfl dX11_takein_81 ?_
        refine lv_topi (fun t26 et26 => ?_)
        have zt26 : t4.toInt.toNat % 39 < 6 ∨ 12 ≤ t4.toInt.toNat % 39 ∨ (-1 ≤ t26.toInt ∧ t26.toInt ≤ 5) := by rw [et26]; exact wear_ld hCf25.1 (show t4.toInt.toNat < 39 by omega)
        exact ret t26 (v16, f25, w18, g19) _ _ _ _ _ _ rfl ⟨(gsY_X11_takein_1_q0 hG2 et4 et6 hG9 et11 et12 et13 c14 hG15 et20 et21 ef22 et23 et24 ef25 et26), hM_v16, hA_f25, hIv16, hCf25, hRf25, hk0_v16, hk1_v16, hk2_v16, hk3_v16, hk4_v16, hk5_v16, hk8_v16, hk9_v16, hk10_v16, hk13_v16, hk14_v16, hk15_v16, hk17_v16, hk18_v16, hk24_v16, hk25_v16, hk38_v16, hk39_v16⟩ hP hD hS dX11_takein_82 (Nat.le_refl _) (Nat.le_refl _)
      · skip
        have zc14 : ¬ (t13.toInt ≤ 99) := by rw [fa_le, show (99 : Int32).toInt = 99 from by decide] at c14; exact c14
        refine lv_iconst (v := (-1)) hx hb dX11_takein_41 (by decide) ?_
        exact ret (-1) (v, f, w, g) _ _ _ _ _ _ rfl ⟨(gsY_X11_takein_1_q1 hG2 et4 et6 hG9 et11 et12 et13 c14), hM_v, hA_f, hIv, hCf, hRf, rfl, rfl, rfl, rfl, rfl, rfl, rfl, rfl, rfl, rfl, rfl, rfl, rfl, rfl, rfl, rfl, rfl, rfl⟩ hP hD hS dX11_takein_42 (Nat.le_refl _) (Nat.le_refl _)
    · skip
      subst g10
      refine lv_if_eq (tgt := 41) hx hb dX11_takein_22 (by decide) (fun _ => ?_) (fun c0 => absurd (by decide) c0)
      refine lv_iconst (v := (-1)) hx hb dX11_takein_41 (by decide) ?_
      exact ret (-1) (v, f, w, g) _ _ _ _ _ _ rfl ⟨(gsY_X11_takein_1_q2 hG2 et4 et6 hG9), hM_v, hA_f, hIv, hCf, hRf, rfl, rfl, rfl, rfl, rfl, rfl, rfl, rfl, rfl, rfl, rfl, rfl, rfl, rfl, rfl, rfl, rfl, rfl⟩ hP hD hS dX11_takein_42 (Nat.le_refl _) (Nat.le_refl _)
  · skip
    subst g3
    refine lv_if_eq (tgt := 41) hx hb dX11_takein_5 (by decide) (fun _ => ?_) (fun c0 => absurd (by decide) c0)
    refine lv_iconst (v := (-1)) hx hb dX11_takein_41 (by decide) ?_
    exact ret (-1) (v, f, w, g) _ _ _ _ _ _ rfl ⟨(gsY_X11_takein_1_q3 hG2), hM_v, hA_f, hIv, hCf, hRf, rfl, rfl, rfl, rfl, rfl, rfl, rfl, rfl, rfl, rfl, rfl, rfl, rfl, rfl, rfl, rfl, rfl, rfl⟩ hP hD hS dX11_takein_42 (Nat.le_refl _) (Nat.le_refl _)
